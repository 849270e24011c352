set_option maxHeartbeats 4000000 in
set_option maxRecDepth 100000 in
theorem r_X7_addMark (l : Launch) (dC : Nat → ClassId) (dI : Nat → Nat → Nat) (L : List Nat) (kd : Nat → Nat) (tys : List (ClassId × FieldType)) (f0 : Nat → va_E) (sz : Nat) (hWT : WT L kd tys f0) (a0_ : Nat) (ma0_ : a0_ ∈ L) (ka0_ : kd a0_ = 7) (x1_ : Int32) (x2_ : Int32) (x3_ : Int32) : Met l yX7_addMark (.code yX7_addMark cX7_addMark 5 (some .int) :: lw_g) ({ frames := 1, cells := 0, slots := 0, locals := 13 }) (va_Pc [.ref a0_, .int x1_, .int x2_, .int x3_] (P3 (dC, dI) L tys f0 sz)) (va_Qi (fun (r : Int32) (f : Nat → va_E) => (bd 0 499 r ∧ ∃ z0_ : Int32, bd 1 500 z0_ ∧ Fs L kd f [(7, 13, a0_, .int z0_)])) (Q3 (dC, dI) L kd tys [(7, 13)] [140, 141, 142, 143, 144, 145] f0 sz) (pA L sz)) 0 0 (pA L sz) := by
  refine Met.ofW (cc := cX7_addMark) (maxL := 5) (ret := (some .int)) (by decide) rfl ?_
  intro p e s m args below meth c s₁ B hml hv
  obtain ⟨rfl, hsz, hP, hK, hD0⟩ := hv
  have hx := B.exec
  have hb := B.bytes
  have hr := B.returns
  have hts := atoms_spec (ws := (.code yX7_addMark cX7_addMark 5 (some .int) :: lw_g)) B.pre
  have hown : s.vm.findClass RX7 = some m.cls := findClass_of_methodNamed B.named
  have hlocks := B.notSynchronized
  subst hsz
  have g : G3 (dC, dI) L kd tys s f0 [(7, 13)] [140, 141, 142, 143, 144, 145] f0 s.heap [] [] := G3.start hP hD0 hWT Fs.nil
  have hl := lv_entry ([.ref a0_, .int x1_, .int x2_, .int x3_]) (n := 5) (Nat.le_of_ble_eq_true rfl)
  rw [lg_entry_eq]
  generalize (lg_sl ([.ref a0_, .int x1_, .int x2_, .int x3_]) ++ List.replicate (5 - (lg_sl ([.ref a0_, .int x1_, .int x2_, .int x3_])).length) Slot.unset).toArray = ls at hl ⊢
  have hl : lv_has ls 5 [(0, .ref a0_), (1, .int x1_), (2, .int x2_), (3, .int x3_)] := hl
  refine W_q (fun Q hQ => ?_)
  refine lv_aload_n hx hb dX7_addMark_0 rfl (lv_at hl 0 rfl) ?_
  refine g_geti (C := RX7) (T := TX7) (N := 19) hx hb hts (mc_ inX7) hown hK g ma0_ ka0_ (by decide) rfl 13 (by decide) rfl (hts _ (List.mem_cons_of_mem _ t_666)) (fun _ h9 => h9) rfl dX7_addMark_1 (fun x_1 bx_1 g => ?_)
  refine lv_sipush (v := 499) hx hb dX7_addMark_4 (by decide) ?_
  have kb_499 : bd 499 499 (499 : Int32) := ⟨by decide, by decide⟩
  refine va_mmin hx hb (hml.trans hl.1.symm) hown (hts _ (List.mem_cons_of_mem _ t_1177)) (hts _ (List.mem_cons_of_mem _ t_998)) (hts _ (List.mem_cons_of_mem _ t_204)) (hts _ (List.mem_cons_of_mem _ t_999)) (Nat.le_of_ble_eq_true rfl) (Nat.le_of_ble_eq_true rfl) (Nat.le_of_ble_eq_true rfl) (Nat.le_of_ble_eq_true rfl) dX7_addMark_7 ?_
  refine lv_topi (fun y_2 ey_2 => ?_)
  have ty_2 : y_2.toInt = min x_1.toInt (499 : Int32).toInt := by rw [ey_2]; exact mmin_ok _ _
  have b_3 : bd 0 499 y_2 := min_rg ty_2 bx_1 kb_499 (by decide)
  refine lv_istore (lv' := [(4, .int y_2), (0, .ref a0_), (1, .int x1_), (2, .int x2_), (3, .int x3_)]) hx hb dX7_addMark_10 hl (by decide) rfl (fun ls hl => ?_)
  refine lv_aload_n hx hb dX7_addMark_12 rfl (lv_at hl 1 rfl) ?_
  refine g_getr (K := 140) (C := RX7) (T := TX7) (N := 19) hx hb hts (mc_ inX7) hown hK g ma0_ ka0_ (by decide) rfl 7 (by decide) rfl (hts _ (List.mem_cons_of_mem _ t_648)) (fun _ h9 => h9) rfl dX7_addMark_13 (fun a_4 ma_4 ka_4 g => ?_)
  refine lv_iload hx hb dX7_addMark_16 (lv_at hl 0 rfl) ?_
  refine lv_iload_n hx hb dX7_addMark_18 rfl (lv_at hl 2 rfl) ?_
  refine g_iast hx hb hK g ma_4 ka_4 (by decide) rfl (in_bd b_3 (by decide)) (bdT x1_) (by decide) dX7_addMark_19 (fun f H locs hM_5 g => ?_)
  refine lv_aload_n hx hb dX7_addMark_20 rfl (lv_at hl 1 rfl) ?_
  refine g_getr (K := 144) (C := RX7) (T := TX7) (N := 19) hx hb hts (mc_ inX7) hown hK g ma0_ ka0_ (by decide) rfl 11 (by decide) rfl (hts _ (List.mem_cons_of_mem _ t_661)) (fun _ h9 => h9) rfl dX7_addMark_21 (fun a_6 ma_6 ka_6 g => ?_)
  refine lv_iload hx hb dX7_addMark_24 (lv_at hl 0 rfl) ?_
  refine lv_iload_n hx hb dX7_addMark_26 rfl (lv_at hl 3 rfl) ?_
  refine g_iast hx hb hK g ma_6 ka_6 (by decide) rfl (in_bd b_3 (by decide)) (bdT x2_) (by decide) dX7_addMark_27 (fun f H locs hM_7 g => ?_)
  refine lv_aload_n hx hb dX7_addMark_28 rfl (lv_at hl 1 rfl) ?_
  refine g_getr (K := 142) (C := RX7) (T := TX7) (N := 19) hx hb hts (mc_ inX7) hown hK g ma0_ ka0_ (by decide) rfl 9 (by decide) rfl (hts _ (List.mem_cons_of_mem _ t_654)) (fun _ h9 => h9) rfl dX7_addMark_29 (fun a_8 ma_8 ka_8 g => ?_)
  refine lv_iload hx hb dX7_addMark_32 (lv_at hl 0 rfl) ?_
  refine lv_iload_n hx hb dX7_addMark_34 rfl (lv_at hl 4 rfl) ?_
  refine g_iast hx hb hK g ma_8 ka_8 (by decide) rfl (in_bd b_3 (by decide)) (bdT x3_) (by decide) dX7_addMark_35 (fun f H locs hM_9 g => ?_)
  refine lv_aload_n hx hb dX7_addMark_36 rfl (lv_at hl 1 rfl) ?_
  refine g_getr (K := 141) (C := RX7) (T := TX7) (N := 19) hx hb hts (mc_ inX7) hown hK g ma0_ ka0_ (by decide) rfl 8 (by decide) rfl (hts _ (List.mem_cons_of_mem _ t_651)) (fun _ h9 => h9) rfl dX7_addMark_37 (fun a_10 ma_10 ka_10 g => ?_)
  refine lv_iload hx hb dX7_addMark_40 (lv_at hl 0 rfl) ?_
  refine lv_aload_n hx hb dX7_addMark_42 rfl (lv_at hl 1 rfl) ?_
  refine g_geti (C := RX7) (T := TX7) (N := 19) hx hb hts (mc_ inX7) hown hK g ma0_ ka0_ (by decide) rfl 6 (by decide) rfl (hts _ (List.mem_cons_of_mem _ t_644)) (fun _ h9 => h9) rfl dX7_addMark_43 (fun x_11 bx_11 g => ?_)
  refine g_iast hx hb hK g ma_10 ka_10 (by decide) rfl (in_bd b_3 (by decide)) (bd_sub bx_11 (by decide)) (by decide) dX7_addMark_46 (fun f H locs hM_12 g => ?_)
  refine lv_aload_n hx hb dX7_addMark_47 rfl (lv_at hl 1 rfl) ?_
  refine g_getr (K := 143) (C := RX7) (T := TX7) (N := 19) hx hb hts (mc_ inX7) hown hK g ma0_ ka0_ (by decide) rfl 10 (by decide) rfl (hts _ (List.mem_cons_of_mem _ t_658)) (fun _ h9 => h9) rfl dX7_addMark_48 (fun a_13 ma_13 ka_13 g => ?_)
  refine lv_iload hx hb dX7_addMark_51 (lv_at hl 0 rfl) ?_
  refine lv_iconst (v := 0) hx hb dX7_addMark_53 (by decide) ?_
  have kb_0 : bd 0 0 (0 : Int32) := ⟨by decide, by decide⟩
  refine g_iast hx hb hK g ma_13 ka_13 (by decide) rfl (in_bd b_3 (by decide)) (bd_sub kb_0 (by decide)) (by decide) dX7_addMark_54 (fun f H locs hM_14 g => ?_)
  refine lv_aload_n hx hb dX7_addMark_55 rfl (lv_at hl 1 rfl) ?_
  refine g_getr (K := 145) (C := RX7) (T := TX7) (N := 19) hx hb hts (mc_ inX7) hown hK g ma0_ ka0_ (by decide) rfl 12 (by decide) rfl (hts _ (List.mem_cons_of_mem _ t_663)) (fun _ h9 => h9) rfl dX7_addMark_56 (fun a_15 ma_15 ka_15 g => ?_)
  refine lv_iload hx hb dX7_addMark_59 (lv_at hl 0 rfl) ?_
  refine lv_lconst (v := 0) hx hb dX7_addMark_61 (by decide) ?_
  refine g_last hx hb hK g ma_15 ka_15 (by decide) rfl (in_bd b_3 (by decide)) (by decide) dX7_addMark_62 (fun f H locs hM_16 g => ?_)
  refine lv_aload_n hx hb dX7_addMark_63 rfl (lv_at hl 1 rfl) ?_
  refine lv_iload hx hb dX7_addMark_64 (lv_at hl 0 rfl) ?_
  refine lv_iconst (v := 1) hx hb dX7_addMark_66 (by decide) ?_
  have kb_1 : bd 1 1 (1 : Int32) := ⟨by decide, by decide⟩
  refine lv_iadd hx hb dX7_addMark_67 ?_
  refine lv_topi (fun y_17 ey_17 => ?_)
  have ty_17 := add_bd ey_17 b_3 kb_1 (by decide)
  have b_18 : bd 1 500 y_17 := add_rg ty_17 b_3 kb_1 (by decide)
  refine g_put (C := RX7) (T := TX7) (N := 19) hx hb hts (mc_ inX7) tyX7 tyX7_ok nmX7 hown hK g ma0_ ka0_ (by decide) rfl 13 (by decide) (hts _ (List.mem_cons_of_mem _ t_666)) (fun _ h9 => h9) rfl rfl (okV_i (bd_sub b_18 (by decide))) rfl rfl (by decide) (Or.inr (Or.inl (by decide))) (fx' := [(7, 12, a0_, .ref a_15), (7, 10, a0_, .ref a_13), (7, 6, a0_, .int x_11), (7, 8, a0_, .ref a_10), (7, 9, a0_, .ref a_8), (7, 11, a0_, .ref a_6), (7, 7, a0_, .ref a_4)]) rfl dX7_addMark_68 (fun f H locs hM_19 g => ?_)
  refine lv_iload hx hb dX7_addMark_71 (lv_at hl 0 rfl) ?_
  subst hQ
  exact W.iret (v := y_2) hx hb hr (fun t ht hW => ⟨⟨_, _, rfl, ⟨b_3, y_17, b_18, (g.fcts [0] rfl)⟩, q3_of g hK ht hW⟩, g.2.2.1.F ht⟩) g.2.2.1.2.2 dX7_addMark_73
set_option maxHeartbeats 4000000 in
set_option maxRecDepth 100000 in
theorem r_X7_emitN (l : Launch) (dC : Nat → ClassId) (dI : Nat → Nat → Nat) (L : List Nat) (kd : Nat → Nat) (tys : List (ClassId × FieldType)) (f0 : Nat → va_E) (sz : Nat) (hWT : WT L kd tys f0) (a0_ : Nat) (ma0_ : a0_ ∈ L) (ka0_ : kd a0_ = 7) (o_ : Nat) (mo_ : o_ ∈ L) (ko_ : kd o_ = 138) (b_ : Nat) (mb_ : b_ ∈ L) (kb_ : kd b_ = 139) (n_ : Int32) (bn_ : bd 0 2000 n_) (T_ : Nat) (hd : dOK L kd f0 a0_ T_) (x1_ : Int32) (x2_ : Int32) (J_ : Int32 → Prop) (hc : cOK f0 a0_) (hs : jS f0 a0_ J_) (hcr : crel x1_ x2_) (hfx : Fs L kd f0 [(7, 4, a0_, .ref o_), (7, 5, a0_, .ref b_), (7, 6, a0_, .int n_)]) : Met l yX7_emit (.code yX7_emit cX7_emit 3 none :: lw_g) ({ frames := 0, cells := 0, slots := 0, locals := 0 }) (va_Pc [.ref a0_, .int x1_, .int x2_] (P3 (dC, dI) L tys f0 sz)) (va_Qv (fun (f : Nat → va_E) => (dOK L kd f a0_ T_ ∧ cOK f a0_ ∧ jS f a0_ J_ ∧ (jop x1_ → jOK f a0_ n_) ∧ ∃ z0_ : Int32, bd 0 2000 z0_ ∧ Fs L kd f [(7, 6, a0_, .int z0_)])) (Q3 (dC, dI) L kd tys [(7, 6)] [138, 139] f0 sz) (pA L sz)) 0 0 (pA L sz) := by
  refine Met.ofW (cc := cX7_emit) (maxL := 3) (ret := none) (by decide) rfl ?_
  intro p e s m args below meth c s₁ B hml hv
  obtain ⟨rfl, hsz, hP, hK, hD0⟩ := hv
  have hx := B.exec
  have hb := B.bytes
  have hr := B.returns
  have hts := atoms_spec (ws := (.code yX7_emit cX7_emit 3 none :: lw_g)) B.pre
  have hown : s.vm.findClass RX7 = some m.cls := findClass_of_methodNamed B.named
  have hlocks := B.notSynchronized
  subst hsz
  have g : G3 (dC, dI) L kd tys s f0 [(7, 6)] [138, 139] f0 s.heap [] [(7, 4, a0_, .ref o_), (7, 5, a0_, .ref b_), (7, 6, a0_, .int n_)] := G3.start hP hD0 hWT hfx
  have hl := lv_entry ([.ref a0_, .int x1_, .int x2_]) (n := 3) (Nat.le_of_ble_eq_true rfl)
  rw [lg_entry_eq]
  generalize (lg_sl ([.ref a0_, .int x1_, .int x2_]) ++ List.replicate (3 - (lg_sl ([.ref a0_, .int x1_, .int x2_])).length) Slot.unset).toArray = ls at hl ⊢
  have hl : lv_has ls 3 [(0, .ref a0_), (1, .int x1_), (2, .int x2_)] := hl
  refine W_q (fun Q hQ => ?_)
  have e4 : fV f0 a0_ 4 = .ref o_ := (fx_at g (i := 0) rfl).2.2.2
  have e5 : fV f0 a0_ 5 = .ref b_ := (fx_at g (i := 1) rfl).2.2.2
  have e6 : fV f0 a0_ 6 = .int n_ := (fx_at g (i := 2) rfl).2.2.2
  have ho7 : o_ ≠ b_ ∧ a0_ ≠ o_ ∧ a0_ ≠ b_ := ⟨fun z => by have h9 := ko_; rw [z] at h9; omega, fun z => by have h9 := ka0_; rw [z] at h9; omega, fun z => by have h9 := ka0_; rw [z] at h9; omega⟩
  refine lv_aload_n hx hb dX7_emit_0 rfl (lv_at hl 0 rfl) ?_
  refine g_getk (C := RX7) (T := TX7) (N := 19) hx hb hts (mc_ inX7) hown hK g rfl 6 (by decide) rfl (hts _ (List.mem_cons_of_mem _ t_644)) (fun _ h9 => h9) 2 rfl dX7_emit_1 ?_
  refine lv_sipush (v := 2000) hx hb dX7_emit_4 (by decide) ?_
  have kb_2000 : bd 2000 2000 (2000 : Int32) := ⟨by decide, by decide⟩
  refine lv_icmp_ge (tgt := 40) hx hb dX7_emit_7 (by decide) (fun c_1 => ?_) (fun c_1 => ?_)
  · have fc_1 := le_f c_1
    have b_2 : bd 2000 2000 n_ := leR fc_1 kb_2000 bn_ (by decide)
    subst hQ
    exact W.vret hx hb hr (fun t ht hW => ⟨⟨_, rfl, ⟨hd, hc, hs, (fun _ => full_j (by have h9_0 := b_2; unfold bd at h9_0; have h8_0 := kb_2000; unfold bd at h8_0; omega)), n_, (bd_sub b_2 (by decide)), (g.fcts [2] rfl)⟩, q3_of g hK ht hW⟩, g.2.2.1.F ht⟩) g.2.2.1.2.2 dX7_emit_40
  · have fc_1 := nle_f c_1
    have b_3 : bd 0 1999 n_ := ltL fc_1 bn_ kb_2000 (by decide)
    refine lv_aload_n hx hb dX7_emit_10 rfl (lv_at hl 0 rfl) ?_
    refine g_getk (C := RX7) (T := TX7) (N := 19) hx hb hts (mc_ inX7) hown hK g rfl 4 (by decide) rfl (hts _ (List.mem_cons_of_mem _ t_640)) (fun _ h9 => h9) 0 rfl dX7_emit_11 ?_
    refine lv_aload_n hx hb dX7_emit_14 rfl (lv_at hl 0 rfl) ?_
    refine g_getk (C := RX7) (T := TX7) (N := 19) hx hb hts (mc_ inX7) hown hK g rfl 6 (by decide) rfl (hts _ (List.mem_cons_of_mem _ t_644)) (fun _ h9 => h9) 2 rfl dX7_emit_15 ?_
    refine lv_iload_n hx hb dX7_emit_18 rfl (lv_at hl 1 rfl) ?_
    have go_ := g
    refine g_iastX hx hb hK g mo_ ko_ (by decide) rfl (in_bd b_3 (by decide)) (bdT x1_) (by decide) dX7_emit_19 (fun f H locs hM_4 u_5 g => ?_)
    refine lv_aload_n hx hb dX7_emit_20 rfl (lv_at hl 0 rfl) ?_
    refine g_getk (C := RX7) (T := TX7) (N := 19) hx hb hts (mc_ inX7) hown hK g rfl 5 (by decide) rfl (hts _ (List.mem_cons_of_mem _ t_642)) (fun _ h9 => h9) 1 rfl dX7_emit_21 ?_
    refine lv_aload_n hx hb dX7_emit_24 rfl (lv_at hl 0 rfl) ?_
    refine g_getk (C := RX7) (T := TX7) (N := 19) hx hb hts (mc_ inX7) hown hK g rfl 6 (by decide) rfl (hts _ (List.mem_cons_of_mem _ t_644)) (fun _ h9 => h9) 2 rfl dX7_emit_25 ?_
    refine lv_iload_n hx hb dX7_emit_28 rfl (lv_at hl 2 rfl) ?_
    refine g_iastX hx hb hK g mb_ kb_ (by decide) rfl (in_bd b_3 (by decide)) (bdT x2_) (by decide) dX7_emit_29 (fun f H locs hM_6 u_7 g => ?_)
    refine lv_aload_n hx hb dX7_emit_30 rfl (lv_at hl 0 rfl) ?_
    refine lv_dup hx hb dX7_emit_31 rfl ?_
    refine g_getk (C := RX7) (T := TX7) (N := 19) hx hb hts (mc_ inX7) hown hK g rfl 6 (by decide) rfl (hts _ (List.mem_cons_of_mem _ t_644)) (fun _ h9 => h9) 2 rfl dX7_emit_32 ?_
    refine lv_iconst (v := 1) hx hb dX7_emit_35 (by decide) ?_
    have kb_1 : bd 1 1 (1 : Int32) := ⟨by decide, by decide⟩
    refine lv_iadd hx hb dX7_emit_36 ?_
    refine lv_topi (fun y_8 ey_8 => ?_)
    have ty_8 := add_bd ey_8 b_3 kb_1 (by decide)
    have b_9 : bd 1 2000 y_8 := add_rg ty_8 b_3 kb_1 (by decide)
    refine g_putX (C := RX7) (T := TX7) (N := 19) hx hb hts (mc_ inX7) tyX7 tyX7_ok nmX7 hown hK g ma0_ ka0_ (by decide) rfl 6 (by decide) (hts _ (List.mem_cons_of_mem _ t_644)) (fun _ h9 => h9) rfl rfl (okV_i (bd_sub b_9 (by decide))) rfl rfl (by decide) (Or.inr (Or.inl (by decide))) (fx' := [(7, 4, a0_, .ref o_), (7, 5, a0_, .ref b_)]) rfl dX7_emit_37 (fun f H locs hM_10 u_11 g => ?_)
    have hd_12 := emit_d hd hWT ka0_ e4 e5 ko_ kb_ u_5 u_7 u_11
    have hc_13 := emit_c hc e4 e5 e6 bn_.1 ho7.1 ho7.2.1 ho7.2.2 u_5 u_7 u_11 (by have h9_0 := b_3; unfold bd at h9_0; have h9_1 := b_9; unfold bd at h9_1; have h8_0 := kb_1; unfold bd at h8_0; have h8_1 := kb_2000; unfold bd at h8_1; omega) hcr
    have hs_14 : jS f a0_ J_ := fun j9 h9 => hc_13.2 j9 (hs j9 h9)
    subst hQ
    exact W.vret hx hb hr (fun t ht hW => ⟨⟨_, rfl, ⟨hd_12, hc_13.1, hs_14, (fun h9 => emit_j e4 e5 bn_.1 ho7.1 ho7.2.1 ho7.2.2 u_5 u_7 u_11 (by have h9_0 := b_3; unfold bd at h9_0; have h9_1 := b_9; unfold bd at h9_1; have h8_0 := kb_1; unfold bd at h8_0; have h8_1 := kb_2000; unfold bd at h8_1; omega) h9), y_8, (bd_sub b_9 (by decide)), (g.fcts [0] rfl)⟩, q3_of g hK ht hW⟩, g.2.2.1.F ht⟩) g.2.2.1.2.2 dX7_emit_40
set_option maxHeartbeats 4000000 in
set_option maxRecDepth 100000 in
theorem r_X0_addWhole (l : Launch) (dC : Nat → ClassId) (dI : Nat → Nat → Nat) (L : List Nat) (kd : Nat → Nat) (tys : List (ClassId × FieldType)) (f0 : Nat → va_E) (sz : Nat) (hWT : WT L kd tys f0) (a0_ : Nat) (ma0_ : a0_ ∈ L) (ka0_ : kd a0_ = 0) (x1_ : Int32) : Met l yX0_addWhole (.code yX0_addWhole cX0_addWhole 2 none :: lw_g) ({ frames := 0, cells := 0, slots := 0, locals := 0 }) (va_Pc [.ref a0_, .int x1_] (P3 (dC, dI) L tys f0 sz)) (va_Qv (fun (f : Nat → va_E) => (∃ z1_ : Int32, bd 1 300 z1_ ∧ Fs L kd f [(0, 12, a0_, .int 0), (0, 10, a0_, .int z1_)])) (Q3 (dC, dI) L kd tys [(0, 10), (0, 12)] [115] f0 sz) (pA L sz)) 0 0 (pA L sz) := by
  refine Met.ofW (cc := cX0_addWhole) (maxL := 2) (ret := none) (by decide) rfl ?_
  intro p e s m args below meth c s₁ B hml hv
  obtain ⟨rfl, hsz, hP, hK, hD0⟩ := hv
  have hx := B.exec
  have hb := B.bytes
  have hr := B.returns
  have hts := atoms_spec (ws := (.code yX0_addWhole cX0_addWhole 2 none :: lw_g)) B.pre
  have hown : s.vm.findClass RX0 = some m.cls := findClass_of_methodNamed B.named
  have hlocks := B.notSynchronized
  subst hsz
  have g : G3 (dC, dI) L kd tys s f0 [(0, 10), (0, 12)] [115] f0 s.heap [] [] := G3.start hP hD0 hWT Fs.nil
  have hl := lv_entry ([.ref a0_, .int x1_]) (n := 2) (Nat.le_of_ble_eq_true rfl)
  rw [lg_entry_eq]
  generalize (lg_sl ([.ref a0_, .int x1_]) ++ List.replicate (2 - (lg_sl ([.ref a0_, .int x1_])).length) Slot.unset).toArray = ls at hl ⊢
  have hl : lv_has ls 2 [(0, .ref a0_), (1, .int x1_)] := hl
  refine W_q (fun Q hQ => ?_)
  refine lv_aload_n hx hb dX0_addWhole_0 rfl (lv_at hl 0 rfl) ?_
  refine g_geti (C := RX0) (T := TX0) (N := 14) hx hb hts (mc_ inX0) hown hK g ma0_ ka0_ (by decide) rfl 10 (by decide) rfl (hts _ (List.mem_cons_of_mem _ t_383)) (fun _ h9 => h9) rfl dX0_addWhole_1 (fun x_1 bx_1 g => ?_)
  refine lv_sipush (v := 300) hx hb dX0_addWhole_4 (by decide) ?_
  have kb_300 : bd 300 300 (300 : Int32) := ⟨by decide, by decide⟩
  refine lv_icmp_ge (tgt := 30) hx hb dX0_addWhole_7 (by decide) (fun c_2 => ?_) (fun c_2 => ?_)
  · have fc_2 := le_f c_2
    have b_3 : bd 300 300 x_1 := leR fc_2 kb_300 bx_1 (by decide)
    refine lv_aload_n hx hb dX0_addWhole_30 rfl (lv_at hl 0 rfl) ?_
    refine lv_iconst (v := 0) hx hb dX0_addWhole_31 (by decide) ?_
    have kb_0 : bd 0 0 (0 : Int32) := ⟨by decide, by decide⟩
    refine g_put (C := RX0) (T := TX0) (N := 14) hx hb hts (mc_ inX0) tyX0 tyX0_ok nmX0 hown hK g ma0_ ka0_ (by decide) rfl 12 (by decide) (hts _ (List.mem_cons_of_mem _ t_385)) (fun _ h9 => h9) rfl rfl (okV_i (bd_sub kb_0 (by decide))) rfl rfl (by decide) (Or.inr (Or.inl (by decide))) (fx' := [(0, 10, a0_, .int x_1)]) rfl dX0_addWhole_32 (fun f H locs hM_4 g => ?_)
    subst hQ
    exact W.vret hx hb hr (fun t ht hW => ⟨⟨_, rfl, ⟨x_1, (bd_sub b_3 (by decide)), (g.fcts [0, 1] rfl)⟩, q3_of g hK ht hW⟩, g.2.2.1.F ht⟩) g.2.2.1.2.2 dX0_addWhole_35
  · have fc_2 := nle_f c_2
    have b_5 : bd 0 299 x_1 := ltL fc_2 bx_1 kb_300 (by decide)
    refine lv_aload_n hx hb dX0_addWhole_10 rfl (lv_at hl 0 rfl) ?_
    refine g_getr (K := 115) (C := RX0) (T := TX0) (N := 14) hx hb hts (mc_ inX0) hown hK g ma0_ ka0_ (by decide) rfl 9 (by decide) rfl (hts _ (List.mem_cons_of_mem _ t_382)) (fun _ h9 => h9) rfl dX0_addWhole_11 (fun a_6 ma_6 ka_6 g => ?_)
    refine lv_aload_n hx hb dX0_addWhole_14 rfl (lv_at hl 0 rfl) ?_
    refine g_getk (C := RX0) (T := TX0) (N := 14) hx hb hts (mc_ inX0) hown hK g rfl 10 (by decide) rfl (hts _ (List.mem_cons_of_mem _ t_383)) (fun _ h9 => h9) 1 rfl dX0_addWhole_15 ?_
    refine lv_iload_n hx hb dX0_addWhole_18 rfl (lv_at hl 1 rfl) ?_
    refine g_iast hx hb hK g ma_6 ka_6 (by decide) rfl (in_bd b_5 (by decide)) (bdT x1_) (by decide) dX0_addWhole_19 (fun f H locs hM_7 g => ?_)
    refine lv_aload_n hx hb dX0_addWhole_20 rfl (lv_at hl 0 rfl) ?_
    refine lv_dup hx hb dX0_addWhole_21 rfl ?_
    refine g_getk (C := RX0) (T := TX0) (N := 14) hx hb hts (mc_ inX0) hown hK g rfl 10 (by decide) rfl (hts _ (List.mem_cons_of_mem _ t_383)) (fun _ h9 => h9) 1 rfl dX0_addWhole_22 ?_
    refine lv_iconst (v := 1) hx hb dX0_addWhole_25 (by decide) ?_
    have kb_1 : bd 1 1 (1 : Int32) := ⟨by decide, by decide⟩
    refine lv_iadd hx hb dX0_addWhole_26 ?_
    refine lv_topi (fun y_8 ey_8 => ?_)
    have ty_8 := add_bd ey_8 b_5 kb_1 (by decide)
    have b_9 : bd 1 300 y_8 := add_rg ty_8 b_5 kb_1 (by decide)
    refine g_put (C := RX0) (T := TX0) (N := 14) hx hb hts (mc_ inX0) tyX0 tyX0_ok nmX0 hown hK g ma0_ ka0_ (by decide) rfl 10 (by decide) (hts _ (List.mem_cons_of_mem _ t_383)) (fun _ h9 => h9) rfl rfl (okV_i (bd_sub b_9 (by decide))) rfl rfl (by decide) (Or.inr (Or.inl (by decide))) (fx' := [(0, 9, a0_, .ref a_6)]) rfl dX0_addWhole_27 (fun f H locs hM_10 g => ?_)
    refine lv_aload_n hx hb dX0_addWhole_30 rfl (lv_at hl 0 rfl) ?_
    refine lv_iconst (v := 0) hx hb dX0_addWhole_31 (by decide) ?_
    have kb_0 : bd 0 0 (0 : Int32) := ⟨by decide, by decide⟩
    refine g_put (C := RX0) (T := TX0) (N := 14) hx hb hts (mc_ inX0) tyX0 tyX0_ok nmX0 hown hK g ma0_ ka0_ (by decide) rfl 12 (by decide) (hts _ (List.mem_cons_of_mem _ t_385)) (fun _ h9 => h9) rfl rfl (okV_i (bd_sub kb_0 (by decide))) rfl rfl (by decide) (Or.inr (Or.inl (by decide))) (fx' := [(0, 10, a0_, .int y_8), (0, 9, a0_, .ref a_6)]) rfl dX0_addWhole_32 (fun f H locs hM_11 g => ?_)
    subst hQ
    exact W.vret hx hb hr (fun t ht hW => ⟨⟨_, rfl, ⟨y_8, b_9, (g.fcts [0, 1] rfl)⟩, q3_of g hK ht hW⟩, g.2.2.1.F ht⟩) g.2.2.1.2.2 dX0_addWhole_35
set_option maxHeartbeats 4000000 in
set_option maxRecDepth 100000 in
theorem r_X0_readResult (l : Launch) (dC : Nat → ClassId) (dI : Nat → Nat → Nat) (L : List Nat) (kd : Nat → Nat) (tys : List (ClassId × FieldType)) (f0 : Nat → va_E) (sz : Nat) (hWT : WT L kd tys f0) (a0_ : Nat) (ma0_ : a0_ ∈ L) (ka0_ : kd a0_ = 0) (q0_ : Nat) (mq0_ : q0_ ∈ L) (kq0_ : kd q0_ = 8) (q1_ : Nat) (mq1_ : q1_ ∈ L) (kq1_ : kd q1_ = 7) (y0_ : Int32) (by0_ : bd 0 0 y0_) (T_ : Nat) (J_ : Int32 → Prop) (hGcq1_ : cOK f0 q1_) (hGdq1_ : dOK L kd f0 q1_ T_) (hGsq1_ : jS f0 q1_ J_) (hfx : Fs L kd f0 [(0, 0, a0_, .ref q0_), (0, 2, a0_, .ref q1_), (8, 8, q0_, .int y0_)]) : Met l yX0_readResult (.code yX0_readResult cX0_readResult 1 none :: lw_g) ({ frames := 1, cells := 0, slots := 0, locals := 22 }) (va_Pc [.ref a0_] (P3 (dC, dI) L tys f0 sz)) (va_Qv (fun (f : Nat → va_E) => (cOK f q1_ ∧ dOK L kd f q1_ T_ ∧ jS f q1_ J_ ∧ ∃ z1_ : Int32, bd 1 300 z1_ ∧ ∃ z2_ : Int32, bd 1 1201 z2_ ∧ Fs L kd f [(0, 12, a0_, .int 0), (0, 10, a0_, .int z1_), (8, 6, q0_, .int z2_)])) (Q3 (dC, dI) L kd tys [(0, 10), (0, 12), (7, 6), (7, 18), (8, 6)] [115, 138, 139] f0 sz) (pA L sz)) 0 0 (pA L sz) := by
  refine Met.ofW (cc := cX0_readResult) (maxL := 1) (ret := none) (by decide) rfl ?_
  intro p e s m args below meth c s₁ B hml hv
  obtain ⟨rfl, hsz, hP, hK, hD0⟩ := hv
  have hx := B.exec
  have hb := B.bytes
  have hr := B.returns
  have hts := atoms_spec (ws := (.code yX0_readResult cX0_readResult 1 none :: lw_g)) B.pre
  have hown : s.vm.findClass RX0 = some m.cls := findClass_of_methodNamed B.named
  have hlocks := B.notSynchronized
  subst hsz
  have g : G3 (dC, dI) L kd tys s f0 [(0, 10), (0, 12), (7, 6), (7, 18), (8, 6)] [115, 138, 139] f0 s.heap [] [(0, 0, a0_, .ref q0_), (0, 2, a0_, .ref q1_), (8, 8, q0_, .int y0_)] := G3.start hP hD0 hWT hfx
  have hl := lv_entry ([.ref a0_]) (n := 1) (Nat.le_of_ble_eq_true rfl)
  rw [lg_entry_eq]
  generalize (lg_sl ([.ref a0_]) ++ List.replicate (1 - (lg_sl ([.ref a0_])).length) Slot.unset).toArray = ls at hl ⊢
  have hl : lv_has ls 1 [(0, .ref a0_)] := hl
  refine W_q (fun Q hQ => ?_)
  refine lv_aload_n hx hb dX0_readResult_0 rfl (lv_at hl 0 rfl) ?_
  refine g_getk (C := RX0) (T := TX0) (N := 14) hx hb hts (mc_ inX0) hown hK g rfl 2 (by decide) rfl (hts _ (List.mem_cons_of_mem _ t_375)) (fun _ h9 => h9) 1 rfl dX0_readResult_1 ?_
  refine lv_iconst (v := 5) hx hb dX0_readResult_4 (by decide) ?_
  refine lv_iconst (v := 0) hx hb dX0_readResult_5 (by decide) ?_
  obtain ⟨a_1, ma_1, ka_1, g⟩ := g_factr g mq1_ kq1_ (by decide) 4 rfl
  obtain ⟨a_2, ma_2, ka_2, g⟩ := g_factr g mq1_ kq1_ (by decide) 5 rfl
  obtain ⟨x_3, bx_3, g⟩ := g_facti g mq1_ kq1_ (by decide) 6 rfl
  have kb_5 : bd 5 5 (5 : Int32) := ⟨by decide, by decide⟩
  have kb_0 : bd 0 0 (0 : Int32) := ⟨by decide, by decide⟩
  have go_ := g
  refine g_callv (va_runV (As := [.int 5, .int 0]) (rest := []) ⟨hx, hb, hml, hown, hts⟩ (r_X7_emitN l dC dI L kd tys f0 s.heap.size g.2.2.2.1 q1_ mq1_ kq1_ a_1 ma_1 ka_1 a_2 ma_2 ka_2 x_3 bx_3 T_ hGdq1_ (5 : Int32) (0 : Int32) (fun j9 => jOK f0 q1_ j9) hGcq1_ (fun _ h9 => h9) ⟨(fun h9 => ⟨(by have h9_0 := bx_3; unfold bd at h9_0; have h9_1 := by0_; unfold bd at h9_1; have h8_0 := kb_0; unfold bd at h8_0; have h8_1 := kb_5; unfold bd at h8_1; omega), (by have h9_0 := bx_3; unfold bd at h9_0; have h9_1 := by0_; unfold bd at h9_1; have h8_0 := kb_0; unfold bd at h8_0; have h8_1 := kb_5; unfold bd at h8_1; omega)⟩), (fun h9 => ⟨(by have h9_0 := bx_3; unfold bd at h9_0; have h9_1 := by0_; unfold bd at h9_1; have h8_0 := kb_0; unfold bd at h8_0; have h8_1 := kb_5; unfold bd at h8_1; omega), (by have h9_0 := bx_3; unfold bd at h9_0; have h9_1 := by0_; unfold bd at h9_1; have h8_0 := kb_0; unfold bd at h8_0; have h8_1 := kb_5; unfold bd at h8_1; omega)⟩), (fun h9 => ⟨(by have h9_0 := bx_3; unfold bd at h9_0; have h9_1 := by0_; unfold bd at h9_1; have h8_0 := kb_0; unfold bd at h8_0; have h8_1 := kb_5; unfold bd at h8_1; omega), (by have h9_0 := bx_3; unfold bd at h9_0; have h9_1 := by0_; unfold bd at h9_1; have h8_0 := kb_0; unfold bd at h8_0; have h8_1 := kb_5; unfold bd at h8_1; omega)⟩)⟩ (g.fcts [2, 1, 0] rfl)) (cwV 2 hts (gV_ t_1203 t_1204 t_1205 t_191 t_1206) rfl rfl rfl (by decide +kernel) ⟨(Nat.le_of_ble_eq_true rfl), (Nat.le_of_ble_eq_true rfl)⟩) (pre3V g hK mq1_ kq1_ (by decide) (q := (RX7, TX7, 19)) rfl) rfl rfl hl.1 rfl (lv_room (Nat.le_of_ble_eq_true rfl)) dX0_readResult_6 ⟨(Nat.le_of_ble_eq_true rfl), (Nat.le_of_ble_eq_true rfl)⟩) g hK (by decide) (by decide) (fx' := [(7, 5, q1_, .ref a_2), (7, 4, q1_, .ref a_1), (0, 0, a0_, .ref q0_), (0, 2, a0_, .ref q1_), (8, 8, q0_, .int y0_)]) rfl (fun fr_4 H locs hp hMr_4 g => ?_)
  obtain ⟨hG_5, hG_6, hG_7, hx_8, x_9, h_10, hF_11⟩ := hp
  have g := g.more hF_11
  have hs_12 := jS.mv hGsq1_ hG_7
  refine lv_aload_n hx hb dX0_readResult_9 rfl (lv_at hl 0 rfl) ?_
  refine g_getk (C := RX0) (T := TX0) (N := 14) hx hb hts (mc_ inX0) hown hK g rfl 2 (by decide) rfl (hts _ (List.mem_cons_of_mem _ t_375)) (fun _ h9 => h9) 4 rfl dX0_readResult_10 ?_
  refine lv_dup hx hb dX0_readResult_13 rfl ?_
  refine g_geti (C := RX7) (T := TX7) (N := 19) hx hb hts (mc_ inX7) hown hK g mq1_ kq1_ (by decide) rfl 18 (by decide) rfl (hts _ (List.mem_cons_of_mem _ t_681)) (fun _ h9 => h9) rfl dX0_readResult_14 (fun x_13 bx_13 g => ?_)
  refine lv_iconst (v := 1) hx hb dX0_readResult_17 (by decide) ?_
  have kb_1 : bd 1 1 (1 : Int32) := ⟨by decide, by decide⟩
  refine lv_iadd hx hb dX0_readResult_18 ?_
  refine lv_topi (fun y_14 ey_14 => ?_)
  have go_ := g
  refine g_put (C := RX7) (T := TX7) (N := 19) hx hb hts (mc_ inX7) tyX7 tyX7_ok nmX7 hown hK g mq1_ kq1_ (by decide) rfl 18 (by decide) (hts _ (List.mem_cons_of_mem _ t_681)) (fun _ h9 => h9) rfl rfl (okV_i (bdT y_14)) rfl rfl (by decide) (Or.inr (Or.inl (by decide))) (fx' := [(7, 6, q1_, .int x_9), (7, 5, q1_, .ref a_2), (7, 4, q1_, .ref a_1), (0, 0, a0_, .ref q0_), (0, 2, a0_, .ref q1_), (8, 8, q0_, .int y0_)]) rfl dX0_readResult_19 (fun f H locs hM_15 g => ?_)
  have hG_16 := cOK.frame hM_15 go_.2.2.2.1 mq1_ kq1_ (by decide) (by decide) hG_6
  have hG_17 := dOK.frame hM_15 go_.2.2.2.1 mq1_ kq1_ (by decide) (by decide) hG_5
  have hG_18 := jS.frame hM_15 go_.2.2.2.1 mq1_ kq1_ (by decide) (by decide) hs_12
  refine lv_aload_n hx hb dX0_readResult_22 rfl (lv_at hl 0 rfl) ?_
  refine g_getk (C := RX0) (T := TX0) (N := 14) hx hb hts (mc_ inX0) hown hK g rfl 0 (by decide) rfl (hts _ (List.mem_cons_of_mem _ t_373)) (fun _ h9 => h9) 4 rfl dX0_readResult_23 ?_
  have go_ := g
  refine g_callv (va_runV (As := []) (rest := []) ⟨hx, hb, hml, hown, hts⟩ (r_X8_next l dC dI L kd tys f H.size g.2.2.2.1 q0_ mq0_ kq0_) (cwV 0 hts (gV_ t_1225 t_1103 t_1104 t_184 t_1105) rfl rfl rfl (by decide +kernel) ⟨(Nat.le_of_ble_eq_true rfl), (Nat.le_of_ble_eq_true rfl)⟩) (pre3V g hK mq0_ kq0_ (by decide) (q := (RX8, TX8, 10)) rfl) rfl rfl hl.1 rfl (lv_room (Nat.le_of_ble_eq_true rfl)) dX0_readResult_26 ⟨(Nat.le_of_ble_eq_true rfl), (Nat.le_of_ble_eq_true rfl)⟩) g hK (by decide) (by decide) (fx' := [(7, 18, q1_, .int y_14), (7, 6, q1_, .int x_9), (7, 5, q1_, .ref a_2), (7, 4, q1_, .ref a_1), (0, 0, a0_, .ref q0_), (0, 2, a0_, .ref q1_), (8, 8, q0_, .int y0_)]) rfl (fun fr_19 H locs hp hMr_19 g => ?_)
  obtain ⟨x_20, h_21, hF_22⟩ := hp
  have hG_23 := cOK.frame hMr_19 go_.2.2.2.1 mq1_ kq1_ (by decide) (by decide) hG_16
  have hG_24 := dOK.frame hMr_19 go_.2.2.2.1 mq1_ kq1_ (by decide) (by decide) hG_17
  have hG_25 := jS.frame hMr_19 go_.2.2.2.1 mq1_ kq1_ (by decide) (by decide) hG_18
  have g := g.more hF_22
  refine lv_aload_n hx hb dX0_readResult_29 rfl (lv_at hl 0 rfl) ?_
  refine lv_iconst (v := 1) hx hb dX0_readResult_30 (by decide) ?_
  have go_ := g
  refine g_callv (va_runV (As := [.int 1]) (rest := []) ⟨hx, hb, hml, hown, hts⟩ (r_X0_addWhole l dC dI L kd tys fr_19 H.size g.2.2.2.1 a0_ ma0_ ka0_ 1) (cwV 1 hts (gV_ t_1211 t_1213 t_17 t_190 t_1214) rfl rfl rfl (by decide +kernel) ⟨(Nat.le_of_ble_eq_true rfl), (Nat.le_of_ble_eq_true rfl)⟩) (pre3V g hK ma0_ ka0_ (by decide) (q := (RX0, TX0, 14)) rfl) rfl rfl hl.1 rfl (lv_room (Nat.le_of_ble_eq_true rfl)) dX0_readResult_31 ⟨(Nat.le_of_ble_eq_true rfl), (Nat.le_of_ble_eq_true rfl)⟩) g hK (by decide) (by decide) (fx' := [(8, 6, q0_, .int x_20), (7, 18, q1_, .int y_14), (7, 6, q1_, .int x_9), (7, 5, q1_, .ref a_2), (7, 4, q1_, .ref a_1), (0, 0, a0_, .ref q0_), (0, 2, a0_, .ref q1_), (8, 8, q0_, .int y0_)]) rfl (fun fr_26 H locs hp hMr_26 g => ?_)
  obtain ⟨x_27, h_28, hF_29⟩ := hp
  have hG_30 := cOK.frame hMr_26 go_.2.2.2.1 mq1_ kq1_ (by decide) (by decide) hG_23
  have hG_31 := dOK.frame hMr_26 go_.2.2.2.1 mq1_ kq1_ (by decide) (by decide) hG_24
  have hG_32 := jS.frame hMr_26 go_.2.2.2.1 mq1_ kq1_ (by decide) (by decide) hG_25
  have g := g.more hF_29
  subst hQ
  exact W.vret hx hb hr (fun t ht hW => ⟨⟨_, rfl, ⟨hG_30, hG_31, hG_32, x_27, h_28, x_20, h_21, (g.fcts [0, 1, 2] rfl)⟩, q3_of g hK ht hW⟩, g.2.2.1.F ht⟩) g.2.2.1.2.2 dX0_readResult_34
set_option maxHeartbeats 4000000 in
set_option maxRecDepth 100000 in
theorem r_X0_takeBracket (l : Launch) (dC : Nat → ClassId) (dI : Nat → Nat → Nat) (L : List Nat) (kd : Nat → Nat) (tys : List (ClassId × FieldType)) (f0 : Nat → va_E) (sz : Nat) (hWT : WT L kd tys f0) (a0_ : Nat) (ma0_ : a0_ ∈ L) (ka0_ : kd a0_ = 0) (q0_ : Nat) (mq0_ : q0_ ∈ L) (kq0_ : kd q0_ = 8) (y0_ : Int32) (by0_ : bd 0 0 y0_) (hfx : Fs L kd f0 [(0, 0, a0_, .ref q0_), (8, 8, q0_, .int y0_)]) : Met l yX0_takeBracket (.code yX0_takeBracket cX0_takeBracket 1 none :: lw_g) ({ frames := 1, cells := 0, slots := 0, locals := 23 }) (va_Pc [.ref a0_] (P3 (dC, dI) L tys f0 sz)) (va_Qv (fun (f : Nat → va_E) => (∃ z0_ : Int32, bd 1 1201 z0_ ∧ ∃ z1_ : Int32, bd (-2147483648) 39 z1_ ∧ Fs L kd f [(8, 6, q0_, .int z0_), (0, 11, a0_, .int z1_), (8, 8, q0_, .int y0_)]) ∨ (∃ z1_ : Int32, bd 1 7 z1_ ∧ Fs L kd f [(8, 6, q0_, .int 1201), (8, 8, q0_, .int z1_)])) (Q3 (dC, dI) L kd tys [(8, 6), (8, 8), (8, 9)] [] f0 sz) (pA L sz)) 0 0 (pA L sz) := by
  refine Met.ofW (cc := cX0_takeBracket) (maxL := 1) (ret := none) (by decide) rfl ?_
  intro p e s m args below meth c s₁ B hml hv
  obtain ⟨rfl, hsz, hP, hK, hD0⟩ := hv
  have hx := B.exec
  have hb := B.bytes
  have hr := B.returns
  have hts := atoms_spec (ws := (.code yX0_takeBracket cX0_takeBracket 1 none :: lw_g)) B.pre
  have hown : s.vm.findClass RX0 = some m.cls := findClass_of_methodNamed B.named
  have hlocks := B.notSynchronized
  subst hsz
  have g : G3 (dC, dI) L kd tys s f0 [(8, 6), (8, 8), (8, 9)] [] f0 s.heap [] [(0, 0, a0_, .ref q0_), (8, 8, q0_, .int y0_)] := G3.start hP hD0 hWT hfx
  have hl := lv_entry ([.ref a0_]) (n := 1) (Nat.le_of_ble_eq_true rfl)
  rw [lg_entry_eq]
  generalize (lg_sl ([.ref a0_]) ++ List.replicate (1 - (lg_sl ([.ref a0_])).length) Slot.unset).toArray = ls at hl ⊢
  have hl : lv_has ls 1 [(0, .ref a0_)] := hl
  refine W_q (fun Q hQ => ?_)
  refine lv_aload_n hx hb dX0_takeBracket_0 rfl (lv_at hl 0 rfl) ?_
  refine g_getk (C := RX0) (T := TX0) (N := 14) hx hb hts (mc_ inX0) hown hK g rfl 0 (by decide) rfl (hts _ (List.mem_cons_of_mem _ t_373)) (fun _ h9 => h9) 0 rfl dX0_takeBracket_1 ?_
  refine g_calli (va_runV (As := []) (rest := []) ⟨hx, hb, hml, hown, hts⟩ (r_X8_kind l dC dI L kd tys f0 s.heap.size g.2.2.2.1 q0_ mq0_ kq0_) (cwV 0 hts (gV_ t_1186 t_1119 t_1120 t_184 t_1121) rfl rfl rfl (by decide +kernel) ⟨(Nat.le_of_ble_eq_true rfl), (Nat.le_of_ble_eq_true rfl)⟩) (pre3V g hK mq0_ kq0_ (by decide) (q := (RX8, TX8, 10)) rfl) rfl rfl hl.1 rfl (lv_room (Nat.le_of_ble_eq_true rfl)) dX0_takeBracket_4 ⟨(Nat.le_of_ble_eq_true rfl), (Nat.le_of_ble_eq_true rfl)⟩) g hK (by decide) (by decide) (fx' := [(0, 0, a0_, .ref q0_), (8, 8, q0_, .int y0_)]) rfl (fun r_1 fr_1 H locs hp hMr_1 g => ?_)
  refine lv_bipush (v := 40) hx hb dX0_takeBracket_7 (by decide) ?_
  have kb_40 : bd 40 40 (40 : Int32) := ⟨by decide, by decide⟩
  refine lv_icmp_eq (tgt := 30) hx hb dX0_takeBracket_9 (by decide) (fun c_2 => ?_) (fun c_2 => ?_)
  · have fc_2 := eq_f c_2
    have b_3 : bd 40 40 r_1 := eqX fc_2 (bdT r_1) kb_40 (by decide)
    refine lv_aload_n hx hb dX0_takeBracket_30 rfl (lv_at hl 0 rfl) ?_
    refine g_geti (C := RX0) (T := TX0) (N := 14) hx hb hts (mc_ inX0) hown hK g ma0_ ka0_ (by decide) rfl 11 (by decide) rfl (hts _ (List.mem_cons_of_mem _ t_384)) (fun _ h9 => h9) rfl dX0_takeBracket_31 (fun x_4 bx_4 g => ?_)
    refine lv_bipush (v := 40) hx hb dX0_takeBracket_34 (by decide) ?_
    refine lv_icmp_lt (tgt := 54) hx hb dX0_takeBracket_36 (by decide) (fun c_5 => ?_) (fun c_5 => ?_)
    · have fc_5 := lt_f c_5
      have b_6 : bd (-2147483648) 39 x_4 := ltL fc_5 (bdT x_4) kb_40 (by decide)
      refine lv_aload_n hx hb dX0_takeBracket_54 rfl (lv_at hl 0 rfl) ?_
      refine g_getk (C := RX0) (T := TX0) (N := 14) hx hb hts (mc_ inX0) hown hK g rfl 0 (by decide) rfl (hts _ (List.mem_cons_of_mem _ t_373)) (fun _ h9 => h9) 1 rfl dX0_takeBracket_55 ?_
      refine g_callv (va_runV (As := []) (rest := []) ⟨hx, hb, hml, hown, hts⟩ (r_X8_next l dC dI L kd tys fr_1 H.size g.2.2.2.1 q0_ mq0_ kq0_) (cwV 0 hts (gV_ t_1225 t_1103 t_1104 t_184 t_1105) rfl rfl rfl (by decide +kernel) ⟨(Nat.le_of_ble_eq_true rfl), (Nat.le_of_ble_eq_true rfl)⟩) (pre3V g hK mq0_ kq0_ (by decide) (q := (RX8, TX8, 10)) rfl) rfl rfl hl.1 rfl (lv_room (Nat.le_of_ble_eq_true rfl)) dX0_takeBracket_58 ⟨(Nat.le_of_ble_eq_true rfl), (Nat.le_of_ble_eq_true rfl)⟩) g hK (by decide) (by decide) (fx' := [(0, 11, a0_, .int x_4), (0, 0, a0_, .ref q0_), (8, 8, q0_, .int y0_)]) rfl (fun fr_7 H locs hp hMr_7 g => ?_)
      obtain ⟨x_8, h_9, hF_10⟩ := hp
      have g := g.more hF_10
      refine lv_aload_n hx hb dX0_takeBracket_61 rfl (lv_at hl 0 rfl) ?_
      refine g_getk (C := RX0) (T := TX0) (N := 14) hx hb hts (mc_ inX0) hown hK g rfl 0 (by decide) rfl (hts _ (List.mem_cons_of_mem _ t_373)) (fun _ h9 => h9) 2 rfl dX0_takeBracket_62 ?_
      refine g_calli (va_runV (As := []) (rest := []) ⟨hx, hb, hml, hown, hts⟩ (r_X8_kind l dC dI L kd tys fr_7 H.size g.2.2.2.1 q0_ mq0_ kq0_) (cwV 0 hts (gV_ t_1186 t_1119 t_1120 t_184 t_1121) rfl rfl rfl (by decide +kernel) ⟨(Nat.le_of_ble_eq_true rfl), (Nat.le_of_ble_eq_true rfl)⟩) (pre3V g hK mq0_ kq0_ (by decide) (q := (RX8, TX8, 10)) rfl) rfl rfl hl.1 rfl (lv_room (Nat.le_of_ble_eq_true rfl)) dX0_takeBracket_65 ⟨(Nat.le_of_ble_eq_true rfl), (Nat.le_of_ble_eq_true rfl)⟩) g hK (by decide) (by decide) (fx' := [(8, 6, q0_, .int x_8), (0, 11, a0_, .int x_4), (0, 0, a0_, .ref q0_), (8, 8, q0_, .int y0_)]) rfl (fun r_11 fr_11 H locs hp hMr_11 g => ?_)
      refine lv_iconst (v := 3) hx hb dX0_takeBracket_68 (by decide) ?_
      have kb_3 : bd 3 3 (3 : Int32) := ⟨by decide, by decide⟩
      refine lv_icmp_eq (tgt := 87) hx hb dX0_takeBracket_69 (by decide) (fun c_12 => ?_) (fun c_12 => ?_)
      · have fc_12 := eq_f c_12
        have b_13 : bd 3 3 r_11 := eqX fc_12 (bdT r_11) kb_3 (by decide)
        subst hQ
        exact W.vret hx hb hr (fun t ht hW => ⟨⟨_, rfl, Or.inl ⟨x_8, h_9, x_4, b_6, (g.fcts [0, 1, 3] rfl)⟩, q3_of g hK ht hW⟩, g.2.2.1.F ht⟩) g.2.2.1.2.2 dX0_takeBracket_87
      · have fc_12 := neq_f c_12
        refine lv_aload_n hx hb dX0_takeBracket_72 rfl (lv_at hl 0 rfl) ?_
        refine g_getk (C := RX0) (T := TX0) (N := 14) hx hb hts (mc_ inX0) hown hK g rfl 0 (by decide) rfl (hts _ (List.mem_cons_of_mem _ t_373)) (fun _ h9 => h9) 2 rfl dX0_takeBracket_73 ?_
        refine lv_iconst (v := 1) hx hb dX0_takeBracket_76 (by decide) ?_
        refine lv_aload_n hx hb dX0_takeBracket_77 rfl (lv_at hl 0 rfl) ?_
        refine g_getk (C := RX0) (T := TX0) (N := 14) hx hb hts (mc_ inX0) hown hK g rfl 0 (by decide) rfl (hts _ (List.mem_cons_of_mem _ t_373)) (fun _ h9 => h9) 2 rfl dX0_takeBracket_78 ?_
        refine g_calli (va_runV (As := []) (rest := [.int 1, .ref q0_]) ⟨hx, hb, hml, hown, hts⟩ (r_X8_place l dC dI L kd tys fr_11 H.size g.2.2.2.1 q0_ mq0_ kq0_) (cwV 0 hts (gV_ t_1220 t_1111 t_1112 t_184 t_1113) rfl rfl rfl (by decide +kernel) ⟨(Nat.le_of_ble_eq_true rfl), (Nat.le_of_ble_eq_true rfl)⟩) (pre3V g hK mq0_ kq0_ (by decide) (q := (RX8, TX8, 10)) rfl) rfl rfl hl.1 rfl (lv_room (Nat.le_of_ble_eq_true rfl)) dX0_takeBracket_81 ⟨(Nat.le_of_ble_eq_true rfl), (Nat.le_of_ble_eq_true rfl)⟩) g hK (by decide) (by decide) (fx' := [(8, 6, q0_, .int x_8), (0, 11, a0_, .int x_4), (0, 0, a0_, .ref q0_), (8, 8, q0_, .int y0_)]) rfl (fun r_14 fr_14 H locs hp hMr_14 g => ?_)
        have kb_1 : bd 1 1 (1 : Int32) := ⟨by decide, by decide⟩
        refine g_callv (va_runV (As := [.int 1, .int r_14]) (rest := []) ⟨hx, hb, hml, hown, hts⟩ (r_X8_fail l dC dI L kd tys fr_14 H.size g.2.2.2.1 q0_ mq0_ kq0_ 1 (bd_sub kb_1 (by decide)) r_14 y0_ by0_ (g.fcts [3] rfl)) (cwV 2 hts (gV_ t_1215 t_1107 t_1108 t_184 t_1109) rfl rfl rfl (by decide +kernel) ⟨(Nat.le_of_ble_eq_true rfl), (Nat.le_of_ble_eq_true rfl)⟩) (pre3V g hK mq0_ kq0_ (by decide) (q := (RX8, TX8, 10)) rfl) rfl rfl hl.1 rfl (lv_room (Nat.le_of_ble_eq_true rfl)) dX0_takeBracket_84 ⟨(Nat.le_of_ble_eq_true rfl), (Nat.le_of_ble_eq_true rfl)⟩) g hK (by decide) (by decide) (fx' := [(0, 11, a0_, .int x_4), (0, 0, a0_, .ref q0_)]) rfl (fun fr_15 H locs hp hMr_15 g => ?_)
        obtain ⟨x_16, h_17, hF_18⟩ := hp
        have g := g.more hF_18
        subst hQ
        exact W.vret hx hb hr (fun t ht hW => ⟨⟨_, rfl, Or.inr (⟨x_16, h_17, (g.fcts [0, 1] rfl)⟩), q3_of g hK ht hW⟩, g.2.2.1.F ht⟩) g.2.2.1.2.2 dX0_takeBracket_87
    · have fc_5 := nlt_f c_5
      have b_19 : bd 40 2147483647 x_4 := leR fc_5 kb_40 (bdT x_4) (by decide)
      refine lv_aload_n hx hb dX0_takeBracket_39 rfl (lv_at hl 0 rfl) ?_
      refine g_getk (C := RX0) (T := TX0) (N := 14) hx hb hts (mc_ inX0) hown hK g rfl 0 (by decide) rfl (hts _ (List.mem_cons_of_mem _ t_373)) (fun _ h9 => h9) 1 rfl dX0_takeBracket_40 ?_
      refine lv_iconst (v := 4) hx hb dX0_takeBracket_43 (by decide) ?_
      refine lv_aload_n hx hb dX0_takeBracket_44 rfl (lv_at hl 0 rfl) ?_
      refine g_getk (C := RX0) (T := TX0) (N := 14) hx hb hts (mc_ inX0) hown hK g rfl 0 (by decide) rfl (hts _ (List.mem_cons_of_mem _ t_373)) (fun _ h9 => h9) 1 rfl dX0_takeBracket_45 ?_
      refine g_calli (va_runV (As := []) (rest := [.int 4, .ref q0_]) ⟨hx, hb, hml, hown, hts⟩ (r_X8_place l dC dI L kd tys fr_1 H.size g.2.2.2.1 q0_ mq0_ kq0_) (cwV 0 hts (gV_ t_1220 t_1111 t_1112 t_184 t_1113) rfl rfl rfl (by decide +kernel) ⟨(Nat.le_of_ble_eq_true rfl), (Nat.le_of_ble_eq_true rfl)⟩) (pre3V g hK mq0_ kq0_ (by decide) (q := (RX8, TX8, 10)) rfl) rfl rfl hl.1 rfl (lv_room (Nat.le_of_ble_eq_true rfl)) dX0_takeBracket_48 ⟨(Nat.le_of_ble_eq_true rfl), (Nat.le_of_ble_eq_true rfl)⟩) g hK (by decide) (by decide) (fx' := [(0, 11, a0_, .int x_4), (0, 0, a0_, .ref q0_), (8, 8, q0_, .int y0_)]) rfl (fun r_20 fr_20 H locs hp hMr_20 g => ?_)
      have kb_4 : bd 4 4 (4 : Int32) := ⟨by decide, by decide⟩
      refine g_callv (va_runV (As := [.int 4, .int r_20]) (rest := []) ⟨hx, hb, hml, hown, hts⟩ (r_X8_fail l dC dI L kd tys fr_20 H.size g.2.2.2.1 q0_ mq0_ kq0_ 4 (bd_sub kb_4 (by decide)) r_20 y0_ by0_ (g.fcts [2] rfl)) (cwV 2 hts (gV_ t_1215 t_1107 t_1108 t_184 t_1109) rfl rfl rfl (by decide +kernel) ⟨(Nat.le_of_ble_eq_true rfl), (Nat.le_of_ble_eq_true rfl)⟩) (pre3V g hK mq0_ kq0_ (by decide) (q := (RX8, TX8, 10)) rfl) rfl rfl hl.1 rfl (lv_room (Nat.le_of_ble_eq_true rfl)) dX0_takeBracket_51 ⟨(Nat.le_of_ble_eq_true rfl), (Nat.le_of_ble_eq_true rfl)⟩) g hK (by decide) (by decide) (fx' := [(0, 11, a0_, .int x_4), (0, 0, a0_, .ref q0_)]) rfl (fun fr_21 H locs hp hMr_21 g => ?_)
      obtain ⟨x_22, h_23, hF_24⟩ := hp
      have g := g.more hF_24
      refine lv_aload_n hx hb dX0_takeBracket_54 rfl (lv_at hl 0 rfl) ?_
      refine g_getk (C := RX0) (T := TX0) (N := 14) hx hb hts (mc_ inX0) hown hK g rfl 0 (by decide) rfl (hts _ (List.mem_cons_of_mem _ t_373)) (fun _ h9 => h9) 3 rfl dX0_takeBracket_55 ?_
      have kb_1201 : bd 1201 1201 (1201 : Int32) := ⟨by decide, by decide⟩
      refine g_callv (va_runV (As := []) (rest := []) ⟨hx, hb, hml, hown, hts⟩ (r_X8_next_2 l dC dI L kd tys fr_21 H.size g.2.2.2.1 q0_ mq0_ kq0_ 1201 kb_1201 (g.fcts [0] rfl)) (cwV 0 hts (gV_ t_1225 t_1103 t_1104 t_184 t_1105) rfl rfl rfl (by decide +kernel) ⟨(Nat.le_of_ble_eq_true rfl), (Nat.le_of_ble_eq_true rfl)⟩) (pre3V g hK mq0_ kq0_ (by decide) (q := (RX8, TX8, 10)) rfl) rfl rfl hl.1 rfl (lv_room (Nat.le_of_ble_eq_true rfl)) dX0_takeBracket_58 ⟨(Nat.le_of_ble_eq_true rfl), (Nat.le_of_ble_eq_true rfl)⟩) g hK (by decide) (by decide) (fx' := [(8, 6, q0_, .int 1201), (8, 8, q0_, .int x_22), (0, 11, a0_, .int x_4), (0, 0, a0_, .ref q0_)]) rfl (fun fr_25 H locs hp hMr_25 g => ?_)
      refine lv_aload_n hx hb dX0_takeBracket_61 rfl (lv_at hl 0 rfl) ?_
      refine g_getk (C := RX0) (T := TX0) (N := 14) hx hb hts (mc_ inX0) hown hK g rfl 0 (by decide) rfl (hts _ (List.mem_cons_of_mem _ t_373)) (fun _ h9 => h9) 3 rfl dX0_takeBracket_62 ?_
      refine g_calli (va_runV (As := []) (rest := []) ⟨hx, hb, hml, hown, hts⟩ (r_X8_kind_2 l dC dI L kd tys fr_25 H.size g.2.2.2.1 q0_ mq0_ kq0_ 1201 kb_1201 (g.fcts [0] rfl)) (cwV 0 hts (gV_ t_1186 t_1119 t_1120 t_184 t_1121) rfl rfl rfl (by decide +kernel) ⟨(Nat.le_of_ble_eq_true rfl), (Nat.le_of_ble_eq_true rfl)⟩) (pre3V g hK mq0_ kq0_ (by decide) (q := (RX8, TX8, 10)) rfl) rfl rfl hl.1 rfl (lv_room (Nat.le_of_ble_eq_true rfl)) dX0_takeBracket_65 ⟨(Nat.le_of_ble_eq_true rfl), (Nat.le_of_ble_eq_true rfl)⟩) g hK (by decide) (by decide) (fx' := [(8, 6, q0_, .int 1201), (8, 8, q0_, .int x_22), (0, 11, a0_, .int x_4), (0, 0, a0_, .ref q0_)]) rfl (fun r_26 fr_26 H locs hp hMr_26 g => ?_)
      obtain ⟨h_27, -⟩ := hp
      obtain rfl : r_26 = 0 := h_27
      refine lv_iconst (v := 3) hx hb dX0_takeBracket_68 (by decide) ?_
      refine lv_icmp_eq (tgt := 87) hx hb dX0_takeBracket_69 (by decide) (fun c_ => absurd c_ (by decide)) (fun c_ => ?_)
      refine lv_aload_n hx hb dX0_takeBracket_72 rfl (lv_at hl 0 rfl) ?_
      refine g_getk (C := RX0) (T := TX0) (N := 14) hx hb hts (mc_ inX0) hown hK g rfl 0 (by decide) rfl (hts _ (List.mem_cons_of_mem _ t_373)) (fun _ h9 => h9) 3 rfl dX0_takeBracket_73 ?_
      refine lv_iconst (v := 1) hx hb dX0_takeBracket_76 (by decide) ?_
      refine lv_aload_n hx hb dX0_takeBracket_77 rfl (lv_at hl 0 rfl) ?_
      refine g_getk (C := RX0) (T := TX0) (N := 14) hx hb hts (mc_ inX0) hown hK g rfl 0 (by decide) rfl (hts _ (List.mem_cons_of_mem _ t_373)) (fun _ h9 => h9) 3 rfl dX0_takeBracket_78 ?_
      refine g_calli (va_runV (As := []) (rest := [.int 1, .ref q0_]) ⟨hx, hb, hml, hown, hts⟩ (r_X8_place l dC dI L kd tys fr_26 H.size g.2.2.2.1 q0_ mq0_ kq0_) (cwV 0 hts (gV_ t_1220 t_1111 t_1112 t_184 t_1113) rfl rfl rfl (by decide +kernel) ⟨(Nat.le_of_ble_eq_true rfl), (Nat.le_of_ble_eq_true rfl)⟩) (pre3V g hK mq0_ kq0_ (by decide) (q := (RX8, TX8, 10)) rfl) rfl rfl hl.1 rfl (lv_room (Nat.le_of_ble_eq_true rfl)) dX0_takeBracket_81 ⟨(Nat.le_of_ble_eq_true rfl), (Nat.le_of_ble_eq_true rfl)⟩) g hK (by decide) (by decide) (fx' := [(8, 6, q0_, .int 1201), (8, 8, q0_, .int x_22), (0, 11, a0_, .int x_4), (0, 0, a0_, .ref q0_)]) rfl (fun r_28 fr_28 H locs hp hMr_28 g => ?_)
      have kb_1 : bd 1 1 (1 : Int32) := ⟨by decide, by decide⟩
      refine g_callv (va_runV (As := [.int 1, .int r_28]) (rest := []) ⟨hx, hb, hml, hown, hts⟩ (r_X8_fail_2 l dC dI L kd tys fr_28 H.size g.2.2.2.1 q0_ mq0_ kq0_ 1 (bd_sub kb_1 (by decide)) r_28 x_22 h_23 (g.fcts [1] rfl)) (cwV 2 hts (gV_ t_1215 t_1107 t_1108 t_184 t_1109) rfl rfl rfl (by decide +kernel) ⟨(Nat.le_of_ble_eq_true rfl), (Nat.le_of_ble_eq_true rfl)⟩) (pre3V g hK mq0_ kq0_ (by decide) (q := (RX8, TX8, 10)) rfl) rfl rfl hl.1 rfl (lv_room (Nat.le_of_ble_eq_true rfl)) dX0_takeBracket_84 ⟨(Nat.le_of_ble_eq_true rfl), (Nat.le_of_ble_eq_true rfl)⟩) g hK (by decide) (by decide) (fx' := [(8, 8, q0_, .int x_22), (0, 11, a0_, .int x_4), (0, 0, a0_, .ref q0_)]) rfl (fun fr_29 H locs hp hMr_29 g => ?_)
      have hF_30 := hp
      have g := g.more hF_30
      subst hQ
      exact W.vret hx hb hr (fun t ht hW => ⟨⟨_, rfl, Or.inr (⟨x_22, h_23, (g.fcts [0, 1] rfl)⟩), q3_of g hK ht hW⟩, g.2.2.1.F ht⟩) g.2.2.1.2.2 dX0_takeBracket_87
  · have fc_2 := neq_f c_2
    refine lv_aload_n hx hb dX0_takeBracket_12 rfl (lv_at hl 0 rfl) ?_
    refine g_getk (C := RX0) (T := TX0) (N := 14) hx hb hts (mc_ inX0) hown hK g rfl 0 (by decide) rfl (hts _ (List.mem_cons_of_mem _ t_373)) (fun _ h9 => h9) 0 rfl dX0_takeBracket_13 ?_
    refine lv_iconst (v := 1) hx hb dX0_takeBracket_16 (by decide) ?_
    refine lv_aload_n hx hb dX0_takeBracket_17 rfl (lv_at hl 0 rfl) ?_
    refine g_getk (C := RX0) (T := TX0) (N := 14) hx hb hts (mc_ inX0) hown hK g rfl 0 (by decide) rfl (hts _ (List.mem_cons_of_mem _ t_373)) (fun _ h9 => h9) 0 rfl dX0_takeBracket_18 ?_
    refine g_calli (va_runV (As := []) (rest := [.int 1, .ref q0_]) ⟨hx, hb, hml, hown, hts⟩ (r_X8_place l dC dI L kd tys fr_1 H.size g.2.2.2.1 q0_ mq0_ kq0_) (cwV 0 hts (gV_ t_1220 t_1111 t_1112 t_184 t_1113) rfl rfl rfl (by decide +kernel) ⟨(Nat.le_of_ble_eq_true rfl), (Nat.le_of_ble_eq_true rfl)⟩) (pre3V g hK mq0_ kq0_ (by decide) (q := (RX8, TX8, 10)) rfl) rfl rfl hl.1 rfl (lv_room (Nat.le_of_ble_eq_true rfl)) dX0_takeBracket_21 ⟨(Nat.le_of_ble_eq_true rfl), (Nat.le_of_ble_eq_true rfl)⟩) g hK (by decide) (by decide) (fx' := [(0, 0, a0_, .ref q0_), (8, 8, q0_, .int y0_)]) rfl (fun r_31 fr_31 H locs hp hMr_31 g => ?_)
    have kb_1 : bd 1 1 (1 : Int32) := ⟨by decide, by decide⟩
    refine g_callv (va_runV (As := [.int 1, .int r_31]) (rest := []) ⟨hx, hb, hml, hown, hts⟩ (r_X8_fail l dC dI L kd tys fr_31 H.size g.2.2.2.1 q0_ mq0_ kq0_ 1 (bd_sub kb_1 (by decide)) r_31 y0_ by0_ (g.fcts [1] rfl)) (cwV 2 hts (gV_ t_1215 t_1107 t_1108 t_184 t_1109) rfl rfl rfl (by decide +kernel) ⟨(Nat.le_of_ble_eq_true rfl), (Nat.le_of_ble_eq_true rfl)⟩) (pre3V g hK mq0_ kq0_ (by decide) (q := (RX8, TX8, 10)) rfl) rfl rfl hl.1 rfl (lv_room (Nat.le_of_ble_eq_true rfl)) dX0_takeBracket_24 ⟨(Nat.le_of_ble_eq_true rfl), (Nat.le_of_ble_eq_true rfl)⟩) g hK (by decide) (by decide) (fx' := [(0, 0, a0_, .ref q0_)]) rfl (fun fr_32 H locs hp hMr_32 g => ?_)
    obtain ⟨x_33, h_34, hF_35⟩ := hp
    have g := g.more hF_35
    refine lv_goto (tgt := 54) hx hb dX0_takeBracket_27 (by decide) ?_
    refine lv_aload_n hx hb dX0_takeBracket_54 rfl (lv_at hl 0 rfl) ?_
    refine g_getk (C := RX0) (T := TX0) (N := 14) hx hb hts (mc_ inX0) hown hK g rfl 0 (by decide) rfl (hts _ (List.mem_cons_of_mem _ t_373)) (fun _ h9 => h9) 2 rfl dX0_takeBracket_55 ?_
    have kb_1201 : bd 1201 1201 (1201 : Int32) := ⟨by decide, by decide⟩
    refine g_callv (va_runV (As := []) (rest := []) ⟨hx, hb, hml, hown, hts⟩ (r_X8_next_2 l dC dI L kd tys fr_32 H.size g.2.2.2.1 q0_ mq0_ kq0_ 1201 kb_1201 (g.fcts [0] rfl)) (cwV 0 hts (gV_ t_1225 t_1103 t_1104 t_184 t_1105) rfl rfl rfl (by decide +kernel) ⟨(Nat.le_of_ble_eq_true rfl), (Nat.le_of_ble_eq_true rfl)⟩) (pre3V g hK mq0_ kq0_ (by decide) (q := (RX8, TX8, 10)) rfl) rfl rfl hl.1 rfl (lv_room (Nat.le_of_ble_eq_true rfl)) dX0_takeBracket_58 ⟨(Nat.le_of_ble_eq_true rfl), (Nat.le_of_ble_eq_true rfl)⟩) g hK (by decide) (by decide) (fx' := [(8, 6, q0_, .int 1201), (8, 8, q0_, .int x_33), (0, 0, a0_, .ref q0_)]) rfl (fun fr_36 H locs hp hMr_36 g => ?_)
    refine lv_aload_n hx hb dX0_takeBracket_61 rfl (lv_at hl 0 rfl) ?_
    refine g_getk (C := RX0) (T := TX0) (N := 14) hx hb hts (mc_ inX0) hown hK g rfl 0 (by decide) rfl (hts _ (List.mem_cons_of_mem _ t_373)) (fun _ h9 => h9) 2 rfl dX0_takeBracket_62 ?_
    refine g_calli (va_runV (As := []) (rest := []) ⟨hx, hb, hml, hown, hts⟩ (r_X8_kind_2 l dC dI L kd tys fr_36 H.size g.2.2.2.1 q0_ mq0_ kq0_ 1201 kb_1201 (g.fcts [0] rfl)) (cwV 0 hts (gV_ t_1186 t_1119 t_1120 t_184 t_1121) rfl rfl rfl (by decide +kernel) ⟨(Nat.le_of_ble_eq_true rfl), (Nat.le_of_ble_eq_true rfl)⟩) (pre3V g hK mq0_ kq0_ (by decide) (q := (RX8, TX8, 10)) rfl) rfl rfl hl.1 rfl (lv_room (Nat.le_of_ble_eq_true rfl)) dX0_takeBracket_65 ⟨(Nat.le_of_ble_eq_true rfl), (Nat.le_of_ble_eq_true rfl)⟩) g hK (by decide) (by decide) (fx' := [(8, 6, q0_, .int 1201), (8, 8, q0_, .int x_33), (0, 0, a0_, .ref q0_)]) rfl (fun r_37 fr_37 H locs hp hMr_37 g => ?_)
    obtain ⟨h_38, -⟩ := hp
    obtain rfl : r_37 = 0 := h_38
    refine lv_iconst (v := 3) hx hb dX0_takeBracket_68 (by decide) ?_
    refine lv_icmp_eq (tgt := 87) hx hb dX0_takeBracket_69 (by decide) (fun c_ => absurd c_ (by decide)) (fun c_ => ?_)
    refine lv_aload_n hx hb dX0_takeBracket_72 rfl (lv_at hl 0 rfl) ?_
    refine g_getk (C := RX0) (T := TX0) (N := 14) hx hb hts (mc_ inX0) hown hK g rfl 0 (by decide) rfl (hts _ (List.mem_cons_of_mem _ t_373)) (fun _ h9 => h9) 2 rfl dX0_takeBracket_73 ?_
    refine lv_iconst (v := 1) hx hb dX0_takeBracket_76 (by decide) ?_
    refine lv_aload_n hx hb dX0_takeBracket_77 rfl (lv_at hl 0 rfl) ?_
    refine g_getk (C := RX0) (T := TX0) (N := 14) hx hb hts (mc_ inX0) hown hK g rfl 0 (by decide) rfl (hts _ (List.mem_cons_of_mem _ t_373)) (fun _ h9 => h9) 2 rfl dX0_takeBracket_78 ?_
    refine g_calli (va_runV (As := []) (rest := [.int 1, .ref q0_]) ⟨hx, hb, hml, hown, hts⟩ (r_X8_place l dC dI L kd tys fr_37 H.size g.2.2.2.1 q0_ mq0_ kq0_) (cwV 0 hts (gV_ t_1220 t_1111 t_1112 t_184 t_1113) rfl rfl rfl (by decide +kernel) ⟨(Nat.le_of_ble_eq_true rfl), (Nat.le_of_ble_eq_true rfl)⟩) (pre3V g hK mq0_ kq0_ (by decide) (q := (RX8, TX8, 10)) rfl) rfl rfl hl.1 rfl (lv_room (Nat.le_of_ble_eq_true rfl)) dX0_takeBracket_81 ⟨(Nat.le_of_ble_eq_true rfl), (Nat.le_of_ble_eq_true rfl)⟩) g hK (by decide) (by decide) (fx' := [(8, 6, q0_, .int 1201), (8, 8, q0_, .int x_33), (0, 0, a0_, .ref q0_)]) rfl (fun r_39 fr_39 H locs hp hMr_39 g => ?_)
    refine g_callv (va_runV (As := [.int 1, .int r_39]) (rest := []) ⟨hx, hb, hml, hown, hts⟩ (r_X8_fail_2 l dC dI L kd tys fr_39 H.size g.2.2.2.1 q0_ mq0_ kq0_ 1 (bd_sub kb_1 (by decide)) r_39 x_33 h_34 (g.fcts [1] rfl)) (cwV 2 hts (gV_ t_1215 t_1107 t_1108 t_184 t_1109) rfl rfl rfl (by decide +kernel) ⟨(Nat.le_of_ble_eq_true rfl), (Nat.le_of_ble_eq_true rfl)⟩) (pre3V g hK mq0_ kq0_ (by decide) (q := (RX8, TX8, 10)) rfl) rfl rfl hl.1 rfl (lv_room (Nat.le_of_ble_eq_true rfl)) dX0_takeBracket_84 ⟨(Nat.le_of_ble_eq_true rfl), (Nat.le_of_ble_eq_true rfl)⟩) g hK (by decide) (by decide) (fx' := [(8, 8, q0_, .int x_33), (0, 0, a0_, .ref q0_)]) rfl (fun fr_40 H locs hp hMr_40 g => ?_)
    have hF_41 := hp
    have g := g.more hF_41
    subst hQ
    exact W.vret hx hb hr (fun t ht hW => ⟨⟨_, rfl, Or.inr (⟨x_33, h_34, (g.fcts [0, 1] rfl)⟩), q3_of g hK ht hW⟩, g.2.2.1.F ht⟩) g.2.2.1.2.2 dX0_takeBracket_87
set_option maxHeartbeats 4000000 in
set_option maxRecDepth 100000 in
theorem r_X5_placeNamed (l : Launch) (dC : Nat → ClassId) (dI : Nat → Nat → Nat) (L : List Nat) (kd : Nat → Nat) (tys : List (ClassId × FieldType)) (f0 : Nat → va_E) (sz : Nat) (hWT : WT L kd tys f0) (a0_ : Nat) (ma0_ : a0_ ∈ L) (ka0_ : kd a0_ = 5) (x1_ : Int64) (q0_ : Nat) (mq0_ : q0_ ∈ L) (kq0_ : kd q0_ = 9) (hfx : Fs L kd f0 [(5, 1, a0_, .ref q0_)]) : Met l yX5_placeNamed (.code yX5_placeNamed cX5_placeNamed 4 (some .int) :: lw_g) ({ frames := 1, cells := 0, slots := 0, locals := 23 }) (va_Pc [.ref a0_, .long x1_] (P3 (dC, dI) L tys f0 sz)) (va_Qi (fun (r : Int32) (f : Nat → va_E) => (bd (-1) 26 r ∧ True)) (Q3 (dC, dI) L kd tys [] [] f0 sz) (pA L sz)) 0 0 (pA L sz) := by
  refine Met.ofW (cc := cX5_placeNamed) (maxL := 4) (ret := (some .int)) (by decide) rfl ?_
  intro p e s m args below meth c s₁ B hml hv
  obtain ⟨rfl, hsz, hP, hK, hD0⟩ := hv
  have hx := B.exec
  have hb := B.bytes
  have hr := B.returns
  have hts := atoms_spec (ws := (.code yX5_placeNamed cX5_placeNamed 4 (some .int) :: lw_g)) B.pre
  have hown : s.vm.findClass RX5 = some m.cls := findClass_of_methodNamed B.named
  have hlocks := B.notSynchronized
  subst hsz
  have g : G3 (dC, dI) L kd tys s f0 [] [] f0 s.heap [] [(5, 1, a0_, .ref q0_)] := G3.start hP hD0 hWT hfx
  have hl := lv_entry ([.ref a0_, .long x1_]) (n := 4) (Nat.le_of_ble_eq_true rfl)
  rw [lg_entry_eq]
  generalize (lg_sl ([.ref a0_, .long x1_]) ++ List.replicate (4 - (lg_sl ([.ref a0_, .long x1_])).length) Slot.unset).toArray = ls at hl ⊢
  have hl : lv_has ls 4 [(0, .ref a0_), (1, .long x1_)] := hl
  refine W_q (fun Q hQ => ?_)
  refine lv_iconst (v := 0) hx hb dX5_placeNamed_0 (by decide) ?_
  refine lv_istore_n (lv' := [(3, .int 0), (0, .ref a0_), (1, .long x1_)]) hx hb dX5_placeNamed_1 rfl hl (by decide) rfl (fun ls hl => ?_)
  have loop_1 : ∀ (n : Nat) (v2_3 : Int32), bd 0 8 v2_3 → (8 - v2_3.toInt < (n : Int)) → ∀ (f : Nat → va_E) (H : Heap) (locs : List Loc) (ls : Array Slot), G3 (dC, dI) L kd tys s f0 [] [] f H locs [(5, 1, a0_, .ref q0_)] → lv_has ls 4 [(3, .int v2_3), (0, .ref a0_), (1, .long x1_)] → W p l e ({ frames := 1, cells := 0, slots := 0, locals := 23 } : Room) s m [.ref a0_, .long x1_].toArray below meth c H locs 0 0 Q (F0 m 2 ls []) := by
    intro n2
    induction n2 with
    | zero =>
      intro v2_3 bv2_3 hm2 f H locs ls g  hl
      exact absurd hm2 (by have h9_v2_3 := bv2_3; unfold bd at h9_v2_3; omega)
    | succ n2 ih2 =>
      intro v2_3 bv2_3 hm2 f H locs ls g  hl
      refine lv_iload_n hx hb dX5_placeNamed_2 rfl (lv_at hl 0 rfl) ?_
      refine lv_aload_n hx hb dX5_placeNamed_3 rfl (lv_at hl 1 rfl) ?_
      refine g_geti (C := RX5) (T := TX5) (N := 9) hx hb hts (mc_ inX5) hown hK g ma0_ ka0_ (by decide) rfl 6 (by decide) rfl (hts _ (List.mem_cons_of_mem _ t_340)) (fun _ h9 => h9) rfl dX5_placeNamed_4 (fun x_2 bx_2 g => ?_)
      refine lv_icmp_ge (tgt := 32) hx hb dX5_placeNamed_7 (by decide) (fun c_3 => ?_) (fun c_3 => ?_)
      · have fc_3 := le_f c_3
        refine lv_iconst (v := 0) hx hb dX5_placeNamed_32 (by decide) ?_
        refine lv_istore_n (lv' := [(3, .int 0), (0, .ref a0_), (1, .long x1_)]) hx hb dX5_placeNamed_33 rfl hl (by decide) rfl (fun ls hl => ?_)
        have loop_4 : ∀ (n : Nat) (v34_3 : Int32), bd 0 3 v34_3 → (3 - v34_3.toInt < (n : Int)) → ∀ (f : Nat → va_E) (H : Heap) (locs : List Loc) (ls : Array Slot), G3 (dC, dI) L kd tys s f0 [] [] f H locs [(5, 6, a0_, .int x_2), (5, 1, a0_, .ref q0_)] → lv_has ls 4 [(3, .int v34_3), (0, .ref a0_), (1, .long x1_)] → W p l e ({ frames := 1, cells := 0, slots := 0, locals := 23 } : Room) s m [.ref a0_, .long x1_].toArray below meth c H locs 0 0 Q (F0 m 34 ls []) := by
          intro n34
          induction n34 with
          | zero =>
            intro v34_3 bv34_3 hm34 f H locs ls g  hl
            exact absurd hm34 (by have h9_v34_3 := bv34_3; unfold bd at h9_v34_3; omega)
          | succ n34 ih34 =>
            intro v34_3 bv34_3 hm34 f H locs ls g  hl
            refine lv_iload_n hx hb dX5_placeNamed_34 rfl (lv_at hl 0 rfl) ?_
            refine lv_aload_n hx hb dX5_placeNamed_35 rfl (lv_at hl 1 rfl) ?_
            refine g_geti (C := RX5) (T := TX5) (N := 9) hx hb hts (mc_ inX5) hown hK g ma0_ ka0_ (by decide) rfl 4 (by decide) rfl (hts _ (List.mem_cons_of_mem _ t_336)) (fun _ h9 => h9) rfl dX5_placeNamed_36 (fun x_5 bx_5 g => ?_)
            refine lv_icmp_ge (tgt := 64) hx hb dX5_placeNamed_39 (by decide) (fun c_6 => ?_) (fun c_6 => ?_)
            · have fc_6 := le_f c_6
              refine lv_aload_n hx hb dX5_placeNamed_64 rfl (lv_at hl 1 rfl) ?_
              refine g_getk (C := RX5) (T := TX5) (N := 9) hx hb hts (mc_ inX5) hown hK g rfl 1 (by decide) rfl (hts _ (List.mem_cons_of_mem _ t_331)) (fun _ h9 => h9) 2 rfl dX5_placeNamed_65 ?_
              refine lv_lload_n hx hb dX5_placeNamed_68 rfl (lv_at hl 2 rfl) ?_
              refine g_calli (va_runV (As := [.long x1_]) (rest := []) ⟨hx, hb, hml, hown, hts⟩ (r_X9_fieldNamed l dC dI L kd tys f H.size g.2.2.2.1 q0_ mq0_ kq0_ x1_) (cwV 1 hts (gV_ t_1255 t_1148 t_1149 t_192 t_1150) rfl rfl rfl (by decide +kernel) ⟨(Nat.le_of_ble_eq_true rfl), (Nat.le_of_ble_eq_true rfl)⟩) (pre3V g hK mq0_ kq0_ (by decide) (q := (RX9, TX9, 13)) rfl) rfl rfl hl.1 rfl (lv_room (Nat.le_of_ble_eq_true rfl)) dX5_placeNamed_69 ⟨(Nat.le_of_ble_eq_true rfl), (Nat.le_of_ble_eq_true rfl)⟩) g hK (by decide) (by decide) (fx' := [(5, 4, a0_, .int x_5), (5, 6, a0_, .int x_2), (5, 1, a0_, .ref q0_)]) rfl (fun r_7 fr_7 H locs hp hMr_7 g => ?_)
              obtain ⟨h_8, -⟩ := hp
              subst hQ
              exact W.iret (v := r_7) hx hb hr (fun t ht hW => ⟨⟨_, _, rfl, ⟨(bd_sub h_8 (by decide)), trivial⟩, q3_of g hK ht hW⟩, g.2.2.1.F ht⟩) g.2.2.1.2.2 dX5_placeNamed_72
            · have fc_6 := nle_f c_6
              have b_9 : bd 0 2 v34_3 := ltL fc_6 bv34_3 bx_5 (by decide)
              have b_10 : bd 1 3 x_5 := ltR fc_6 bv34_3 bx_5 (by decide)
              refine lv_aload_n hx hb dX5_placeNamed_42 rfl (lv_at hl 1 rfl) ?_
              refine g_getr (K := 132) (C := RX5) (T := TX5) (N := 9) hx hb hts (mc_ inX5) hown hK g ma0_ ka0_ (by decide) rfl 3 (by decide) rfl (hts _ (List.mem_cons_of_mem _ t_334)) (fun _ h9 => h9) rfl dX5_placeNamed_43 (fun a_11 ma_11 ka_11 g => ?_)
              refine lv_iload_n hx hb dX5_placeNamed_46 rfl (lv_at hl 0 rfl) ?_
              refine g_lald hx hb hK g ma_11 ka_11 (by decide) rfl (in_bd b_9 (by decide)) dX5_placeNamed_47 (fun x_12 => ?_)
              refine lv_lload_n hx hb dX5_placeNamed_48 rfl (lv_at hl 2 rfl) ?_
              refine W.lcmp hx hb dX5_placeNamed_49 ?_
              refine lv_if_ne (tgt := 58) hx hb dX5_placeNamed_50 (by decide) (fun c_13 => ?_) (fun c_13 => ?_)
              · have kb_1 : bd 1 1 (1 : Int32) := ⟨by decide, by decide⟩
                obtain ⟨y_14, ey_14⟩ : ∃ z : Int32, z = v34_3 + 1 := ⟨_, rfl⟩
                refine lv_iinc (v := y_14) (lv' := [(3, .int y_14), (0, .ref a0_), (1, .long x1_)]) hx hb dX5_placeNamed_58 hl (k := 0) rfl (by rw [ey_14]; rfl) (by decide) rfl (fun ls hl => ?_)
                have ty_14 := add_bd ey_14 b_9 kb_1 (by decide)
                have b_15 : bd 1 3 y_14 := add_rg ty_14 b_9 kb_1 (by decide)
                refine lv_goto (tgt := 34) hx hb dX5_placeNamed_61 (by decide) ?_
                have hl9 := lv_sub hl [0, 1, 2] (by rfl : lv_pick [(3, .int y_14), (0, .ref a0_), (1, .long x1_)] [0, 1, 2] = [(3, .int y_14), (0, .ref a0_), (1, .long x1_)])
                have g9 := g.sub (fx' := [(5, 6, a0_, .int x_2), (5, 1, a0_, .ref q0_)]) [2, 3] rfl
                exact ih34  y_14 (bd_sub b_15 (by decide)) (by have h9_0 := b_15; unfold bd at h9_0; have h9_1 := bv34_3; unfold bd at h9_1; have h9_2 := kb_1; unfold bd at h9_2; omega) _ _ _ _ g9  hl9
              · refine lv_bipush (v := 16) hx hb dX5_placeNamed_53 (by decide) ?_
                refine lv_iload_n hx hb dX5_placeNamed_55 rfl (lv_at hl 0 rfl) ?_
                have kb_16 : bd 16 16 (16 : Int32) := ⟨by decide, by decide⟩
                refine lv_iadd hx hb dX5_placeNamed_56 ?_
                refine lv_topi (fun y_16 ey_16 => ?_)
                have ty_16 := add_bd ey_16 kb_16 b_9 (by decide)
                have b_17 : bd 16 18 y_16 := add_rg ty_16 kb_16 b_9 (by decide)
                subst hQ
                exact W.iret (v := y_16) hx hb hr (fun t ht hW => ⟨⟨_, _, rfl, ⟨(bd_sub b_17 (by decide)), trivial⟩, q3_of g hK ht hW⟩, g.2.2.1.F ht⟩) g.2.2.1.2.2 dX5_placeNamed_57
        have kb_0 : bd 0 0 (0 : Int32) := ⟨by decide, by decide⟩
        have hl9 := lv_sub hl [0, 1, 2] (by rfl : lv_pick [(3, .int 0), (0, .ref a0_), (1, .long x1_)] [0, 1, 2] = [(3, .int 0), (0, .ref a0_), (1, .long x1_)])
        have g9 := g.sub (fx' := [(5, 6, a0_, .int x_2), (5, 1, a0_, .ref q0_)]) [0, 1] rfl
        exact loop_4 (9) 0 (bd_sub kb_0 (by decide)) (by have h9_0 := kb_0; unfold bd at h9_0; omega) _ _ _ _ g9  hl9
      · have fc_3 := nle_f c_3
        have b_18 : bd 0 7 v2_3 := ltL fc_3 bv2_3 bx_2 (by decide)
        have b_19 : bd 1 8 x_2 := ltR fc_3 bv2_3 bx_2 (by decide)
        refine lv_aload_n hx hb dX5_placeNamed_10 rfl (lv_at hl 1 rfl) ?_
        refine g_getr (K := 133) (C := RX5) (T := TX5) (N := 9) hx hb hts (mc_ inX5) hown hK g ma0_ ka0_ (by decide) rfl 5 (by decide) rfl (hts _ (List.mem_cons_of_mem _ t_338)) (fun _ h9 => h9) rfl dX5_placeNamed_11 (fun a_20 ma_20 ka_20 g => ?_)
        refine lv_iload_n hx hb dX5_placeNamed_14 rfl (lv_at hl 0 rfl) ?_
        refine g_lald hx hb hK g ma_20 ka_20 (by decide) rfl (in_bd b_18 (by decide)) dX5_placeNamed_15 (fun x_21 => ?_)
        refine lv_lload_n hx hb dX5_placeNamed_16 rfl (lv_at hl 2 rfl) ?_
        refine W.lcmp hx hb dX5_placeNamed_17 ?_
        refine lv_if_ne (tgt := 26) hx hb dX5_placeNamed_18 (by decide) (fun c_22 => ?_) (fun c_22 => ?_)
        · have kb_1 : bd 1 1 (1 : Int32) := ⟨by decide, by decide⟩
          obtain ⟨y_23, ey_23⟩ : ∃ z : Int32, z = v2_3 + 1 := ⟨_, rfl⟩
          refine lv_iinc (v := y_23) (lv' := [(3, .int y_23), (0, .ref a0_), (1, .long x1_)]) hx hb dX5_placeNamed_26 hl (k := 0) rfl (by rw [ey_23]; rfl) (by decide) rfl (fun ls hl => ?_)
          have ty_23 := add_bd ey_23 b_18 kb_1 (by decide)
          have b_24 : bd 1 8 y_23 := add_rg ty_23 b_18 kb_1 (by decide)
          refine lv_goto (tgt := 2) hx hb dX5_placeNamed_29 (by decide) ?_
          have hl9 := lv_sub hl [0, 1, 2] (by rfl : lv_pick [(3, .int y_23), (0, .ref a0_), (1, .long x1_)] [0, 1, 2] = [(3, .int y_23), (0, .ref a0_), (1, .long x1_)])
          have g9 := g.sub (fx' := [(5, 1, a0_, .ref q0_)]) [2] rfl
          exact ih2  y_23 (bd_sub b_24 (by decide)) (by have h9_0 := b_24; unfold bd at h9_0; have h9_1 := bv2_3; unfold bd at h9_1; have h9_2 := kb_1; unfold bd at h9_2; omega) _ _ _ _ g9  hl9
        · refine lv_bipush (v := 19) hx hb dX5_placeNamed_21 (by decide) ?_
          refine lv_iload_n hx hb dX5_placeNamed_23 rfl (lv_at hl 0 rfl) ?_
          have kb_19 : bd 19 19 (19 : Int32) := ⟨by decide, by decide⟩
          refine lv_iadd hx hb dX5_placeNamed_24 ?_
          refine lv_topi (fun y_25 ey_25 => ?_)
          have ty_25 := add_bd ey_25 kb_19 b_18 (by decide)
          have b_26 : bd 19 26 y_25 := add_rg ty_25 kb_19 b_18 (by decide)
          subst hQ
          exact W.iret (v := y_25) hx hb hr (fun t ht hW => ⟨⟨_, _, rfl, ⟨(bd_sub b_26 (by decide)), trivial⟩, q3_of g hK ht hW⟩, g.2.2.1.F ht⟩) g.2.2.1.2.2 dX5_placeNamed_25
  have kb_0 : bd 0 0 (0 : Int32) := ⟨by decide, by decide⟩
  have hl9 := lv_sub hl [0, 1, 2] (by rfl : lv_pick [(3, .int 0), (0, .ref a0_), (1, .long x1_)] [0, 1, 2] = [(3, .int 0), (0, .ref a0_), (1, .long x1_)])
  have g9 := g.sub (fx' := [(5, 1, a0_, .ref q0_)]) [0] rfl
  exact loop_1 (19) 0 (bd_sub kb_0 (by decide)) (by have h9_0 := kb_0; unfold bd at h9_0; omega) _ _ _ _ g9  hl9
set_option maxHeartbeats 4000000 in
set_option maxRecDepth 100000 in
theorem r_X9_isRow (l : Launch) (dC : Nat → ClassId) (dI : Nat → Nat → Nat) (L : List Nat) (kd : Nat → Nat) (tys : List (ClassId × FieldType)) (f0 : Nat → va_E) (sz : Nat) (hWT : WT L kd tys f0) (a0_ : Nat) (ma0_ : a0_ ∈ L) (ka0_ : kd a0_ = 9) (x1_ : Int32) : Met l yX9_isRow (.code yX9_isRow cX9_isRow 2 (some .boolean) :: lw_g) ({ frames := 0, cells := 0, slots := 0, locals := 0 }) (va_Pc [.ref a0_, .int x1_] (P3 (dC, dI) L tys f0 sz)) (va_Qi (fun (r : Int32) (f : Nat → va_E) => (r = 0 ∧ True) ∨ (r = 1 ∧ bd 0 9 x1_ ∧ ∃ z0_ : Int32, bd 1 10 z0_ ∧ Fs L kd f [(9, 2, a0_, .int z0_)])) (Q3 (dC, dI) L kd tys [] [] f0 sz) (pA L sz)) 0 0 (pA L sz) := by
  refine Met.ofW (cc := cX9_isRow) (maxL := 2) (ret := (some .boolean)) (by decide) rfl ?_
  intro p e s m args below meth c s₁ B hml hv
  obtain ⟨rfl, hsz, hP, hK, hD0⟩ := hv
  have hx := B.exec
  have hb := B.bytes
  have hr := B.returns
  have hts := atoms_spec (ws := (.code yX9_isRow cX9_isRow 2 (some .boolean) :: lw_g)) B.pre
  have hown : s.vm.findClass RX9 = some m.cls := findClass_of_methodNamed B.named
  have hlocks := B.notSynchronized
  subst hsz
  have g : G3 (dC, dI) L kd tys s f0 [] [] f0 s.heap [] [] := G3.start hP hD0 hWT Fs.nil
  have hl := lv_entry ([.ref a0_, .int x1_]) (n := 2) (Nat.le_of_ble_eq_true rfl)
  rw [lg_entry_eq]
  generalize (lg_sl ([.ref a0_, .int x1_]) ++ List.replicate (2 - (lg_sl ([.ref a0_, .int x1_])).length) Slot.unset).toArray = ls at hl ⊢
  have hl : lv_has ls 2 [(0, .ref a0_), (1, .int x1_)] := hl
  refine W_q (fun Q hQ => ?_)
  refine lv_iload_n hx hb dX9_isRow_0 rfl (lv_at hl 1 rfl) ?_
  have kb_0 : bd 0 0 (0 : Int32) := ⟨by decide, by decide⟩
  refine lv_if_lt (tgt := 25) hx hb dX9_isRow_1 (by decide) (fun c_1 => ?_) (fun c_1 => ?_)
  · have fc_1 := lt_f c_1
    have b_2 : bd (-2147483648) (-1) x1_ := ltL fc_1 (bdT x1_) kb_0 (by decide)
    refine lv_iconst (v := 0) hx hb dX9_isRow_25 (by decide) ?_
    subst hQ
    exact W.zret (v := 0) hx hb hr (nar_z (bd_sub kb_0 (by decide) : bd 0 1 _).1 (bd_sub kb_0 (by decide) : bd 0 1 _).2) (fun t ht hW => ⟨⟨_, _, rfl, Or.inl ⟨rfl, trivial⟩, q3_of g hK ht hW⟩, g.2.2.1.F ht⟩) g.2.2.1.2.2 dX9_isRow_26
  · have fc_1 := nlt_f c_1
    have b_3 : bd 0 2147483647 x1_ := leR fc_1 kb_0 (bdT x1_) (by decide)
    refine lv_iload_n hx hb dX9_isRow_4 rfl (lv_at hl 1 rfl) ?_
    refine lv_aload_n hx hb dX9_isRow_5 rfl (lv_at hl 0 rfl) ?_
    refine g_geti (C := RX9) (T := TX9) (N := 13) hx hb hts (mc_ inX9) hown hK g ma0_ ka0_ (by decide) rfl 2 (by decide) rfl (hts _ (List.mem_cons_of_mem _ t_485)) (fun _ h9 => h9) rfl dX9_isRow_6 (fun x_4 bx_4 g => ?_)
    refine lv_icmp_ge (tgt := 25) hx hb dX9_isRow_9 (by decide) (fun c_5 => ?_) (fun c_5 => ?_)
    · have fc_5 := le_f c_5
      refine lv_iconst (v := 0) hx hb dX9_isRow_25 (by decide) ?_
      subst hQ
      exact W.zret (v := 0) hx hb hr (nar_z (bd_sub kb_0 (by decide) : bd 0 1 _).1 (bd_sub kb_0 (by decide) : bd 0 1 _).2) (fun t ht hW => ⟨⟨_, _, rfl, Or.inl ⟨rfl, trivial⟩, q3_of g hK ht hW⟩, g.2.2.1.F ht⟩) g.2.2.1.2.2 dX9_isRow_26
    · have fc_5 := nle_f c_5
      have b_6 : bd 0 9 x1_ := ltL fc_5 b_3 bx_4 (by decide)
      have b_7 : bd 1 10 x_4 := ltR fc_5 b_3 bx_4 (by decide)
      refine lv_aload_n hx hb dX9_isRow_12 rfl (lv_at hl 0 rfl) ?_
      refine g_getr (K := 154) (C := RX9) (T := TX9) (N := 13) hx hb hts (mc_ inX9) hown hK g ma0_ ka0_ (by decide) rfl 5 (by decide) rfl (hts _ (List.mem_cons_of_mem _ t_490)) (fun _ h9 => h9) rfl dX9_isRow_13 (fun a_8 ma_8 ka_8 g => ?_)
      refine lv_iload_n hx hb dX9_isRow_16 rfl (lv_at hl 1 rfl) ?_
      refine g_iald hx hb hK g ma_8 ka_8 (by decide) rfl (in_bd b_6 (by decide)) dX9_isRow_17 (fun x_9 bx_9 cx_9 => ?_)
      refine lv_if_le (tgt := 25) hx hb dX9_isRow_18 (by decide) (fun c_10 => ?_) (fun c_10 => ?_)
      · have fc_10 := le_f c_10
        have b_11 : bd 0 0 x_9 := leL fc_10 bx_9 kb_0 (by decide)
        refine lv_iconst (v := 0) hx hb dX9_isRow_25 (by decide) ?_
        subst hQ
        exact W.zret (v := 0) hx hb hr (nar_z (bd_sub kb_0 (by decide) : bd 0 1 _).1 (bd_sub kb_0 (by decide) : bd 0 1 _).2) (fun t ht hW => ⟨⟨_, _, rfl, Or.inl ⟨rfl, trivial⟩, q3_of g hK ht hW⟩, g.2.2.1.F ht⟩) g.2.2.1.2.2 dX9_isRow_26
      · have fc_10 := nle_f c_10
        have b_12 : bd 1 8 x_9 := ltR fc_10 kb_0 bx_9 (by decide)
        refine lv_iconst (v := 1) hx hb dX9_isRow_21 (by decide) ?_
        refine lv_goto (tgt := 26) hx hb dX9_isRow_22 (by decide) ?_
        subst hQ
        have kb_1 : bd 1 1 (1 : Int32) := ⟨by decide, by decide⟩
        exact W.zret (v := 1) hx hb hr (nar_z (bd_sub kb_1 (by decide) : bd 0 1 _).1 (bd_sub kb_1 (by decide) : bd 0 1 _).2) (fun t ht hW => ⟨⟨_, _, rfl, Or.inr (⟨rfl, b_6, x_4, b_7, (g.fcts [1] rfl)⟩), q3_of g hK ht hW⟩, g.2.2.1.F ht⟩) g.2.2.1.2.2 dX9_isRow_26
set_option maxHeartbeats 4000000 in
set_option maxRecDepth 100000 in
theorem r_X9_spanOf (l : Launch) (dC : Nat → ClassId) (dI : Nat → Nat → Nat) (L : List Nat) (kd : Nat → Nat) (tys : List (ClassId × FieldType)) (f0 : Nat → va_E) (sz : Nat) (hWT : WT L kd tys f0) (a0_ : Nat) (ma0_ : a0_ ∈ L) (ka0_ : kd a0_ = 9) (x1_ : Int32) : Met l yX9_spanOf (.code yX9_spanOf cX9_spanOf 2 (some .int) :: lw_g) ({ frames := 0, cells := 0, slots := 0, locals := 0 }) (va_Pc [.ref a0_, .int x1_] (P3 (dC, dI) L tys f0 sz)) (va_Qi (fun (r : Int32) (f : Nat → va_E) => (bd 0 392 r ∧ True)) (Q3 (dC, dI) L kd tys [] [] f0 sz) (pA L sz)) 0 0 (pA L sz) := by
  refine Met.ofW (cc := cX9_spanOf) (maxL := 2) (ret := (some .int)) (by decide) rfl ?_
  intro p e s m args below meth c s₁ B hml hv
  obtain ⟨rfl, hsz, hP, hK, hD0⟩ := hv
  have hx := B.exec
  have hb := B.bytes
  have hr := B.returns
  have hts := atoms_spec (ws := (.code yX9_spanOf cX9_spanOf 2 (some .int) :: lw_g)) B.pre
  have hown : s.vm.findClass RX9 = some m.cls := findClass_of_methodNamed B.named
  have hlocks := B.notSynchronized
  subst hsz
  have g : G3 (dC, dI) L kd tys s f0 [] [] f0 s.heap [] [] := G3.start hP hD0 hWT Fs.nil
  have hl := lv_entry ([.ref a0_, .int x1_]) (n := 2) (Nat.le_of_ble_eq_true rfl)
  rw [lg_entry_eq]
  generalize (lg_sl ([.ref a0_, .int x1_]) ++ List.replicate (2 - (lg_sl ([.ref a0_, .int x1_])).length) Slot.unset).toArray = ls at hl ⊢
  have hl : lv_has ls 2 [(0, .ref a0_), (1, .int x1_)] := hl
  refine W_q (fun Q hQ => ?_)
  refine lv_iload_n hx hb dX9_spanOf_0 rfl (lv_at hl 1 rfl) ?_
  have kb_0 : bd 0 0 (0 : Int32) := ⟨by decide, by decide⟩
  refine lv_if_lt (tgt := 31) hx hb dX9_spanOf_1 (by decide) (fun c_1 => ?_) (fun c_1 => ?_)
  · have fc_1 := lt_f c_1
    have b_2 : bd (-2147483648) (-1) x1_ := ltL fc_1 (bdT x1_) kb_0 (by decide)
    refine lv_iconst (v := 0) hx hb dX9_spanOf_31 (by decide) ?_
    subst hQ
    exact W.iret (v := 0) hx hb hr (fun t ht hW => ⟨⟨_, _, rfl, ⟨(bd_sub kb_0 (by decide)), trivial⟩, q3_of g hK ht hW⟩, g.2.2.1.F ht⟩) g.2.2.1.2.2 dX9_spanOf_32
  · have fc_1 := nlt_f c_1
    have b_3 : bd 0 2147483647 x1_ := leR fc_1 kb_0 (bdT x1_) (by decide)
    refine lv_iload_n hx hb dX9_spanOf_4 rfl (lv_at hl 1 rfl) ?_
    refine lv_aload_n hx hb dX9_spanOf_5 rfl (lv_at hl 0 rfl) ?_
    refine g_geti (C := RX9) (T := TX9) (N := 13) hx hb hts (mc_ inX9) hown hK g ma0_ ka0_ (by decide) rfl 2 (by decide) rfl (hts _ (List.mem_cons_of_mem _ t_485)) (fun _ h9 => h9) rfl dX9_spanOf_6 (fun x_4 bx_4 g => ?_)
    refine lv_icmp_ge (tgt := 31) hx hb dX9_spanOf_9 (by decide) (fun c_5 => ?_) (fun c_5 => ?_)
    · have fc_5 := le_f c_5
      refine lv_iconst (v := 0) hx hb dX9_spanOf_31 (by decide) ?_
      subst hQ
      exact W.iret (v := 0) hx hb hr (fun t ht hW => ⟨⟨_, _, rfl, ⟨(bd_sub kb_0 (by decide)), trivial⟩, q3_of g hK ht hW⟩, g.2.2.1.F ht⟩) g.2.2.1.2.2 dX9_spanOf_32
    · have fc_5 := nle_f c_5
      have b_6 : bd 0 9 x1_ := ltL fc_5 b_3 bx_4 (by decide)
      have b_7 : bd 1 10 x_4 := ltR fc_5 b_3 bx_4 (by decide)
      refine lv_aload_n hx hb dX9_spanOf_12 rfl (lv_at hl 0 rfl) ?_
      refine g_getr (K := 153) (C := RX9) (T := TX9) (N := 13) hx hb hts (mc_ inX9) hown hK g ma0_ ka0_ (by decide) rfl 4 (by decide) rfl (hts _ (List.mem_cons_of_mem _ t_489)) (fun _ h9 => h9) rfl dX9_spanOf_13 (fun a_8 ma_8 ka_8 g => ?_)
      refine lv_iload_n hx hb dX9_spanOf_16 rfl (lv_at hl 1 rfl) ?_
      refine g_iald hx hb hK g ma_8 ka_8 (by decide) rfl (in_bd b_6 (by decide)) dX9_spanOf_17 (fun x_9 bx_9 cx_9 => ?_)
      refine lv_bipush (v := 16) hx hb dX9_spanOf_18 (by decide) ?_
      refine lv_imul hx hb dX9_spanOf_20 ?_
      refine lv_topi (fun y_10 ey_10 => ?_)
      have ty_10 := mulc_bd ey_10 (c := 16) (by decide) bx_9 (by decide)
      have b_11 : bd 0 384 y_10 := mulc_rg ty_10 bx_9 (by decide)
      refine lv_aload_n hx hb dX9_spanOf_21 rfl (lv_at hl 0 rfl) ?_
      refine g_getr (K := 154) (C := RX9) (T := TX9) (N := 13) hx hb hts (mc_ inX9) hown hK g ma0_ ka0_ (by decide) rfl 5 (by decide) rfl (hts _ (List.mem_cons_of_mem _ t_490)) (fun _ h9 => h9) rfl dX9_spanOf_22 (fun a_12 ma_12 ka_12 g => ?_)
      refine lv_iload_n hx hb dX9_spanOf_25 rfl (lv_at hl 1 rfl) ?_
      refine g_iald hx hb hK g ma_12 ka_12 (by decide) rfl (in_bd b_6 (by decide)) dX9_spanOf_26 (fun x_13 bx_13 cx_13 => ?_)
      refine lv_iadd hx hb dX9_spanOf_27 ?_
      refine lv_topi (fun y_14 ey_14 => ?_)
      have ty_14 := add_bd ey_14 b_11 bx_13 (by decide)
      have b_15 : bd 0 392 y_14 := add_rg ty_14 b_11 bx_13 (by decide)
      refine lv_goto (tgt := 32) hx hb dX9_spanOf_28 (by decide) ?_
      subst hQ
      exact W.iret (v := y_14) hx hb hr (fun t ht hW => ⟨⟨_, _, rfl, ⟨b_15, trivial⟩, q3_of g hK ht hW⟩, g.2.2.1.F ht⟩) g.2.2.1.2.2 dX9_spanOf_32
set_option maxHeartbeats 4000000 in
set_option maxRecDepth 100000 in
theorem r_X7_emitF (l : Launch) (dC : Nat → ClassId) (dI : Nat → Nat → Nat) (L : List Nat) (kd : Nat → Nat) (tys : List (ClassId × FieldType)) (f0 : Nat → va_E) (sz : Nat) (hWT : WT L kd tys f0) (a0_ : Nat) (ma0_ : a0_ ∈ L) (ka0_ : kd a0_ = 7) (o_ : Nat) (mo_ : o_ ∈ L) (ko_ : kd o_ = 138) (b_ : Nat) (mb_ : b_ ∈ L) (kb_ : kd b_ = 139) (n_ : Int32) (bn_ : bd 0 2000 n_) (T_ : Nat) (hd : dOK L kd f0 a0_ T_) (x1_ : Int32) (x2_ : Int32) (hfx : Fs L kd f0 [(7, 4, a0_, .ref o_), (7, 5, a0_, .ref b_), (7, 6, a0_, .int n_)]) : Met l yX7_emit (.code yX7_emit cX7_emit 3 none :: lw_g) ({ frames := 0, cells := 0, slots := 0, locals := 0 }) (va_Pc [.ref a0_, .int x1_, .int x2_] (P3 (dC, dI) L tys f0 sz)) (va_Qv (fun (f : Nat → va_E) => (dOK L kd f a0_ T_ ∧ ∃ z0_ : Int32, bd 0 2000 z0_ ∧ Fs L kd f [(7, 6, a0_, .int z0_)])) (Q3 (dC, dI) L kd tys [(7, 6)] [138, 139] f0 sz) (pA L sz)) 0 0 (pA L sz) := by
  refine Met.ofW (cc := cX7_emit) (maxL := 3) (ret := none) (by decide) rfl ?_
  intro p e s m args below meth c s₁ B hml hv
  obtain ⟨rfl, hsz, hP, hK, hD0⟩ := hv
  have hx := B.exec
  have hb := B.bytes
  have hr := B.returns
  have hts := atoms_spec (ws := (.code yX7_emit cX7_emit 3 none :: lw_g)) B.pre
  have hown : s.vm.findClass RX7 = some m.cls := findClass_of_methodNamed B.named
  have hlocks := B.notSynchronized
  subst hsz
  have g : G3 (dC, dI) L kd tys s f0 [(7, 6)] [138, 139] f0 s.heap [] [(7, 4, a0_, .ref o_), (7, 5, a0_, .ref b_), (7, 6, a0_, .int n_)] := G3.start hP hD0 hWT hfx
  have hl := lv_entry ([.ref a0_, .int x1_, .int x2_]) (n := 3) (Nat.le_of_ble_eq_true rfl)
  rw [lg_entry_eq]
  generalize (lg_sl ([.ref a0_, .int x1_, .int x2_]) ++ List.replicate (3 - (lg_sl ([.ref a0_, .int x1_, .int x2_])).length) Slot.unset).toArray = ls at hl ⊢
  have hl : lv_has ls 3 [(0, .ref a0_), (1, .int x1_), (2, .int x2_)] := hl
  refine W_q (fun Q hQ => ?_)
  have e4 : fV f0 a0_ 4 = .ref o_ := (fx_at g (i := 0) rfl).2.2.2
  have e5 : fV f0 a0_ 5 = .ref b_ := (fx_at g (i := 1) rfl).2.2.2
  have e6 : fV f0 a0_ 6 = .int n_ := (fx_at g (i := 2) rfl).2.2.2
  have ho7 : o_ ≠ b_ ∧ a0_ ≠ o_ ∧ a0_ ≠ b_ := ⟨fun z => by have h9 := ko_; rw [z] at h9; omega, fun z => by have h9 := ka0_; rw [z] at h9; omega, fun z => by have h9 := ka0_; rw [z] at h9; omega⟩
  refine lv_aload_n hx hb dX7_emit_0 rfl (lv_at hl 0 rfl) ?_
  refine g_getk (C := RX7) (T := TX7) (N := 19) hx hb hts (mc_ inX7) hown hK g rfl 6 (by decide) rfl (hts _ (List.mem_cons_of_mem _ t_644)) (fun _ h9 => h9) 2 rfl dX7_emit_1 ?_
  refine lv_sipush (v := 2000) hx hb dX7_emit_4 (by decide) ?_
  have kb_2000 : bd 2000 2000 (2000 : Int32) := ⟨by decide, by decide⟩
  refine lv_icmp_ge (tgt := 40) hx hb dX7_emit_7 (by decide) (fun c_1 => ?_) (fun c_1 => ?_)
  · have fc_1 := le_f c_1
    have b_2 : bd 2000 2000 n_ := leR fc_1 kb_2000 bn_ (by decide)
    subst hQ
    exact W.vret hx hb hr (fun t ht hW => ⟨⟨_, rfl, ⟨hd, n_, (bd_sub b_2 (by decide)), (g.fcts [2] rfl)⟩, q3_of g hK ht hW⟩, g.2.2.1.F ht⟩) g.2.2.1.2.2 dX7_emit_40
  · have fc_1 := nle_f c_1
    have b_3 : bd 0 1999 n_ := ltL fc_1 bn_ kb_2000 (by decide)
    refine lv_aload_n hx hb dX7_emit_10 rfl (lv_at hl 0 rfl) ?_
    refine g_getk (C := RX7) (T := TX7) (N := 19) hx hb hts (mc_ inX7) hown hK g rfl 4 (by decide) rfl (hts _ (List.mem_cons_of_mem _ t_640)) (fun _ h9 => h9) 0 rfl dX7_emit_11 ?_
    refine lv_aload_n hx hb dX7_emit_14 rfl (lv_at hl 0 rfl) ?_
    refine g_getk (C := RX7) (T := TX7) (N := 19) hx hb hts (mc_ inX7) hown hK g rfl 6 (by decide) rfl (hts _ (List.mem_cons_of_mem _ t_644)) (fun _ h9 => h9) 2 rfl dX7_emit_15 ?_
    refine lv_iload_n hx hb dX7_emit_18 rfl (lv_at hl 1 rfl) ?_
    have go_ := g
    refine g_iastX hx hb hK g mo_ ko_ (by decide) rfl (in_bd b_3 (by decide)) (bdT x1_) (by decide) dX7_emit_19 (fun f H locs hM_4 u_5 g => ?_)
    refine lv_aload_n hx hb dX7_emit_20 rfl (lv_at hl 0 rfl) ?_
    refine g_getk (C := RX7) (T := TX7) (N := 19) hx hb hts (mc_ inX7) hown hK g rfl 5 (by decide) rfl (hts _ (List.mem_cons_of_mem _ t_642)) (fun _ h9 => h9) 1 rfl dX7_emit_21 ?_
    refine lv_aload_n hx hb dX7_emit_24 rfl (lv_at hl 0 rfl) ?_
    refine g_getk (C := RX7) (T := TX7) (N := 19) hx hb hts (mc_ inX7) hown hK g rfl 6 (by decide) rfl (hts _ (List.mem_cons_of_mem _ t_644)) (fun _ h9 => h9) 2 rfl dX7_emit_25 ?_
    refine lv_iload_n hx hb dX7_emit_28 rfl (lv_at hl 2 rfl) ?_
    refine g_iastX hx hb hK g mb_ kb_ (by decide) rfl (in_bd b_3 (by decide)) (bdT x2_) (by decide) dX7_emit_29 (fun f H locs hM_6 u_7 g => ?_)
    refine lv_aload_n hx hb dX7_emit_30 rfl (lv_at hl 0 rfl) ?_
    refine lv_dup hx hb dX7_emit_31 rfl ?_
    refine g_getk (C := RX7) (T := TX7) (N := 19) hx hb hts (mc_ inX7) hown hK g rfl 6 (by decide) rfl (hts _ (List.mem_cons_of_mem _ t_644)) (fun _ h9 => h9) 2 rfl dX7_emit_32 ?_
    refine lv_iconst (v := 1) hx hb dX7_emit_35 (by decide) ?_
    have kb_1 : bd 1 1 (1 : Int32) := ⟨by decide, by decide⟩
    refine lv_iadd hx hb dX7_emit_36 ?_
    refine lv_topi (fun y_8 ey_8 => ?_)
    have ty_8 := add_bd ey_8 b_3 kb_1 (by decide)
    have b_9 : bd 1 2000 y_8 := add_rg ty_8 b_3 kb_1 (by decide)
    refine g_putX (C := RX7) (T := TX7) (N := 19) hx hb hts (mc_ inX7) tyX7 tyX7_ok nmX7 hown hK g ma0_ ka0_ (by decide) rfl 6 (by decide) (hts _ (List.mem_cons_of_mem _ t_644)) (fun _ h9 => h9) rfl rfl (okV_i (bd_sub b_9 (by decide))) rfl rfl (by decide) (Or.inr (Or.inl (by decide))) (fx' := [(7, 4, a0_, .ref o_), (7, 5, a0_, .ref b_)]) rfl dX7_emit_37 (fun f H locs hM_10 u_11 g => ?_)
    have hd_12 := emit_d hd hWT ka0_ e4 e5 ko_ kb_ u_5 u_7 u_11
    subst hQ
    exact W.vret hx hb hr (fun t ht hW => ⟨⟨_, rfl, ⟨hd_12, y_8, (bd_sub b_9 (by decide)), (g.fcts [0] rfl)⟩, q3_of g hK ht hW⟩, g.2.2.1.F ht⟩) g.2.2.1.2.2 dX7_emit_40
