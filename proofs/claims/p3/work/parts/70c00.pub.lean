set_option maxHeartbeats 4000000 in
set_option maxRecDepth 100000 in
theorem r_X11_putBytes (l : Launch) (dC : Nat → ClassId) (dI : Nat → Nat → Nat) (L : List Nat) (kd : Nat → Nat) (tys : List (ClassId × FieldType)) (f0 : Nat → va_E) (sz : Nat) (hWT : WT L kd tys f0) (a0_ : Nat) (ma0_ : a0_ ∈ L) (ka0_ : kd a0_ = 11) (x1_ : Int32) (t_ : Int32) (bt_ : bd 0 3996 t_) (hfx : Fs L kd f0 [(11, 1, a0_, .int t_)]) : Met l yX11_putBytes (.code yX11_putBytes cX11_putBytes 3 none :: lw_g) ({ frames := 0, cells := 0, slots := 0, locals := 0 }) (va_Pc [.ref a0_, .int x1_] (P3 (dC, dI) L tys f0 sz)) (va_Qv (fun (f : Nat → va_E) => ((t_.toInt ≤ 3996) ∧ ∃ z0_ : Int32, (bd 4 4000 z0_ ∧ z0_.toInt = t_.toInt + 4) ∧ Fs L kd f [(11, 1, a0_, .int z0_)])) (Q3 (dC, dI) L kd tys [(11, 1)] [104] f0 sz) (pA L sz)) 0 0 (pA L sz) := by
  refine Met.ofW (cc := cX11_putBytes) (maxL := 3) (ret := none) (by decide) rfl ?_
  intro p e s m args below meth c s₁ B hml hv
  obtain ⟨rfl, hsz, hP, hK, hD0⟩ := hv
  have hx := B.exec
  have hb := B.bytes
  have hr := B.returns
  have hts := atoms_spec (ws := (.code yX11_putBytes cX11_putBytes 3 none :: lw_g)) B.pre
  have hown : s.vm.findClass RX11 = some m.cls := findClass_of_methodNamed B.named
  have hlocks := B.notSynchronized
  subst hsz
  have g : G3 (dC, dI) L kd tys s f0 [(11, 1)] [104] f0 s.heap [] [(11, 1, a0_, .int t_)] := G3.start hP hD0 hWT hfx
  have hl := lv_entry ([.ref a0_, .int x1_]) (n := 3) (Nat.le_of_ble_eq_true rfl)
  rw [lg_entry_eq]
  generalize (lg_sl ([.ref a0_, .int x1_]) ++ List.replicate (3 - (lg_sl ([.ref a0_, .int x1_])).length) Slot.unset).toArray = ls at hl ⊢
  have hl : lv_has ls 3 [(0, .ref a0_), (1, .int x1_)] := hl
  refine W_q (fun Q hQ => ?_)
  refine lv_bipush (v := 24) hx hb dX11_putBytes_0 (by decide) ?_
  refine lv_istore_n (lv' := [(2, .int 24), (0, .ref a0_), (1, .int x1_)]) hx hb dX11_putBytes_2 rfl hl (by decide) rfl (fun ls hl => ?_)
  refine lv_iload_n hx hb dX11_putBytes_3 rfl (lv_at hl 0 rfl) ?_
  refine lv_if_lt (tgt := 46) hx hb dX11_putBytes_4 (by decide) (fun c_ => absurd c_ (by decide)) (fun c_ => ?_)
  refine lv_aload_n hx hb dX11_putBytes_7 rfl (lv_at hl 1 rfl) ?_
  refine g_getk (C := RX11) (T := TX11) (N := 8) hx hb hts (mc_ inX11) hown hK g rfl 1 (by decide) rfl (hts _ (List.mem_cons_of_mem _ t_949)) (fun _ h9 => h9) 0 rfl dX11_putBytes_8 ?_
  refine lv_sipush (v := 4000) hx hb dX11_putBytes_11 (by decide) ?_
  have kb_4000 : bd 4000 4000 (4000 : Int32) := ⟨by decide, by decide⟩
  refine lv_icmp_ge (tgt := 46) hx hb dX11_putBytes_14 (by decide) (fun c_1 => ?_) (fun c_1 => ?_)
  · have fc_1 := le_f c_1
    have b_2 : bd 4000 3996 (4000 : Int32) := leL fc_1 kb_4000 bt_ (by decide)
    exact bd_no (eqX rfl b_2 kb_4000 (lo := 4000) (hi := 3996) (by decide)) (by decide)
  · have fc_1 := nle_f c_1
    refine lv_aload_n hx hb dX11_putBytes_17 rfl (lv_at hl 1 rfl) ?_
    refine g_getr (K := 104) (C := RX11) (T := TX11) (N := 8) hx hb hts (mc_ inX11) hown hK g ma0_ ka0_ (by decide) rfl 0 (by decide) rfl (hts _ (List.mem_cons_of_mem _ t_948)) (fun _ h9 => h9) rfl dX11_putBytes_18 (fun a_3 ma_3 ka_3 g => ?_)
    refine lv_aload_n hx hb dX11_putBytes_21 rfl (lv_at hl 1 rfl) ?_
    refine g_getk (C := RX11) (T := TX11) (N := 8) hx hb hts (mc_ inX11) hown hK g rfl 1 (by decide) rfl (hts _ (List.mem_cons_of_mem _ t_949)) (fun _ h9 => h9) 1 rfl dX11_putBytes_22 ?_
    refine lv_iload_n hx hb dX11_putBytes_25 rfl (lv_at hl 2 rfl) ?_
    refine lv_iload_n hx hb dX11_putBytes_26 rfl (lv_at hl 0 rfl) ?_
    refine lv_iushr hx hb dX11_putBytes_27 rfl ?_
    refine lv_topi (fun y_4 ey_4 => ?_)
    refine lv_i2b hx hb dX11_putBytes_28 rfl ?_
    refine lv_topi (fun y_5 ey_5 => ?_)
    refine g_bast hx hb hK g ma_3 ka_3 (by decide) rfl (in_bd bt_ (by decide)) (by decide) dX11_putBytes_29 (fun f H locs hM_6 g => ?_)
    refine lv_aload_n hx hb dX11_putBytes_30 rfl (lv_at hl 1 rfl) ?_
    refine lv_dup hx hb dX11_putBytes_31 rfl ?_
    refine g_getk (C := RX11) (T := TX11) (N := 8) hx hb hts (mc_ inX11) hown hK g rfl 1 (by decide) rfl (hts _ (List.mem_cons_of_mem _ t_949)) (fun _ h9 => h9) 1 rfl dX11_putBytes_32 ?_
    refine lv_iconst (v := 1) hx hb dX11_putBytes_35 (by decide) ?_
    have kb_1 : bd 1 1 (1 : Int32) := ⟨by decide, by decide⟩
    refine lv_iadd hx hb dX11_putBytes_36 ?_
    refine lv_topi (fun y_7 ey_7 => ?_)
    have ty_7 := add_bd ey_7 bt_ kb_1 (by decide)
    have b_8 : bd 1 3997 y_7 := add_rg ty_7 bt_ kb_1 (by decide)
    have qy_7 : y_7.toInt = t_.toInt + 1 := addK ty_7 (Int.add_zero _).symm
    refine g_put (C := RX11) (T := TX11) (N := 8) hx hb hts (mc_ inX11) tyX11 tyX11_ok nmX11 hown hK g ma0_ ka0_ (by decide) rfl 1 (by decide) (hts _ (List.mem_cons_of_mem _ t_949)) (fun _ h9 => h9) rfl rfl (okV_i (bd_sub b_8 (by decide))) rfl rfl (by decide) (Or.inr (Or.inl (by decide))) (fx' := [(11, 0, a0_, .ref a_3)]) rfl dX11_putBytes_37 (fun f H locs hM_9 g => ?_)
    refine lv_iinc (v := 16) (lv' := [(2, .int 16), (0, .ref a0_), (1, .int x1_)]) hx hb dX11_putBytes_40 hl (k := 0) rfl (by decide) (by decide) rfl (fun ls hl => ?_)
    refine lv_goto (tgt := 3) hx hb dX11_putBytes_43 (by decide) ?_
    refine lv_iload_n hx hb dX11_putBytes_3 rfl (lv_at hl 0 rfl) ?_
    refine lv_if_lt (tgt := 46) hx hb dX11_putBytes_4 (by decide) (fun c_ => absurd c_ (by decide)) (fun c_ => ?_)
    refine lv_aload_n hx hb dX11_putBytes_7 rfl (lv_at hl 1 rfl) ?_
    refine g_getk (C := RX11) (T := TX11) (N := 8) hx hb hts (mc_ inX11) hown hK g rfl 1 (by decide) rfl (hts _ (List.mem_cons_of_mem _ t_949)) (fun _ h9 => h9) 0 rfl dX11_putBytes_8 ?_
    refine lv_sipush (v := 4000) hx hb dX11_putBytes_11 (by decide) ?_
    refine lv_icmp_ge (tgt := 46) hx hb dX11_putBytes_14 (by decide) (fun c_10 => ?_) (fun c_10 => ?_)
    · have fc_10 := le_f c_10
      have b_11 : bd 4000 3997 (4000 : Int32) := leL fc_10 kb_4000 b_8 (by decide)
      exact bd_no (eqX rfl b_11 kb_4000 (lo := 4000) (hi := 3997) (by decide)) (by decide)
    · have fc_10 := nle_f c_10
      refine lv_aload_n hx hb dX11_putBytes_17 rfl (lv_at hl 1 rfl) ?_
      refine g_getk (C := RX11) (T := TX11) (N := 8) hx hb hts (mc_ inX11) hown hK g rfl 0 (by decide) rfl (hts _ (List.mem_cons_of_mem _ t_948)) (fun _ h9 => h9) 1 rfl dX11_putBytes_18 ?_
      refine lv_aload_n hx hb dX11_putBytes_21 rfl (lv_at hl 1 rfl) ?_
      refine g_getk (C := RX11) (T := TX11) (N := 8) hx hb hts (mc_ inX11) hown hK g rfl 1 (by decide) rfl (hts _ (List.mem_cons_of_mem _ t_949)) (fun _ h9 => h9) 0 rfl dX11_putBytes_22 ?_
      refine lv_iload_n hx hb dX11_putBytes_25 rfl (lv_at hl 2 rfl) ?_
      refine lv_iload_n hx hb dX11_putBytes_26 rfl (lv_at hl 0 rfl) ?_
      refine lv_iushr hx hb dX11_putBytes_27 rfl ?_
      refine lv_topi (fun y_12 ey_12 => ?_)
      refine lv_i2b hx hb dX11_putBytes_28 rfl ?_
      refine lv_topi (fun y_13 ey_13 => ?_)
      refine g_bast hx hb hK g ma_3 ka_3 (by decide) rfl (in_bd b_8 (by decide)) (by decide) dX11_putBytes_29 (fun f H locs hM_14 g => ?_)
      refine lv_aload_n hx hb dX11_putBytes_30 rfl (lv_at hl 1 rfl) ?_
      refine lv_dup hx hb dX11_putBytes_31 rfl ?_
      refine g_getk (C := RX11) (T := TX11) (N := 8) hx hb hts (mc_ inX11) hown hK g rfl 1 (by decide) rfl (hts _ (List.mem_cons_of_mem _ t_949)) (fun _ h9 => h9) 0 rfl dX11_putBytes_32 ?_
      refine lv_iconst (v := 1) hx hb dX11_putBytes_35 (by decide) ?_
      refine lv_iadd hx hb dX11_putBytes_36 ?_
      refine lv_topi (fun y_15 ey_15 => ?_)
      have ty_15 := add_bd ey_15 b_8 kb_1 (by decide)
      have b_16 : bd 2 3998 y_15 := add_rg ty_15 b_8 kb_1 (by decide)
      have qy_15 : y_15.toInt = t_.toInt + 2 := addK ty_15 qy_7
      refine g_put (C := RX11) (T := TX11) (N := 8) hx hb hts (mc_ inX11) tyX11 tyX11_ok nmX11 hown hK g ma0_ ka0_ (by decide) rfl 1 (by decide) (hts _ (List.mem_cons_of_mem _ t_949)) (fun _ h9 => h9) rfl rfl (okV_i (bd_sub b_16 (by decide))) rfl rfl (by decide) (Or.inr (Or.inl (by decide))) (fx' := [(11, 0, a0_, .ref a_3)]) rfl dX11_putBytes_37 (fun f H locs hM_17 g => ?_)
      refine lv_iinc (v := 8) (lv' := [(2, .int 8), (0, .ref a0_), (1, .int x1_)]) hx hb dX11_putBytes_40 hl (k := 0) rfl (by decide) (by decide) rfl (fun ls hl => ?_)
      refine lv_goto (tgt := 3) hx hb dX11_putBytes_43 (by decide) ?_
      refine lv_iload_n hx hb dX11_putBytes_3 rfl (lv_at hl 0 rfl) ?_
      refine lv_if_lt (tgt := 46) hx hb dX11_putBytes_4 (by decide) (fun c_ => absurd c_ (by decide)) (fun c_ => ?_)
      refine lv_aload_n hx hb dX11_putBytes_7 rfl (lv_at hl 1 rfl) ?_
      refine g_getk (C := RX11) (T := TX11) (N := 8) hx hb hts (mc_ inX11) hown hK g rfl 1 (by decide) rfl (hts _ (List.mem_cons_of_mem _ t_949)) (fun _ h9 => h9) 0 rfl dX11_putBytes_8 ?_
      refine lv_sipush (v := 4000) hx hb dX11_putBytes_11 (by decide) ?_
      refine lv_icmp_ge (tgt := 46) hx hb dX11_putBytes_14 (by decide) (fun c_18 => ?_) (fun c_18 => ?_)
      · have fc_18 := le_f c_18
        have b_19 : bd 4000 3998 (4000 : Int32) := leL fc_18 kb_4000 b_16 (by decide)
        exact bd_no (eqX rfl b_19 kb_4000 (lo := 4000) (hi := 3998) (by decide)) (by decide)
      · have fc_18 := nle_f c_18
        refine lv_aload_n hx hb dX11_putBytes_17 rfl (lv_at hl 1 rfl) ?_
        refine g_getk (C := RX11) (T := TX11) (N := 8) hx hb hts (mc_ inX11) hown hK g rfl 0 (by decide) rfl (hts _ (List.mem_cons_of_mem _ t_948)) (fun _ h9 => h9) 1 rfl dX11_putBytes_18 ?_
        refine lv_aload_n hx hb dX11_putBytes_21 rfl (lv_at hl 1 rfl) ?_
        refine g_getk (C := RX11) (T := TX11) (N := 8) hx hb hts (mc_ inX11) hown hK g rfl 1 (by decide) rfl (hts _ (List.mem_cons_of_mem _ t_949)) (fun _ h9 => h9) 0 rfl dX11_putBytes_22 ?_
        refine lv_iload_n hx hb dX11_putBytes_25 rfl (lv_at hl 2 rfl) ?_
        refine lv_iload_n hx hb dX11_putBytes_26 rfl (lv_at hl 0 rfl) ?_
        refine lv_iushr hx hb dX11_putBytes_27 rfl ?_
        refine lv_topi (fun y_20 ey_20 => ?_)
        refine lv_i2b hx hb dX11_putBytes_28 rfl ?_
        refine lv_topi (fun y_21 ey_21 => ?_)
        refine g_bast hx hb hK g ma_3 ka_3 (by decide) rfl (in_bd b_16 (by decide)) (by decide) dX11_putBytes_29 (fun f H locs hM_22 g => ?_)
        refine lv_aload_n hx hb dX11_putBytes_30 rfl (lv_at hl 1 rfl) ?_
        refine lv_dup hx hb dX11_putBytes_31 rfl ?_
        refine g_getk (C := RX11) (T := TX11) (N := 8) hx hb hts (mc_ inX11) hown hK g rfl 1 (by decide) rfl (hts _ (List.mem_cons_of_mem _ t_949)) (fun _ h9 => h9) 0 rfl dX11_putBytes_32 ?_
        refine lv_iconst (v := 1) hx hb dX11_putBytes_35 (by decide) ?_
        refine lv_iadd hx hb dX11_putBytes_36 ?_
        refine lv_topi (fun y_23 ey_23 => ?_)
        have ty_23 := add_bd ey_23 b_16 kb_1 (by decide)
        have b_24 : bd 3 3999 y_23 := add_rg ty_23 b_16 kb_1 (by decide)
        have qy_23 : y_23.toInt = t_.toInt + 3 := addK ty_23 qy_15
        refine g_put (C := RX11) (T := TX11) (N := 8) hx hb hts (mc_ inX11) tyX11 tyX11_ok nmX11 hown hK g ma0_ ka0_ (by decide) rfl 1 (by decide) (hts _ (List.mem_cons_of_mem _ t_949)) (fun _ h9 => h9) rfl rfl (okV_i (bd_sub b_24 (by decide))) rfl rfl (by decide) (Or.inr (Or.inl (by decide))) (fx' := [(11, 0, a0_, .ref a_3)]) rfl dX11_putBytes_37 (fun f H locs hM_25 g => ?_)
        refine lv_iinc (v := 0) (lv' := [(2, .int 0), (0, .ref a0_), (1, .int x1_)]) hx hb dX11_putBytes_40 hl (k := 0) rfl (by decide) (by decide) rfl (fun ls hl => ?_)
        refine lv_goto (tgt := 3) hx hb dX11_putBytes_43 (by decide) ?_
        refine lv_iload_n hx hb dX11_putBytes_3 rfl (lv_at hl 0 rfl) ?_
        refine lv_if_lt (tgt := 46) hx hb dX11_putBytes_4 (by decide) (fun c_ => absurd c_ (by decide)) (fun c_ => ?_)
        refine lv_aload_n hx hb dX11_putBytes_7 rfl (lv_at hl 1 rfl) ?_
        refine g_getk (C := RX11) (T := TX11) (N := 8) hx hb hts (mc_ inX11) hown hK g rfl 1 (by decide) rfl (hts _ (List.mem_cons_of_mem _ t_949)) (fun _ h9 => h9) 0 rfl dX11_putBytes_8 ?_
        refine lv_sipush (v := 4000) hx hb dX11_putBytes_11 (by decide) ?_
        refine lv_icmp_ge (tgt := 46) hx hb dX11_putBytes_14 (by decide) (fun c_26 => ?_) (fun c_26 => ?_)
        · have fc_26 := le_f c_26
          have b_27 : bd 4000 3999 (4000 : Int32) := leL fc_26 kb_4000 b_24 (by decide)
          exact bd_no (eqX rfl b_27 kb_4000 (lo := 4000) (hi := 3999) (by decide)) (by decide)
        · have fc_26 := nle_f c_26
          refine lv_aload_n hx hb dX11_putBytes_17 rfl (lv_at hl 1 rfl) ?_
          refine g_getk (C := RX11) (T := TX11) (N := 8) hx hb hts (mc_ inX11) hown hK g rfl 0 (by decide) rfl (hts _ (List.mem_cons_of_mem _ t_948)) (fun _ h9 => h9) 1 rfl dX11_putBytes_18 ?_
          refine lv_aload_n hx hb dX11_putBytes_21 rfl (lv_at hl 1 rfl) ?_
          refine g_getk (C := RX11) (T := TX11) (N := 8) hx hb hts (mc_ inX11) hown hK g rfl 1 (by decide) rfl (hts _ (List.mem_cons_of_mem _ t_949)) (fun _ h9 => h9) 0 rfl dX11_putBytes_22 ?_
          refine lv_iload_n hx hb dX11_putBytes_25 rfl (lv_at hl 2 rfl) ?_
          refine lv_iload_n hx hb dX11_putBytes_26 rfl (lv_at hl 0 rfl) ?_
          refine lv_iushr hx hb dX11_putBytes_27 rfl ?_
          refine lv_topi (fun y_28 ey_28 => ?_)
          refine lv_i2b hx hb dX11_putBytes_28 rfl ?_
          refine lv_topi (fun y_29 ey_29 => ?_)
          refine g_bast hx hb hK g ma_3 ka_3 (by decide) rfl (in_bd b_24 (by decide)) (by decide) dX11_putBytes_29 (fun f H locs hM_30 g => ?_)
          refine lv_aload_n hx hb dX11_putBytes_30 rfl (lv_at hl 1 rfl) ?_
          refine lv_dup hx hb dX11_putBytes_31 rfl ?_
          refine g_getk (C := RX11) (T := TX11) (N := 8) hx hb hts (mc_ inX11) hown hK g rfl 1 (by decide) rfl (hts _ (List.mem_cons_of_mem _ t_949)) (fun _ h9 => h9) 0 rfl dX11_putBytes_32 ?_
          refine lv_iconst (v := 1) hx hb dX11_putBytes_35 (by decide) ?_
          refine lv_iadd hx hb dX11_putBytes_36 ?_
          refine lv_topi (fun y_31 ey_31 => ?_)
          have ty_31 := add_bd ey_31 b_24 kb_1 (by decide)
          have b_32 : bd 4 4000 y_31 := add_rg ty_31 b_24 kb_1 (by decide)
          have qy_31 : y_31.toInt = t_.toInt + 4 := addK ty_31 qy_23
          refine g_put (C := RX11) (T := TX11) (N := 8) hx hb hts (mc_ inX11) tyX11 tyX11_ok nmX11 hown hK g ma0_ ka0_ (by decide) rfl 1 (by decide) (hts _ (List.mem_cons_of_mem _ t_949)) (fun _ h9 => h9) rfl rfl (okV_i (bd_sub b_32 (by decide))) rfl rfl (by decide) (Or.inr (Or.inl (by decide))) (fx' := [(11, 0, a0_, .ref a_3)]) rfl dX11_putBytes_37 (fun f H locs hM_33 g => ?_)
          refine lv_iinc (v := (-8)) (lv' := [(2, .int (-8)), (0, .ref a0_), (1, .int x1_)]) hx hb dX11_putBytes_40 hl (k := 0) rfl (by decide) (by decide) rfl (fun ls hl => ?_)
          refine lv_goto (tgt := 3) hx hb dX11_putBytes_43 (by decide) ?_
          refine lv_iload_n hx hb dX11_putBytes_3 rfl (lv_at hl 0 rfl) ?_
          refine lv_if_lt (tgt := 46) hx hb dX11_putBytes_4 (by decide) (fun c_ => ?_) (fun c_ => absurd (by decide) c_)
          subst hQ
          exact W.vret hx hb hr (fun t ht hW => ⟨⟨_, rfl, ⟨bt_.2, y_31, ⟨b_32, qy_31⟩, (g.fcts [0] rfl)⟩, q3_of g hK ht hW⟩, g.2.2.1.F ht⟩) g.2.2.1.2.2 dX11_putBytes_46
set_option maxHeartbeats 4000000 in
set_option maxRecDepth 100000 in
theorem r_X11_feed (l : Launch) (dC : Nat → ClassId) (dI : Nat → Nat → Nat) (L : List Nat) (kd : Nat → Nat) (tys : List (ClassId × FieldType)) (f0 : Nat → va_E) (sz : Nat) (hWT : WT L kd tys f0) (a0_ : Nat) (ma0_ : a0_ ∈ L) (ka0_ : kd a0_ = 11) (x1_ : Int32) (x2_ : Int32) (x3_ : Int32) (x4_ : Int32) (x5_ : Int32) (t_ : Int32) (bt_ : bd 0 4000 t_) (hfx : Fs L kd f0 [(11, 1, a0_, .int t_)]) : Met l yX11_feed (.code yX11_feed cX11_feed 6 (some .int) :: lw_g) ({ frames := 1, cells := 0, slots := 0, locals := 22 }) (va_Pc [.ref a0_, .int x1_, .int x2_, .int x3_, .int x4_, .int x5_] (P3 (dC, dI) L tys f0 sz)) (va_Qi (fun (r : Int32) (f : Nat → va_E) => ((3981 ≤ t_.toInt) ∧ r = (-3) ∧ Fs L kd f [(11, 1, a0_, .int t_)]) ∨ ((r.toInt = t_.toInt + 20 ∧ t_.toInt ≤ 3980) ∧ bd 4 4000 r ∧ ∃ z0_ : Int32, (bd 4 4000 z0_ ∧ z0_.toInt = t_.toInt + 20) ∧ Fs L kd f [(11, 1, a0_, .int z0_)])) (Q3 (dC, dI) L kd tys [(11, 1)] [104] f0 sz) (pA L sz)) 0 0 (pA L sz) := by
  refine Met.ofW (cc := cX11_feed) (maxL := 6) (ret := (some .int)) (by decide) rfl ?_
  intro p e s m args below meth c s₁ B hml hv
  obtain ⟨rfl, hsz, hP, hK, hD0⟩ := hv
  have hx := B.exec
  have hb := B.bytes
  have hr := B.returns
  have hts := atoms_spec (ws := (.code yX11_feed cX11_feed 6 (some .int) :: lw_g)) B.pre
  have hown : s.vm.findClass RX11 = some m.cls := findClass_of_methodNamed B.named
  have hlocks := B.notSynchronized
  subst hsz
  have g : G3 (dC, dI) L kd tys s f0 [(11, 1)] [104] f0 s.heap [] [(11, 1, a0_, .int t_)] := G3.start hP hD0 hWT hfx
  have hl := lv_entry ([.ref a0_, .int x1_, .int x2_, .int x3_, .int x4_, .int x5_]) (n := 6) (Nat.le_of_ble_eq_true rfl)
  rw [lg_entry_eq]
  generalize (lg_sl ([.ref a0_, .int x1_, .int x2_, .int x3_, .int x4_, .int x5_]) ++ List.replicate (6 - (lg_sl ([.ref a0_, .int x1_, .int x2_, .int x3_, .int x4_, .int x5_])).length) Slot.unset).toArray = ls at hl ⊢
  have hl : lv_has ls 6 [(0, .ref a0_), (1, .int x1_), (2, .int x2_), (3, .int x3_), (4, .int x4_), (5, .int x5_)] := hl
  refine W_q (fun Q hQ => ?_)
  refine lv_aload_n hx hb dX11_feed_0 rfl (lv_at hl 0 rfl) ?_
  refine g_getk (C := RX11) (T := TX11) (N := 8) hx hb hts (mc_ inX11) hown hK g rfl 1 (by decide) rfl (hts _ (List.mem_cons_of_mem _ t_949)) (fun _ h9 => h9) 0 rfl dX11_feed_1 ?_
  refine lv_bipush (v := 20) hx hb dX11_feed_4 (by decide) ?_
  have kb_20 : bd 20 20 (20 : Int32) := ⟨by decide, by decide⟩
  refine lv_iadd hx hb dX11_feed_6 ?_
  refine lv_topi (fun y_1 ey_1 => ?_)
  have ty_1 := add_bd ey_1 bt_ kb_20 (by decide)
  have b_2 : bd 20 4020 y_1 := add_rg ty_1 bt_ kb_20 (by decide)
  refine lv_sipush (v := 4000) hx hb dX11_feed_7 (by decide) ?_
  have kb_4000 : bd 4000 4000 (4000 : Int32) := ⟨by decide, by decide⟩
  refine lv_icmp_le (tgt := 16) hx hb dX11_feed_10 (by decide) (fun c_3 => ?_) (fun c_3 => ?_)
  · have fc_3 := le_f c_3
    have b_4 : bd 20 4000 y_1 := leL fc_3 b_2 kb_4000 (by decide)
    have b_5 : bd 0 3980 t_ := add_inv ty_1 b_4 bt_ kb_20 (by decide)
    refine lv_aload_n hx hb dX11_feed_16 rfl (lv_at hl 0 rfl) ?_
    refine lv_iload_n hx hb dX11_feed_17 rfl (lv_at hl 1 rfl) ?_
    refine g_callv (va_runV (As := [.int x1_]) (rest := []) ⟨hx, hb, hml, hown, hts⟩ (r_X11_putBytes l dC dI L kd tys f0 s.heap.size g.2.2.2.1 a0_ ma0_ ka0_ x1_ t_ (bd_sub b_5 (by decide)) (g.fcts [0] rfl)) (cwV 1 hts (gV_ t_977 t_979 t_1 t_182 t_980) rfl rfl rfl (by decide +kernel) ⟨(Nat.le_of_ble_eq_true rfl), (Nat.le_of_ble_eq_true rfl)⟩) (pre3V g hK ma0_ ka0_ (by decide) (q := (RX11, TX11, 8)) rfl) rfl rfl hl.1 rfl (lv_room (Nat.le_of_ble_eq_true rfl)) dX11_feed_18 ⟨(Nat.le_of_ble_eq_true rfl), (Nat.le_of_ble_eq_true rfl)⟩) g hK (by decide) (by decide) (fx' := []) rfl (fun fr_6 H locs hp hMr_6 g => ?_)
    obtain ⟨hx_7, x_8, ⟨h_9, rh_9⟩, hF_10⟩ := hp
    have g := g.more hF_10
    refine lv_aload_n hx hb dX11_feed_21 rfl (lv_at hl 0 rfl) ?_
    refine lv_iload_n hx hb dX11_feed_22 rfl (lv_at hl 2 rfl) ?_
    have b_11 : bd 4 3996 x_8 := ⟨h_9.1, (by have h9_0 := b_5; unfold bd at h9_0; omega)⟩
    refine g_callv (va_runV (As := [.int x2_]) (rest := []) ⟨hx, hb, hml, hown, hts⟩ (r_X11_putBytes l dC dI L kd tys fr_6 H.size g.2.2.2.1 a0_ ma0_ ka0_ x2_ x_8 (bd_sub b_11 (by decide)) (g.fcts [0] rfl)) (cwV 1 hts (gV_ t_977 t_979 t_1 t_182 t_980) rfl rfl rfl (by decide +kernel) ⟨(Nat.le_of_ble_eq_true rfl), (Nat.le_of_ble_eq_true rfl)⟩) (pre3V g hK ma0_ ka0_ (by decide) (q := (RX11, TX11, 8)) rfl) rfl rfl hl.1 rfl (lv_room (Nat.le_of_ble_eq_true rfl)) dX11_feed_23 ⟨(Nat.le_of_ble_eq_true rfl), (Nat.le_of_ble_eq_true rfl)⟩) g hK (by decide) (by decide) (fx' := []) rfl (fun fr_12 H locs hp hMr_12 g => ?_)
    obtain ⟨hx_13, x_14, ⟨h_15, rh_15⟩, hF_16⟩ := hp
    have g := g.more hF_16
    refine lv_aload_n hx hb dX11_feed_26 rfl (lv_at hl 0 rfl) ?_
    refine lv_iload_n hx hb dX11_feed_27 rfl (lv_at hl 3 rfl) ?_
    have b_17 : bd 4 3996 x_14 := ⟨h_15.1, (by have h9_0 := b_5; unfold bd at h9_0; omega)⟩
    refine g_callv (va_runV (As := [.int x3_]) (rest := []) ⟨hx, hb, hml, hown, hts⟩ (r_X11_putBytes l dC dI L kd tys fr_12 H.size g.2.2.2.1 a0_ ma0_ ka0_ x3_ x_14 (bd_sub b_17 (by decide)) (g.fcts [0] rfl)) (cwV 1 hts (gV_ t_977 t_979 t_1 t_182 t_980) rfl rfl rfl (by decide +kernel) ⟨(Nat.le_of_ble_eq_true rfl), (Nat.le_of_ble_eq_true rfl)⟩) (pre3V g hK ma0_ ka0_ (by decide) (q := (RX11, TX11, 8)) rfl) rfl rfl hl.1 rfl (lv_room (Nat.le_of_ble_eq_true rfl)) dX11_feed_28 ⟨(Nat.le_of_ble_eq_true rfl), (Nat.le_of_ble_eq_true rfl)⟩) g hK (by decide) (by decide) (fx' := []) rfl (fun fr_18 H locs hp hMr_18 g => ?_)
    obtain ⟨hx_19, x_20, ⟨h_21, rh_21⟩, hF_22⟩ := hp
    have g := g.more hF_22
    refine lv_aload_n hx hb dX11_feed_31 rfl (lv_at hl 0 rfl) ?_
    refine lv_iload hx hb dX11_feed_32 (lv_at hl 4 rfl) ?_
    have b_23 : bd 4 3996 x_20 := ⟨h_21.1, (by have h9_0 := b_5; unfold bd at h9_0; omega)⟩
    refine g_callv (va_runV (As := [.int x4_]) (rest := []) ⟨hx, hb, hml, hown, hts⟩ (r_X11_putBytes l dC dI L kd tys fr_18 H.size g.2.2.2.1 a0_ ma0_ ka0_ x4_ x_20 (bd_sub b_23 (by decide)) (g.fcts [0] rfl)) (cwV 1 hts (gV_ t_977 t_979 t_1 t_182 t_980) rfl rfl rfl (by decide +kernel) ⟨(Nat.le_of_ble_eq_true rfl), (Nat.le_of_ble_eq_true rfl)⟩) (pre3V g hK ma0_ ka0_ (by decide) (q := (RX11, TX11, 8)) rfl) rfl rfl hl.1 rfl (lv_room (Nat.le_of_ble_eq_true rfl)) dX11_feed_34 ⟨(Nat.le_of_ble_eq_true rfl), (Nat.le_of_ble_eq_true rfl)⟩) g hK (by decide) (by decide) (fx' := []) rfl (fun fr_24 H locs hp hMr_24 g => ?_)
    obtain ⟨hx_25, x_26, ⟨h_27, rh_27⟩, hF_28⟩ := hp
    have g := g.more hF_28
    refine lv_aload_n hx hb dX11_feed_37 rfl (lv_at hl 0 rfl) ?_
    refine lv_iload hx hb dX11_feed_38 (lv_at hl 5 rfl) ?_
    have b_29 : bd 4 3996 x_26 := ⟨h_27.1, (by have h9_0 := b_5; unfold bd at h9_0; omega)⟩
    refine g_callv (va_runV (As := [.int x5_]) (rest := []) ⟨hx, hb, hml, hown, hts⟩ (r_X11_putBytes l dC dI L kd tys fr_24 H.size g.2.2.2.1 a0_ ma0_ ka0_ x5_ x_26 (bd_sub b_29 (by decide)) (g.fcts [0] rfl)) (cwV 1 hts (gV_ t_977 t_979 t_1 t_182 t_980) rfl rfl rfl (by decide +kernel) ⟨(Nat.le_of_ble_eq_true rfl), (Nat.le_of_ble_eq_true rfl)⟩) (pre3V g hK ma0_ ka0_ (by decide) (q := (RX11, TX11, 8)) rfl) rfl rfl hl.1 rfl (lv_room (Nat.le_of_ble_eq_true rfl)) dX11_feed_40 ⟨(Nat.le_of_ble_eq_true rfl), (Nat.le_of_ble_eq_true rfl)⟩) g hK (by decide) (by decide) (fx' := []) rfl (fun fr_30 H locs hp hMr_30 g => ?_)
    obtain ⟨hx_31, x_32, ⟨h_33, rh_33⟩, hF_34⟩ := hp
    have g := g.more hF_34
    refine lv_aload_n hx hb dX11_feed_43 rfl (lv_at hl 0 rfl) ?_
    refine g_getk (C := RX11) (T := TX11) (N := 8) hx hb hts (mc_ inX11) hown hK g rfl 1 (by decide) rfl (hts _ (List.mem_cons_of_mem _ t_949)) (fun _ h9 => h9) 0 rfl dX11_feed_44 ?_
    subst hQ
    exact W.iret (v := x_32) hx hb hr (fun t ht hW => ⟨⟨_, _, rfl, Or.inr (⟨(by have h9_0 := b_5; unfold bd at h9_0; omega), h_33, x_32, ⟨h_33, (by have h9_0 := b_5; unfold bd at h9_0; omega)⟩, (g.fcts [0] rfl)⟩), q3_of g hK ht hW⟩, g.2.2.1.F ht⟩) g.2.2.1.2.2 dX11_feed_47
  · have fc_3 := nle_f c_3
    have b_35 : bd 4001 4020 y_1 := ltR fc_3 kb_4000 b_2 (by decide)
    have b_36 : bd 3981 4000 t_ := add_inv ty_1 b_35 bt_ kb_20 (by decide)
    refine lv_bipush (v := (-3)) hx hb dX11_feed_13 (by decide) ?_
    subst hQ
    exact W.iret (v := (-3)) hx hb hr (fun t ht hW => ⟨⟨_, _, rfl, Or.inl ⟨b_36.1, rfl, (g.fcts [0] rfl)⟩, q3_of g hK ht hW⟩, g.2.2.1.F ht⟩) g.2.2.1.2.2 dX11_feed_15
set_option maxHeartbeats 4000000 in
set_option maxRecDepth 100000 in
theorem r_X11_end (l : Launch) (dC : Nat → ClassId) (dI : Nat → Nat → Nat) (L : List Nat) (kd : Nat → Nat) (tys : List (ClassId × FieldType)) (f0 : Nat → va_E) (sz : Nat) (hWT : WT L kd tys f0) (a0_ : Nat) (ma0_ : a0_ ∈ L) (ka0_ : kd a0_ = 11) (x1_ : Int32) (t_ : Int32) (bt_ : bd 0 4000 t_) (hfx : Fs L kd f0 [(11, 1, a0_, .int t_)]) : Met l yX11_end (.code yX11_end cX11_end 2 (some .int) :: lw_g) ({ frames := 0, cells := 0, slots := 0, locals := 0 }) (va_Pc [.ref a0_, .int x1_] (P3 (dC, dI) L tys f0 sz)) (va_Qi (fun (r : Int32) (f : Nat → va_E) => ((¬ (0 ≤ x1_.toInt ∧ x1_.toInt ≤ t_.toInt)) ∧ r = (-1) ∧ Fs L kd f [(11, 1, a0_, .int t_)]) ∨ ((0 ≤ x1_.toInt ∧ x1_.toInt ≤ t_.toInt) ∧ (r = x1_) ∧ bd 0 4000 r ∧ Fs L kd f [(11, 1, a0_, .int x1_)])) (Q3 (dC, dI) L kd tys [(11, 1)] [] f0 sz) (pA L sz)) 0 0 (pA L sz) := by
  refine Met.ofW (cc := cX11_end) (maxL := 2) (ret := (some .int)) (by decide) rfl ?_
  intro p e s m args below meth c s₁ B hml hv
  obtain ⟨rfl, hsz, hP, hK, hD0⟩ := hv
  have hx := B.exec
  have hb := B.bytes
  have hr := B.returns
  have hts := atoms_spec (ws := (.code yX11_end cX11_end 2 (some .int) :: lw_g)) B.pre
  have hown : s.vm.findClass RX11 = some m.cls := findClass_of_methodNamed B.named
  have hlocks := B.notSynchronized
  subst hsz
  have g : G3 (dC, dI) L kd tys s f0 [(11, 1)] [] f0 s.heap [] [(11, 1, a0_, .int t_)] := G3.start hP hD0 hWT hfx
  have hl := lv_entry ([.ref a0_, .int x1_]) (n := 2) (Nat.le_of_ble_eq_true rfl)
  rw [lg_entry_eq]
  generalize (lg_sl ([.ref a0_, .int x1_]) ++ List.replicate (2 - (lg_sl ([.ref a0_, .int x1_])).length) Slot.unset).toArray = ls at hl ⊢
  have hl : lv_has ls 2 [(0, .ref a0_), (1, .int x1_)] := hl
  refine W_q (fun Q hQ => ?_)
  refine lv_iload_n hx hb dX11_end_0 rfl (lv_at hl 1 rfl) ?_
  have kb_0 : bd 0 0 (0 : Int32) := ⟨by decide, by decide⟩
  refine lv_if_lt (tgt := 12) hx hb dX11_end_1 (by decide) (fun c_1 => ?_) (fun c_1 => ?_)
  · have fc_1 := lt_f c_1
    have b_2 : bd (-2147483648) (-1) x1_ := ltL fc_1 (bdT x1_) kb_0 (by decide)
    refine lv_iconst (v := (-1)) hx hb dX11_end_12 (by decide) ?_
    subst hQ
    exact W.iret (v := (-1)) hx hb hr (fun t ht hW => ⟨⟨_, _, rfl, Or.inl ⟨(by have h9_0 := bt_; unfold bd at h9_0; have h9_1 := b_2; unfold bd at h9_1; have h8_0 := kb_0; unfold bd at h8_0; omega), rfl, (g.fcts [0] rfl)⟩, q3_of g hK ht hW⟩, g.2.2.1.F ht⟩) g.2.2.1.2.2 dX11_end_13
  · have fc_1 := nlt_f c_1
    have b_3 : bd 0 2147483647 x1_ := leR fc_1 kb_0 (bdT x1_) (by decide)
    refine lv_iload_n hx hb dX11_end_4 rfl (lv_at hl 1 rfl) ?_
    refine lv_aload_n hx hb dX11_end_5 rfl (lv_at hl 0 rfl) ?_
    refine g_getk (C := RX11) (T := TX11) (N := 8) hx hb hts (mc_ inX11) hown hK g rfl 1 (by decide) rfl (hts _ (List.mem_cons_of_mem _ t_949)) (fun _ h9 => h9) 0 rfl dX11_end_6 ?_
    refine lv_icmp_le (tgt := 14) hx hb dX11_end_9 (by decide) (fun c_4 => ?_) (fun c_4 => ?_)
    · have fc_4 := le_f c_4
      have b_5 : bd 0 4000 x1_ := leL fc_4 b_3 bt_ (by decide)
      refine lv_aload_n hx hb dX11_end_14 rfl (lv_at hl 0 rfl) ?_
      refine lv_iload_n hx hb dX11_end_15 rfl (lv_at hl 1 rfl) ?_
      refine g_put (C := RX11) (T := TX11) (N := 8) hx hb hts (mc_ inX11) tyX11 tyX11_ok nmX11 hown hK g ma0_ ka0_ (by decide) rfl 1 (by decide) (hts _ (List.mem_cons_of_mem _ t_949)) (fun _ h9 => h9) rfl rfl (okV_i b_5) rfl rfl (by decide) (Or.inr (Or.inl (by decide))) (fx' := []) rfl dX11_end_16 (fun f H locs hM_6 g => ?_)
      refine lv_iload_n hx hb dX11_end_19 rfl (lv_at hl 1 rfl) ?_
      subst hQ
      exact W.iret (v := x1_) hx hb hr (fun t ht hW => ⟨⟨_, _, rfl, Or.inr (⟨(by have h9_0 := bt_; unfold bd at h9_0; have h9_1 := b_5; unfold bd at h9_1; have h8_0 := kb_0; unfold bd at h8_0; have h7 := b_5; unfold bd at h7; omega), rfl, b_5, (g.fcts [0] rfl)⟩), q3_of g hK ht hW⟩, g.2.2.1.F ht⟩) g.2.2.1.2.2 dX11_end_20
    · have fc_4 := nle_f c_4
      have b_7 : bd 1 2147483647 x1_ := ltR fc_4 bt_ b_3 (by decide)
      refine lv_iconst (v := (-1)) hx hb dX11_end_12 (by decide) ?_
      subst hQ
      exact W.iret (v := (-1)) hx hb hr (fun t ht hW => ⟨⟨_, _, rfl, Or.inl ⟨(by have h9_0 := bt_; unfold bd at h9_0; have h9_1 := b_7; unfold bd at h9_1; have h8_0 := kb_0; unfold bd at h8_0; omega), rfl, (g.fcts [0] rfl)⟩, q3_of g hK ht hW⟩, g.2.2.1.F ht⟩) g.2.2.1.2.2 dX11_end_13
set_option maxHeartbeats 4000000 in
set_option maxRecDepth 100000 in
theorem r_X11_fault (l : Launch) (dC : Nat → ClassId) (dI : Nat → Nat → Nat) (L : List Nat) (kd : Nat → Nat) (tys : List (ClassId × FieldType)) (f0 : Nat → va_E) (sz : Nat) (hWT : WT L kd tys f0) (a0_ : Nat) (ma0_ : a0_ ∈ L) (ka0_ : kd a0_ = 11) (x1_ : Int32) : Met l yX11_fault (.code yX11_fault cX11_fault 2 (some .int) :: lw_g) ({ frames := 0, cells := 0, slots := 0, locals := 0 }) (va_Pc [.ref a0_, .int x1_] (P3 (dC, dI) L tys f0 sz)) (va_Qi (fun (r : Int32) (f : Nat → va_E) => (True)) (Q3 (dC, dI) L kd tys [] [] f0 sz) (pA L sz)) 0 0 (pA L sz) := by
  refine Met.ofW (cc := cX11_fault) (maxL := 2) (ret := (some .int)) (by decide) rfl ?_
  intro p e s m args below meth c s₁ B hml hv
  obtain ⟨rfl, hsz, hP, hK, hD0⟩ := hv
  have hx := B.exec
  have hb := B.bytes
  have hr := B.returns
  have hts := atoms_spec (ws := (.code yX11_fault cX11_fault 2 (some .int) :: lw_g)) B.pre
  have hown : s.vm.findClass RX11 = some m.cls := findClass_of_methodNamed B.named
  have hlocks := B.notSynchronized
  subst hsz
  have g : G3 (dC, dI) L kd tys s f0 [] [] f0 s.heap [] [] := G3.start hP hD0 hWT Fs.nil
  have hl := lv_entry ([.ref a0_, .int x1_]) (n := 2) (Nat.le_of_ble_eq_true rfl)
  rw [lg_entry_eq]
  generalize (lg_sl ([.ref a0_, .int x1_]) ++ List.replicate (2 - (lg_sl ([.ref a0_, .int x1_])).length) Slot.unset).toArray = ls at hl ⊢
  have hl : lv_has ls 2 [(0, .ref a0_), (1, .int x1_)] := hl
  refine W_q (fun Q hQ => ?_)
  refine lv_iload_n hx hb dX11_fault_0 rfl (lv_at hl 1 rfl) ?_
  have kb_0 : bd 0 0 (0 : Int32) := ⟨by decide, by decide⟩
  refine lv_if_ne (tgt := 9) hx hb dX11_fault_1 (by decide) (fun c_1 => ?_) (fun c_1 => ?_)
  · have fc_1 := neq_f c_1
    refine lv_iload_n hx hb dX11_fault_9 rfl (lv_at hl 1 rfl) ?_
    refine lv_iconst (v := 1) hx hb dX11_fault_10 (by decide) ?_
    have kb_1 : bd 1 1 (1 : Int32) := ⟨by decide, by decide⟩
    refine lv_icmp_ne (tgt := 21) hx hb dX11_fault_11 (by decide) (fun c_2 => ?_) (fun c_2 => ?_)
    · have fc_2 := neq_f c_2
      refine lv_iconst (v := (-1)) hx hb dX11_fault_21 (by decide) ?_
      subst hQ
      exact W.iret (v := (-1)) hx hb hr (fun t ht hW => ⟨⟨_, _, rfl, trivial, q3_of g hK ht hW⟩, g.2.2.1.F ht⟩) g.2.2.1.2.2 dX11_fault_22
    · have fc_2 := eq_f c_2
      have b_3 : bd 1 1 x1_ := eqX fc_2 (bdT x1_) kb_1 (by decide)
      refine lv_aload_n hx hb dX11_fault_14 rfl (lv_at hl 0 rfl) ?_
      refine g_geti (C := RX11) (T := TX11) (N := 8) hx hb hts (mc_ inX11) hown hK g ma0_ ka0_ (by decide) rfl 7 (by decide) rfl (hts _ (List.mem_cons_of_mem _ t_955)) (fun _ h9 => h9) rfl dX11_fault_15 (fun x_4 bx_4 g => ?_)
      refine lv_goto (tgt := 22) hx hb dX11_fault_18 (by decide) ?_
      subst hQ
      exact W.iret (v := x_4) hx hb hr (fun t ht hW => ⟨⟨_, _, rfl, trivial, q3_of g hK ht hW⟩, g.2.2.1.F ht⟩) g.2.2.1.2.2 dX11_fault_22
  · have fc_1 := eq_f c_1
    have b_5 : bd 0 0 x1_ := eqX fc_1 (bdT x1_) kb_0 (by decide)
    refine lv_aload_n hx hb dX11_fault_4 rfl (lv_at hl 0 rfl) ?_
    refine g_geti (C := RX11) (T := TX11) (N := 8) hx hb hts (mc_ inX11) hown hK g ma0_ ka0_ (by decide) rfl 6 (by decide) rfl (hts _ (List.mem_cons_of_mem _ t_954)) (fun _ h9 => h9) rfl dX11_fault_5 (fun x_6 bx_6 g => ?_)
    subst hQ
    exact W.iret (v := x_6) hx hb hr (fun t ht hW => ⟨⟨_, _, rfl, trivial, q3_of g hK ht hW⟩, g.2.2.1.F ht⟩) g.2.2.1.2.2 dX11_fault_8
set_option maxHeartbeats 4000000 in
set_option maxRecDepth 100000 in
theorem r_X7_hasClass (l : Launch) (dC : Nat → ClassId) (dI : Nat → Nat → Nat) (L : List Nat) (kd : Nat → Nat) (tys : List (ClassId × FieldType)) (f0 : Nat → va_E) (sz : Nat) (hWT : WT L kd tys f0) (a0_ : Nat) (ma0_ : a0_ ∈ L) (ka0_ : kd a0_ = 7) (x1_ : Int32) : Met l yX7_hasClass (.code yX7_hasClass cX7_hasClass 2 (some .boolean) :: lw_g) ({ frames := 0, cells := 0, slots := 0, locals := 0 }) (va_Pc [.ref a0_, .int x1_] (P3 (dC, dI) L tys f0 sz)) (va_Qi (fun (r : Int32) (f : Nat → va_E) => (r = 0 ∧ True) ∨ (r = 1 ∧ bd 0 7 x1_ ∧ ∃ z0_ : Int32, bd 1 8 z0_ ∧ Fs L kd f [(7, 1, a0_, .int z0_)])) (Q3 (dC, dI) L kd tys [] [] f0 sz) (pA L sz)) 0 0 (pA L sz) := by
  refine Met.ofW (cc := cX7_hasClass) (maxL := 2) (ret := (some .boolean)) (by decide) rfl ?_
  intro p e s m args below meth c s₁ B hml hv
  obtain ⟨rfl, hsz, hP, hK, hD0⟩ := hv
  have hx := B.exec
  have hb := B.bytes
  have hr := B.returns
  have hts := atoms_spec (ws := (.code yX7_hasClass cX7_hasClass 2 (some .boolean) :: lw_g)) B.pre
  have hown : s.vm.findClass RX7 = some m.cls := findClass_of_methodNamed B.named
  have hlocks := B.notSynchronized
  subst hsz
  have g : G3 (dC, dI) L kd tys s f0 [] [] f0 s.heap [] [] := G3.start hP hD0 hWT Fs.nil
  have hl := lv_entry ([.ref a0_, .int x1_]) (n := 2) (Nat.le_of_ble_eq_true rfl)
  rw [lg_entry_eq]
  generalize (lg_sl ([.ref a0_, .int x1_]) ++ List.replicate (2 - (lg_sl ([.ref a0_, .int x1_])).length) Slot.unset).toArray = ls at hl ⊢
  have hl : lv_has ls 2 [(0, .ref a0_), (1, .int x1_)] := hl
  refine W_q (fun Q hQ => ?_)
  refine lv_iload_n hx hb dX7_hasClass_0 rfl (lv_at hl 1 rfl) ?_
  have kb_0 : bd 0 0 (0 : Int32) := ⟨by decide, by decide⟩
  refine lv_if_lt (tgt := 16) hx hb dX7_hasClass_1 (by decide) (fun c_1 => ?_) (fun c_1 => ?_)
  · have fc_1 := lt_f c_1
    have b_2 : bd (-2147483648) (-1) x1_ := ltL fc_1 (bdT x1_) kb_0 (by decide)
    refine lv_iconst (v := 0) hx hb dX7_hasClass_16 (by decide) ?_
    subst hQ
    exact W.zret (v := 0) hx hb hr (nar_z (bd_sub kb_0 (by decide) : bd 0 1 _).1 (bd_sub kb_0 (by decide) : bd 0 1 _).2) (fun t ht hW => ⟨⟨_, _, rfl, Or.inl ⟨rfl, trivial⟩, q3_of g hK ht hW⟩, g.2.2.1.F ht⟩) g.2.2.1.2.2 dX7_hasClass_17
  · have fc_1 := nlt_f c_1
    have b_3 : bd 0 2147483647 x1_ := leR fc_1 kb_0 (bdT x1_) (by decide)
    refine lv_iload_n hx hb dX7_hasClass_4 rfl (lv_at hl 1 rfl) ?_
    refine lv_aload_n hx hb dX7_hasClass_5 rfl (lv_at hl 0 rfl) ?_
    refine g_geti (C := RX7) (T := TX7) (N := 19) hx hb hts (mc_ inX7) hown hK g ma0_ ka0_ (by decide) rfl 1 (by decide) rfl (hts _ (List.mem_cons_of_mem _ t_626)) (fun _ h9 => h9) rfl dX7_hasClass_6 (fun x_4 bx_4 g => ?_)
    refine lv_icmp_ge (tgt := 16) hx hb dX7_hasClass_9 (by decide) (fun c_5 => ?_) (fun c_5 => ?_)
    · have fc_5 := le_f c_5
      refine lv_iconst (v := 0) hx hb dX7_hasClass_16 (by decide) ?_
      subst hQ
      exact W.zret (v := 0) hx hb hr (nar_z (bd_sub kb_0 (by decide) : bd 0 1 _).1 (bd_sub kb_0 (by decide) : bd 0 1 _).2) (fun t ht hW => ⟨⟨_, _, rfl, Or.inl ⟨rfl, trivial⟩, q3_of g hK ht hW⟩, g.2.2.1.F ht⟩) g.2.2.1.2.2 dX7_hasClass_17
    · have fc_5 := nle_f c_5
      have b_6 : bd 0 7 x1_ := ltL fc_5 b_3 bx_4 (by decide)
      have b_7 : bd 1 8 x_4 := ltR fc_5 b_3 bx_4 (by decide)
      refine lv_iconst (v := 1) hx hb dX7_hasClass_12 (by decide) ?_
      refine lv_goto (tgt := 17) hx hb dX7_hasClass_13 (by decide) ?_
      subst hQ
      have kb_1 : bd 1 1 (1 : Int32) := ⟨by decide, by decide⟩
      exact W.zret (v := 1) hx hb hr (nar_z (bd_sub kb_1 (by decide) : bd 0 1 _).1 (bd_sub kb_1 (by decide) : bd 0 1 _).2) (fun t ht hW => ⟨⟨_, _, rfl, Or.inr (⟨rfl, b_6, x_4, b_7, (g.fcts [0] rfl)⟩), q3_of g hK ht hW⟩, g.2.2.1.F ht⟩) g.2.2.1.2.2 dX7_hasClass_17
set_option maxHeartbeats 4000000 in
set_option maxRecDepth 100000 in
theorem r_X11_about (l : Launch) (dC : Nat → ClassId) (dI : Nat → Nat → Nat) (L : List Nat) (kd : Nat → Nat) (tys : List (ClassId × FieldType)) (f0 : Nat → va_E) (sz : Nat) (hWT : WT L kd tys f0) (a0_ : Nat) (ma0_ : a0_ ∈ L) (ka0_ : kd a0_ = 11) (x1_ : Int32) (x2_ : Int32) : Met l yX11_about (.code yX11_about cX11_about 4 (some .int) :: lw_g) ({ frames := 1, cells := 0, slots := 0, locals := 21 }) (va_Pc [.ref a0_, .int x1_, .int x2_] (P3 (dC, dI) L tys f0 sz)) (va_Qi (fun (r : Int32) (f : Nat → va_E) => (True)) (Q3 (dC, dI) L kd tys [] [] f0 sz) (pA L sz)) 0 0 (pA L sz) := by
  refine Met.ofW (cc := cX11_about) (maxL := 4) (ret := (some .int)) (by decide) rfl ?_
  intro p e s m args below meth c s₁ B hml hv
  obtain ⟨rfl, hsz, hP, hK, hD0⟩ := hv
  have hx := B.exec
  have hb := B.bytes
  have hr := B.returns
  have hts := atoms_spec (ws := (.code yX11_about cX11_about 4 (some .int) :: lw_g)) B.pre
  have hown : s.vm.findClass RX11 = some m.cls := findClass_of_methodNamed B.named
  have hlocks := B.notSynchronized
  subst hsz
  have g : G3 (dC, dI) L kd tys s f0 [] [] f0 s.heap [] [] := G3.start hP hD0 hWT Fs.nil
  have hl := lv_entry ([.ref a0_, .int x1_, .int x2_]) (n := 4) (Nat.le_of_ble_eq_true rfl)
  rw [lg_entry_eq]
  generalize (lg_sl ([.ref a0_, .int x1_, .int x2_]) ++ List.replicate (4 - (lg_sl ([.ref a0_, .int x1_, .int x2_])).length) Slot.unset).toArray = ls at hl ⊢
  have hl : lv_has ls 4 [(0, .ref a0_), (1, .int x1_), (2, .int x2_)] := hl
  refine W_q (fun Q hQ => ?_)
  refine lv_aload_n hx hb dX11_about_0 rfl (lv_at hl 0 rfl) ?_
  refine g_getr (K := 7) (C := RX11) (T := TX11) (N := 8) hx hb hts (mc_ inX11) hown hK g ma0_ ka0_ (by decide) rfl 4 (by decide) rfl (hts _ (List.mem_cons_of_mem _ t_952)) (fun _ h9 => h9) rfl dX11_about_1 (fun a_1 ma_1 ka_1 g => ?_)
  refine lv_iload_n hx hb dX11_about_4 rfl (lv_at hl 1 rfl) ?_
  refine g_calli (va_runV (As := [.int x1_]) (rest := []) ⟨hx, hb, hml, hown, hts⟩ (r_X7_hasClass l dC dI L kd tys f0 s.heap.size g.2.2.2.1 a_1 ma_1 ka_1 x1_) (cwV 1 hts (gV_ t_1442 t_1281 t_1282 t_191 t_1283) rfl rfl rfl (by decide +kernel) ⟨(Nat.le_of_ble_eq_true rfl), (Nat.le_of_ble_eq_true rfl)⟩) (pre3V g hK ma_1 ka_1 (by decide) (q := (RX7, TX7, 19)) rfl) rfl rfl hl.1 rfl (lv_room (Nat.le_of_ble_eq_true rfl)) dX11_about_5 ⟨(Nat.le_of_ble_eq_true rfl), (Nat.le_of_ble_eq_true rfl)⟩) g hK (by decide) (by decide) (fx' := [(11, 4, a0_, .ref a_1)]) rfl (fun r_2 fr_2 H locs hp hMr_2 g => ?_)
  rcases hp with ⟨h_3, -⟩ | ⟨h_4, h_5, x_6, h_7, hF_8⟩
  · obtain rfl : r_2 = 0 := h_3
    refine lv_if_ne (tgt := 13) hx hb dX11_about_8 (by decide) (fun c_ => absurd c_ (by decide)) (fun c_ => ?_)
    refine lv_iconst (v := (-1)) hx hb dX11_about_11 (by decide) ?_
    subst hQ
    exact W.iret (v := (-1)) hx hb hr (fun t ht hW => ⟨⟨_, _, rfl, trivial, q3_of g hK ht hW⟩, g.2.2.1.F ht⟩) g.2.2.1.2.2 dX11_about_12
  · obtain rfl : r_2 = 1 := h_4
    have b_9 : bd 0 7 x1_ := eqX rfl (bdT x1_) h_5 (by decide)
    have g := g.more hF_8
    refine lv_if_ne (tgt := 13) hx hb dX11_about_8 (by decide) (fun c_ => ?_) (fun c_ => absurd c_ (by decide))
    refine lv_aload_n hx hb dX11_about_13 rfl (lv_at hl 0 rfl) ?_
    refine g_getk (C := RX11) (T := TX11) (N := 8) hx hb hts (mc_ inX11) hown hK g rfl 4 (by decide) rfl (hts _ (List.mem_cons_of_mem _ t_952)) (fun _ h9 => h9) 1 rfl dX11_about_14 ?_
    refine g_getr (K := 136) (C := RX7) (T := TX7) (N := 19) hx hb hts (mc_ inX7) hown hK g ma_1 ka_1 (by decide) rfl 0 (by decide) rfl (hts _ (List.mem_cons_of_mem _ t_623)) (fun _ h9 => h9) rfl dX11_about_17 (fun a_10 ma_10 ka_10 g => ?_)
    refine lv_iload_n hx hb dX11_about_20 rfl (lv_at hl 1 rfl) ?_
    refine g_aald hx hb hK g ma_10 ka_10 (by decide) rfl (by decide) (in_bd b_9 (by decide)) dX11_about_21 (fun a_11 ma_11 ua_11 wa_11 => ?_)
    have ka_11 : kd a_11 = 9 := by omega
    refine lv_astore_n (lv' := [(3, .ref a_11), (0, .ref a0_), (1, .int x1_), (2, .int x2_)]) hx hb dX11_about_22 rfl hl (by decide) rfl (fun ls hl => ?_)
    refine lv_iload_n hx hb dX11_about_23 rfl (lv_at hl 3 rfl) ?_
    by_cases e_12 : x2_ = 0
    · refine lv_topi (fun z_13 ez_13 => ?_)
      obtain rfl : z_13 = 0 := ez_13.trans e_12
      have kb_0 : bd 0 0 (0 : Int32) := ⟨by decide, by decide⟩
      have b_14 : bd 0 0 x2_ := eqX (eq_f e_12) (bdT x2_) kb_0 (by decide)
      refine lv_tableIn (off := 40) (tgt := 64) hx hb dX11_about_24 (by decide) (by decide) rfl (by decide) ?_
      refine lv_aload_n hx hb dX11_about_64 rfl (lv_at hl 0 rfl) ?_
      refine g_geti (C := RX9) (T := TX9) (N := 13) hx hb hts (mc_ inX9) hown hK g ma_11 ka_11 (by decide) rfl 1 (by decide) rfl (hts _ (List.mem_cons_of_mem _ t_481)) (fun _ h9 => h9) rfl dX11_about_65 (fun x_15 bx_15 g => ?_)
      subst hQ
      exact W.iret (v := x_15) hx hb hr (fun t ht hW => ⟨⟨_, _, rfl, trivial, q3_of g hK ht hW⟩, g.2.2.1.F ht⟩) g.2.2.1.2.2 dX11_about_68
    by_cases e_16 : x2_ = 1
    · refine lv_topi (fun z_17 ez_17 => ?_)
      obtain rfl : z_17 = 1 := ez_17.trans e_16
      have kb_1 : bd 1 1 (1 : Int32) := ⟨by decide, by decide⟩
      have b_18 : bd 1 1 x2_ := eqX (eq_f e_16) (bdT x2_) kb_1 (by decide)
      refine lv_tableIn (off := 45) (tgt := 69) hx hb dX11_about_24 (by decide) (by decide) rfl (by decide) ?_
      refine lv_aload_n hx hb dX11_about_69 rfl (lv_at hl 0 rfl) ?_
      refine g_geti (C := RX9) (T := TX9) (N := 13) hx hb hts (mc_ inX9) hown hK g ma_11 ka_11 (by decide) rfl 2 (by decide) rfl (hts _ (List.mem_cons_of_mem _ t_486)) (fun _ h9 => h9) rfl dX11_about_70 (fun x_19 bx_19 g => ?_)
      subst hQ
      exact W.iret (v := x_19) hx hb hr (fun t ht hW => ⟨⟨_, _, rfl, trivial, q3_of g hK ht hW⟩, g.2.2.1.F ht⟩) g.2.2.1.2.2 dX11_about_73
    by_cases e_20 : x2_ = 2
    · refine lv_topi (fun z_21 ez_21 => ?_)
      obtain rfl : z_21 = 2 := ez_21.trans e_20
      have kb_2 : bd 2 2 (2 : Int32) := ⟨by decide, by decide⟩
      have b_22 : bd 2 2 x2_ := eqX (eq_f e_20) (bdT x2_) kb_2 (by decide)
      refine lv_tableIn (off := 50) (tgt := 74) hx hb dX11_about_24 (by decide) (by decide) rfl (by decide) ?_
      refine lv_aload_n hx hb dX11_about_74 rfl (lv_at hl 0 rfl) ?_
      refine g_geti (C := RX9) (T := TX9) (N := 13) hx hb hts (mc_ inX9) hown hK g ma_11 ka_11 (by decide) rfl 7 (by decide) rfl (hts _ (List.mem_cons_of_mem _ t_495)) (fun _ h9 => h9) rfl dX11_about_75 (fun x_23 bx_23 g => ?_)
      subst hQ
      exact W.iret (v := x_23) hx hb hr (fun t ht hW => ⟨⟨_, _, rfl, trivial, q3_of g hK ht hW⟩, g.2.2.1.F ht⟩) g.2.2.1.2.2 dX11_about_78
    by_cases e_24 : x2_ = 3
    · refine lv_topi (fun z_25 ez_25 => ?_)
      obtain rfl : z_25 = 3 := ez_25.trans e_24
      have kb_3 : bd 3 3 (3 : Int32) := ⟨by decide, by decide⟩
      have b_26 : bd 3 3 x2_ := eqX (eq_f e_24) (bdT x2_) kb_3 (by decide)
      refine lv_tableIn (off := 55) (tgt := 79) hx hb dX11_about_24 (by decide) (by decide) rfl (by decide) ?_
      refine lv_aload_n hx hb dX11_about_79 rfl (lv_at hl 0 rfl) ?_
      refine g_geti (C := RX9) (T := TX9) (N := 13) hx hb hts (mc_ inX9) hown hK g ma_11 ka_11 (by decide) rfl 8 (by decide) rfl (hts _ (List.mem_cons_of_mem _ t_500)) (fun _ h9 => h9) rfl dX11_about_80 (fun x_27 bx_27 g => ?_)
      subst hQ
      exact W.iret (v := x_27) hx hb hr (fun t ht hW => ⟨⟨_, _, rfl, trivial, q3_of g hK ht hW⟩, g.2.2.1.F ht⟩) g.2.2.1.2.2 dX11_about_83
    by_cases e_28 : x2_ = 4
    · refine lv_topi (fun z_29 ez_29 => ?_)
      obtain rfl : z_29 = 4 := ez_29.trans e_28
      have kb_4 : bd 4 4 (4 : Int32) := ⟨by decide, by decide⟩
      have b_30 : bd 4 4 x2_ := eqX (eq_f e_28) (bdT x2_) kb_4 (by decide)
      refine lv_tableIn (off := 60) (tgt := 84) hx hb dX11_about_24 (by decide) (by decide) rfl (by decide) ?_
      refine lv_aload_n hx hb dX11_about_84 rfl (lv_at hl 0 rfl) ?_
      refine g_geti (C := RX9) (T := TX9) (N := 13) hx hb hts (mc_ inX9) hown hK g ma_11 ka_11 (by decide) rfl 11 (by decide) rfl (hts _ (List.mem_cons_of_mem _ t_515)) (fun _ h9 => h9) rfl dX11_about_85 (fun x_31 bx_31 g => ?_)
      subst hQ
      exact W.iret (v := x_31) hx hb hr (fun t ht hW => ⟨⟨_, _, rfl, trivial, q3_of g hK ht hW⟩, g.2.2.1.F ht⟩) g.2.2.1.2.2 dX11_about_88
    by_cases e_32 : x2_ = 5
    · refine lv_topi (fun z_33 ez_33 => ?_)
      obtain rfl : z_33 = 5 := ez_33.trans e_32
      have kb_5 : bd 5 5 (5 : Int32) := ⟨by decide, by decide⟩
      have b_34 : bd 5 5 x2_ := eqX (eq_f e_32) (bdT x2_) kb_5 (by decide)
      refine lv_tableIn (off := 65) (tgt := 89) hx hb dX11_about_24 (by decide) (by decide) rfl (by decide) ?_
      refine lv_aload_n hx hb dX11_about_89 rfl (lv_at hl 0 rfl) ?_
      refine g_geti (C := RX9) (T := TX9) (N := 13) hx hb hts (mc_ inX9) hown hK g ma_11 ka_11 (by decide) rfl 12 (by decide) rfl (hts _ (List.mem_cons_of_mem _ t_519)) (fun _ h9 => h9) rfl dX11_about_90 (fun x_35 bx_35 g => ?_)
      subst hQ
      exact W.iret (v := x_35) hx hb hr (fun t ht hW => ⟨⟨_, _, rfl, trivial, q3_of g hK ht hW⟩, g.2.2.1.F ht⟩) g.2.2.1.2.2 dX11_about_93
    refine lv_tableOut (tgt := 94) hx hb dX11_about_24 (by have a0 : x2_.toInt ≠ 0 := fun h => e_12 (Int32.toInt_inj.mp (h.trans (by decide))); have a1 : x2_.toInt ≠ 1 := fun h => e_16 (Int32.toInt_inj.mp (h.trans (by decide))); have a2 : x2_.toInt ≠ 2 := fun h => e_20 (Int32.toInt_inj.mp (h.trans (by decide))); have a3 : x2_.toInt ≠ 3 := fun h => e_24 (Int32.toInt_inj.mp (h.trans (by decide))); have a4 : x2_.toInt ≠ 4 := fun h => e_28 (Int32.toInt_inj.mp (h.trans (by decide))); have a5 : x2_.toInt ≠ 5 := fun h => e_32 (Int32.toInt_inj.mp (h.trans (by decide))); omega) (by decide) ?_
    refine lv_iconst (v := (-1)) hx hb dX11_about_94 (by decide) ?_
    subst hQ
    exact W.iret (v := (-1)) hx hb hr (fun t ht hW => ⟨⟨_, _, rfl, trivial, q3_of g hK ht hW⟩, g.2.2.1.F ht⟩) g.2.2.1.2.2 dX11_about_95
set_option maxHeartbeats 4000000 in
set_option maxRecDepth 100000 in
theorem r_X7_hasMember (l : Launch) (dC : Nat → ClassId) (dI : Nat → Nat → Nat) (L : List Nat) (kd : Nat → Nat) (tys : List (ClassId × FieldType)) (f0 : Nat → va_E) (sz : Nat) (hWT : WT L kd tys f0) (a0_ : Nat) (ma0_ : a0_ ∈ L) (ka0_ : kd a0_ = 7) (x1_ : Int32) (x2_ : Int32) : Met l yX7_hasMember (.code yX7_hasMember cX7_hasMember 3 (some .boolean) :: lw_g) ({ frames := 1, cells := 0, slots := 0, locals := 21 }) (va_Pc [.ref a0_, .int x1_, .int x2_] (P3 (dC, dI) L tys f0 sz)) (va_Qi (fun (r : Int32) (f : Nat → va_E) => (r = 0 ∧ True) ∨ (r = 1 ∧ bd 0 7 x1_ ∧ bd 0 11 x2_ ∧ ∃ z0_ : Int32, bd 1 8 z0_ ∧ Fs L kd f [(7, 1, a0_, .int z0_)])) (Q3 (dC, dI) L kd tys [] [] f0 sz) (pA L sz)) 0 0 (pA L sz) := by
  refine Met.ofW (cc := cX7_hasMember) (maxL := 3) (ret := (some .boolean)) (by decide) rfl ?_
  intro p e s m args below meth c s₁ B hml hv
  obtain ⟨rfl, hsz, hP, hK, hD0⟩ := hv
  have hx := B.exec
  have hb := B.bytes
  have hr := B.returns
  have hts := atoms_spec (ws := (.code yX7_hasMember cX7_hasMember 3 (some .boolean) :: lw_g)) B.pre
  have hown : s.vm.findClass RX7 = some m.cls := findClass_of_methodNamed B.named
  have hlocks := B.notSynchronized
  subst hsz
  have g : G3 (dC, dI) L kd tys s f0 [] [] f0 s.heap [] [] := G3.start hP hD0 hWT Fs.nil
  have hl := lv_entry ([.ref a0_, .int x1_, .int x2_]) (n := 3) (Nat.le_of_ble_eq_true rfl)
  rw [lg_entry_eq]
  generalize (lg_sl ([.ref a0_, .int x1_, .int x2_]) ++ List.replicate (3 - (lg_sl ([.ref a0_, .int x1_, .int x2_])).length) Slot.unset).toArray = ls at hl ⊢
  have hl : lv_has ls 3 [(0, .ref a0_), (1, .int x1_), (2, .int x2_)] := hl
  refine W_q (fun Q hQ => ?_)
  refine lv_aload_n hx hb dX7_hasMember_0 rfl (lv_at hl 0 rfl) ?_
  refine lv_iload_n hx hb dX7_hasMember_1 rfl (lv_at hl 1 rfl) ?_
  refine g_calli (va_runV (As := [.int x1_]) (rest := []) ⟨hx, hb, hml, hown, hts⟩ (r_X7_hasClass l dC dI L kd tys f0 s.heap.size g.2.2.2.1 a0_ ma0_ ka0_ x1_) (cwV 1 hts (gV_ t_1451 t_1281 t_1282 t_191 t_1283) rfl rfl rfl (by decide +kernel) ⟨(Nat.le_of_ble_eq_true rfl), (Nat.le_of_ble_eq_true rfl)⟩) (pre3V g hK ma0_ ka0_ (by decide) (q := (RX7, TX7, 19)) rfl) rfl rfl hl.1 rfl (lv_room (Nat.le_of_ble_eq_true rfl)) dX7_hasMember_2 ⟨(Nat.le_of_ble_eq_true rfl), (Nat.le_of_ble_eq_true rfl)⟩) g hK (by decide) (by decide) (fx' := []) rfl (fun r_1 fr_1 H locs hp hMr_1 g => ?_)
  rcases hp with ⟨h_2, -⟩ | ⟨h_3, h_4, x_5, h_6, hF_7⟩
  · obtain rfl : r_1 = 0 := h_2
    refine lv_if_eq (tgt := 29) hx hb dX7_hasMember_5 (by decide) (fun c_ => ?_) (fun c_ => absurd (by decide) c_)
    refine lv_iconst (v := 0) hx hb dX7_hasMember_29 (by decide) ?_
    subst hQ
    have kb_0 : bd 0 0 (0 : Int32) := ⟨by decide, by decide⟩
    exact W.zret (v := 0) hx hb hr (nar_z (bd_sub kb_0 (by decide) : bd 0 1 _).1 (bd_sub kb_0 (by decide) : bd 0 1 _).2) (fun t ht hW => ⟨⟨_, _, rfl, Or.inl ⟨rfl, trivial⟩, q3_of g hK ht hW⟩, g.2.2.1.F ht⟩) g.2.2.1.2.2 dX7_hasMember_30
  · obtain rfl : r_1 = 1 := h_3
    have b_8 : bd 0 7 x1_ := eqX rfl (bdT x1_) h_4 (by decide)
    have g := g.more hF_7
    refine lv_if_eq (tgt := 29) hx hb dX7_hasMember_5 (by decide) (fun c_ => absurd c_ (by decide)) (fun c_ => ?_)
    refine lv_iload_n hx hb dX7_hasMember_8 rfl (lv_at hl 2 rfl) ?_
    have kb_0 : bd 0 0 (0 : Int32) := ⟨by decide, by decide⟩
    refine lv_if_lt (tgt := 29) hx hb dX7_hasMember_9 (by decide) (fun c_9 => ?_) (fun c_9 => ?_)
    · have fc_9 := lt_f c_9
      have b_10 : bd (-2147483648) (-1) x2_ := ltL fc_9 (bdT x2_) kb_0 (by decide)
      refine lv_iconst (v := 0) hx hb dX7_hasMember_29 (by decide) ?_
      subst hQ
      exact W.zret (v := 0) hx hb hr (nar_z (bd_sub kb_0 (by decide) : bd 0 1 _).1 (bd_sub kb_0 (by decide) : bd 0 1 _).2) (fun t ht hW => ⟨⟨_, _, rfl, Or.inl ⟨rfl, trivial⟩, q3_of g hK ht hW⟩, g.2.2.1.F ht⟩) g.2.2.1.2.2 dX7_hasMember_30
    · have fc_9 := nlt_f c_9
      have b_11 : bd 0 2147483647 x2_ := leR fc_9 kb_0 (bdT x2_) (by decide)
      refine lv_iload_n hx hb dX7_hasMember_12 rfl (lv_at hl 2 rfl) ?_
      refine lv_aload_n hx hb dX7_hasMember_13 rfl (lv_at hl 0 rfl) ?_
      refine g_getr (K := 136) (C := RX7) (T := TX7) (N := 19) hx hb hts (mc_ inX7) hown hK g ma0_ ka0_ (by decide) rfl 0 (by decide) rfl (hts _ (List.mem_cons_of_mem _ t_620)) (fun _ h9 => h9) rfl dX7_hasMember_14 (fun a_12 ma_12 ka_12 g => ?_)
      refine lv_iload_n hx hb dX7_hasMember_17 rfl (lv_at hl 1 rfl) ?_
      refine g_aald hx hb hK g ma_12 ka_12 (by decide) rfl (by decide) (in_bd b_8 (by decide)) dX7_hasMember_18 (fun a_13 ma_13 ua_13 wa_13 => ?_)
      have ka_13 : kd a_13 = 9 := by omega
      refine g_geti (C := RX9) (T := TX9) (N := 13) hx hb hts (mc_ inX9) hown hK g ma_13 ka_13 (by decide) rfl 8 (by decide) rfl (hts _ (List.mem_cons_of_mem _ t_498)) (fun _ h9 => h9) rfl dX7_hasMember_19 (fun x_14 bx_14 g => ?_)
      refine lv_icmp_ge (tgt := 29) hx hb dX7_hasMember_22 (by decide) (fun c_15 => ?_) (fun c_15 => ?_)
      · have fc_15 := le_f c_15
        refine lv_iconst (v := 0) hx hb dX7_hasMember_29 (by decide) ?_
        subst hQ
        exact W.zret (v := 0) hx hb hr (nar_z (bd_sub kb_0 (by decide) : bd 0 1 _).1 (bd_sub kb_0 (by decide) : bd 0 1 _).2) (fun t ht hW => ⟨⟨_, _, rfl, Or.inl ⟨rfl, trivial⟩, q3_of g hK ht hW⟩, g.2.2.1.F ht⟩) g.2.2.1.2.2 dX7_hasMember_30
      · have fc_15 := nle_f c_15
        have b_16 : bd 0 11 x2_ := ltL fc_15 b_11 bx_14 (by decide)
        have b_17 : bd 1 12 x_14 := ltR fc_15 b_11 bx_14 (by decide)
        refine lv_iconst (v := 1) hx hb dX7_hasMember_25 (by decide) ?_
        refine lv_goto (tgt := 30) hx hb dX7_hasMember_26 (by decide) ?_
        subst hQ
        have kb_1 : bd 1 1 (1 : Int32) := ⟨by decide, by decide⟩
        exact W.zret (v := 1) hx hb hr (nar_z (bd_sub kb_1 (by decide) : bd 0 1 _).1 (bd_sub kb_1 (by decide) : bd 0 1 _).2) (fun t ht hW => ⟨⟨_, _, rfl, Or.inr (⟨rfl, b_8, b_16, x_5, h_6, (g.fcts [2] rfl)⟩), q3_of g hK ht hW⟩, g.2.2.1.F ht⟩) g.2.2.1.2.2 dX7_hasMember_30
set_option maxHeartbeats 4000000 in
set_option maxRecDepth 100000 in
theorem r_X7_begunOf (l : Launch) (dC : Nat → ClassId) (dI : Nat → Nat → Nat) (L : List Nat) (kd : Nat → Nat) (tys : List (ClassId × FieldType)) (f0 : Nat → va_E) (sz : Nat) (hWT : WT L kd tys f0) (a0_ : Nat) (ma0_ : a0_ ∈ L) (ka0_ : kd a0_ = 7) (a1_ : Nat) (ma1_ : a1_ ∈ L) (ka1_ : kd a1_ = 6) : Met l yX7_begunOf (.code yX7_begunOf cX7_begunOf 4 (some .int) :: lw_g) ({ frames := 0, cells := 0, slots := 0, locals := 0 }) (va_Pc [.ref a0_, .ref a1_] (P3 (dC, dI) L tys f0 sz)) (va_Qi (fun (r : Int32) (f : Nat → va_E) => (True)) (Q3 (dC, dI) L kd tys [] [] f0 sz) (pA L sz)) 0 0 (pA L sz) := by
  refine Met.ofW (cc := cX7_begunOf) (maxL := 4) (ret := (some .int)) (by decide) rfl ?_
  intro p e s m args below meth c s₁ B hml hv
  obtain ⟨rfl, hsz, hP, hK, hD0⟩ := hv
  have hx := B.exec
  have hb := B.bytes
  have hr := B.returns
  have hts := atoms_spec (ws := (.code yX7_begunOf cX7_begunOf 4 (some .int) :: lw_g)) B.pre
  have hown : s.vm.findClass RX7 = some m.cls := findClass_of_methodNamed B.named
  have hlocks := B.notSynchronized
  subst hsz
  have g : G3 (dC, dI) L kd tys s f0 [] [] f0 s.heap [] [] := G3.start hP hD0 hWT Fs.nil
  have hl := lv_entry ([.ref a0_, .ref a1_]) (n := 4) (Nat.le_of_ble_eq_true rfl)
  rw [lg_entry_eq]
  generalize (lg_sl ([.ref a0_, .ref a1_]) ++ List.replicate (4 - (lg_sl ([.ref a0_, .ref a1_])).length) Slot.unset).toArray = ls at hl ⊢
  have hl : lv_has ls 4 [(0, .ref a0_), (1, .ref a1_)] := hl
  refine W_q (fun Q hQ => ?_)
  refine lv_iconst (v := 0) hx hb dX7_begunOf_0 (by decide) ?_
  refine lv_istore_n (lv' := [(2, .int 0), (0, .ref a0_), (1, .ref a1_)]) hx hb dX7_begunOf_1 rfl hl (by decide) rfl (fun ls hl => ?_)
  refine lv_aload_n hx hb dX7_begunOf_2 rfl (lv_at hl 2 rfl) ?_
  refine g_geti (C := RX6) (T := TX6) (N := 13) hx hb hts (mc_ inX6) hown hK g ma1_ ka1_ (by decide) rfl 9 (by decide) rfl (hts _ (List.mem_cons_of_mem _ t_584)) (fun _ h9 => h9) rfl dX7_begunOf_3 (fun x_1 bx_1 g => ?_)
  refine lv_istore_n (lv' := [(3, .int x_1), (2, .int 0), (0, .ref a0_), (1, .ref a1_)]) hx hb dX7_begunOf_6 rfl hl (by decide) rfl (fun ls hl => ?_)
  have loop_2 : ∀ (n : Nat) (v7_3 : Int32) (v7_2 : Int32), bd 0 420 v7_3 → (420 - v7_3.toInt < (n : Int)) → ∀ (f : Nat → va_E) (H : Heap) (locs : List Loc) (ls : Array Slot), G3 (dC, dI) L kd tys s f0 [] [] f H locs [(6, 9, a1_, .int x_1)] → lv_has ls 4 [(3, .int v7_3), (2, .int v7_2), (0, .ref a0_), (1, .ref a1_)] → W p l e ({ frames := 0, cells := 0, slots := 0, locals := 0 } : Room) s m [.ref a0_, .ref a1_].toArray below meth c H locs 0 0 Q (F0 m 7 ls []) := by
    intro n7
    induction n7 with
    | zero =>
      intro v7_3 v7_2 bv7_3  hm7 f H locs ls g  hl
      exact absurd hm7 (by have h9_v7_3 := bv7_3; unfold bd at h9_v7_3; have h9_v7_2 := bdT v7_2; unfold bd at h9_v7_2; omega)
    | succ n7 ih7 =>
      intro v7_3 v7_2 bv7_3  hm7 f H locs ls g  hl
      refine lv_iload_n hx hb dX7_begunOf_7 rfl (lv_at hl 0 rfl) ?_
      refine lv_aload_n hx hb dX7_begunOf_8 rfl (lv_at hl 3 rfl) ?_
      refine g_getk (C := RX6) (T := TX6) (N := 13) hx hb hts (mc_ inX6) hown hK g rfl 9 (by decide) rfl (hts _ (List.mem_cons_of_mem _ t_584)) (fun _ h9 => h9) 0 rfl dX7_begunOf_9 ?_
      refine lv_aload_n hx hb dX7_begunOf_12 rfl (lv_at hl 3 rfl) ?_
      refine g_geti (C := RX6) (T := TX6) (N := 13) hx hb hts (mc_ inX6) hown hK g ma1_ ka1_ (by decide) rfl 10 (by decide) rfl (hts _ (List.mem_cons_of_mem _ t_586)) (fun _ h9 => h9) rfl dX7_begunOf_13 (fun x_3 bx_3 g => ?_)
      refine lv_iadd hx hb dX7_begunOf_16 ?_
      refine lv_topi (fun y_4 ey_4 => ?_)
      refine lv_icmp_ge (tgt := 51) hx hb dX7_begunOf_17 (by decide) (fun c_5 => ?_) (fun c_5 => ?_)
      · have fc_5 := le_f c_5
        have b_6 : bd (-2147483648) 420 y_4 := leL fc_5 (bdT y_4) bv7_3 (by decide)
        refine lv_iload_n hx hb dX7_begunOf_51 rfl (lv_at hl 1 rfl) ?_
        subst hQ
        exact W.iret (v := v7_2) hx hb hr (fun t ht hW => ⟨⟨_, _, rfl, trivial, q3_of g hK ht hW⟩, g.2.2.1.F ht⟩) g.2.2.1.2.2 dX7_begunOf_52
      · have fc_5 := nle_f c_5
        have b_7 : bd 1 2147483647 y_4 := ltR fc_5 bv7_3 (bdT y_4) (by decide)
        refine lv_iload_n hx hb dX7_begunOf_20 rfl (lv_at hl 0 rfl) ?_
        refine lv_aload_n hx hb dX7_begunOf_21 rfl (lv_at hl 2 rfl) ?_
        refine g_geti (C := RX7) (T := TX7) (N := 19) hx hb hts (mc_ inX7) hown hK g ma0_ ka0_ (by decide) rfl 15 (by decide) rfl (hts _ (List.mem_cons_of_mem _ t_673)) (fun _ h9 => h9) rfl dX7_begunOf_22 (fun x_8 bx_8 g => ?_)
        refine lv_icmp_ge (tgt := 51) hx hb dX7_begunOf_25 (by decide) (fun c_9 => ?_) (fun c_9 => ?_)
        · have fc_9 := le_f c_9
          refine lv_iload_n hx hb dX7_begunOf_51 rfl (lv_at hl 1 rfl) ?_
          subst hQ
          exact W.iret (v := v7_2) hx hb hr (fun t ht hW => ⟨⟨_, _, rfl, trivial, q3_of g hK ht hW⟩, g.2.2.1.F ht⟩) g.2.2.1.2.2 dX7_begunOf_52
        · have fc_9 := nle_f c_9
          have b_10 : bd 0 419 v7_3 := ltL fc_9 bv7_3 bx_8 (by decide)
          have b_11 : bd 1 420 x_8 := ltR fc_9 bv7_3 bx_8 (by decide)
          refine lv_iload_n hx hb dX7_begunOf_28 rfl (lv_at hl 1 rfl) ?_
          refine lv_aload_n hx hb dX7_begunOf_29 rfl (lv_at hl 2 rfl) ?_
          refine g_getr (K := 146) (C := RX7) (T := TX7) (N := 19) hx hb hts (mc_ inX7) hown hK g ma0_ ka0_ (by decide) rfl 14 (by decide) rfl (hts _ (List.mem_cons_of_mem _ t_671)) (fun _ h9 => h9) rfl dX7_begunOf_30 (fun a_12 ma_12 ka_12 g => ?_)
          refine lv_iload_n hx hb dX7_begunOf_33 rfl (lv_at hl 0 rfl) ?_
          refine g_zald hx hb hK g ma_12 ka_12 (by decide) rfl (in_bd b_10 (by decide)) dX7_begunOf_34 (fun x_13 bx_13 => ?_)
          have kb_0 : bd 0 0 (0 : Int32) := ⟨by decide, by decide⟩
          refine lv_if_eq (tgt := 42) hx hb dX7_begunOf_35 (by decide) (fun c_14 => ?_) (fun c_14 => ?_)
          · have fc_14 := eq_f c_14
            have b_15 : bd 0 0 x_13 := eqX fc_14 bx_13 kb_0 (by decide)
            refine lv_iconst (v := 0) hx hb dX7_begunOf_42 (by decide) ?_
            refine lv_iadd hx hb dX7_begunOf_43 ?_
            refine lv_topi (fun y_16 ey_16 => ?_)
            have ty_16 := add_bd ey_16 (bdT v7_2) kb_0 (by decide)
            have b_17 : bd (-2147483648) 2147483647 y_16 := add_rg ty_16 (bdT v7_2) kb_0 (by decide)
            refine lv_istore_n (lv' := [(2, .int y_16), (3, .int v7_3), (0, .ref a0_), (1, .ref a1_)]) hx hb dX7_begunOf_44 rfl hl (by decide) rfl (fun ls hl => ?_)
            have kb_1 : bd 1 1 (1 : Int32) := ⟨by decide, by decide⟩
            obtain ⟨y_18, ey_18⟩ : ∃ z : Int32, z = v7_3 + 1 := ⟨_, rfl⟩
            refine lv_iinc (v := y_18) (lv' := [(3, .int y_18), (2, .int y_16), (0, .ref a0_), (1, .ref a1_)]) hx hb dX7_begunOf_45 hl (k := 1) rfl (by rw [ey_18]; rfl) (by decide) rfl (fun ls hl => ?_)
            have ty_18 := add_bd ey_18 b_10 kb_1 (by decide)
            have b_19 : bd 1 420 y_18 := add_rg ty_18 b_10 kb_1 (by decide)
            refine lv_goto (tgt := 7) hx hb dX7_begunOf_48 (by decide) ?_
            have hl9 := lv_sub hl [0, 1, 2, 3] (by rfl : lv_pick [(3, .int y_18), (2, .int y_16), (0, .ref a0_), (1, .ref a1_)] [0, 1, 2, 3] = [(3, .int y_18), (2, .int y_16), (0, .ref a0_), (1, .ref a1_)])
            have g9 := g.sub (fx' := [(6, 9, a1_, .int x_1)]) [3] rfl
            exact ih7  y_18 y_16 (bd_sub b_19 (by decide)) (by have h9_0 := b_17; unfold bd at h9_0; have h9_1 := b_19; unfold bd at h9_1; have h9_2 := bdT v7_2; unfold bd at h9_2; have h9_3 := bv7_3; unfold bd at h9_3; have h9_4 := kb_0; unfold bd at h9_4; have h9_5 := kb_1; unfold bd at h9_5; omega) _ _ _ _ g9  hl9
          · have fc_14 := neq_f c_14
            have b_20 : bd 1 1 x_13 := neX fc_14 bx_13 kb_0 (by decide)
            refine lv_iconst (v := 1) hx hb dX7_begunOf_38 (by decide) ?_
            refine lv_goto (tgt := 43) hx hb dX7_begunOf_39 (by decide) ?_
            have kb_1 : bd 1 1 (1 : Int32) := ⟨by decide, by decide⟩
            refine lv_iadd hx hb dX7_begunOf_43 ?_
            refine lv_topi (fun y_21 ey_21 => ?_)
            refine lv_istore_n (lv' := [(2, .int y_21), (3, .int v7_3), (0, .ref a0_), (1, .ref a1_)]) hx hb dX7_begunOf_44 rfl hl (by decide) rfl (fun ls hl => ?_)
            obtain ⟨y_22, ey_22⟩ : ∃ z : Int32, z = v7_3 + 1 := ⟨_, rfl⟩
            refine lv_iinc (v := y_22) (lv' := [(3, .int y_22), (2, .int y_21), (0, .ref a0_), (1, .ref a1_)]) hx hb dX7_begunOf_45 hl (k := 1) rfl (by rw [ey_22]; rfl) (by decide) rfl (fun ls hl => ?_)
            have ty_22 := add_bd ey_22 b_10 kb_1 (by decide)
            have b_23 : bd 1 420 y_22 := add_rg ty_22 b_10 kb_1 (by decide)
            refine lv_goto (tgt := 7) hx hb dX7_begunOf_48 (by decide) ?_
            have hl9 := lv_sub hl [0, 1, 2, 3] (by rfl : lv_pick [(3, .int y_22), (2, .int y_21), (0, .ref a0_), (1, .ref a1_)] [0, 1, 2, 3] = [(3, .int y_22), (2, .int y_21), (0, .ref a0_), (1, .ref a1_)])
            have g9 := g.sub (fx' := [(6, 9, a1_, .int x_1)]) [3] rfl
            exact ih7  y_22 y_21 (bd_sub b_23 (by decide)) (by have h9_0 := b_23; unfold bd at h9_0; have h9_1 := bdT v7_2; unfold bd at h9_1; have h9_2 := bdT y_21; unfold bd at h9_2; have h9_3 := bv7_3; unfold bd at h9_3; have h9_4 := kb_0; unfold bd at h9_4; have h9_5 := kb_1; unfold bd at h9_5; omega) _ _ _ _ g9  hl9
  have kb_0 : bd 0 0 (0 : Int32) := ⟨by decide, by decide⟩
  have hl9 := lv_sub hl [0, 1, 2, 3] (by rfl : lv_pick [(3, .int x_1), (2, .int 0), (0, .ref a0_), (1, .ref a1_)] [0, 1, 2, 3] = [(3, .int x_1), (2, .int 0), (0, .ref a0_), (1, .ref a1_)])
  have g9 := g.sub (fx' := [(6, 9, a1_, .int x_1)]) [0] rfl
  exact loop_2 (843) x_1 0 bx_1 (by have h9_0 := bx_1; unfold bd at h9_0; have h9_1 := kb_0; unfold bd at h9_1; omega) _ _ _ _ g9  hl9
set_option maxHeartbeats 4000000 in
set_option maxRecDepth 100000 in
theorem r_X11_member (l : Launch) (dC : Nat → ClassId) (dI : Nat → Nat → Nat) (L : List Nat) (kd : Nat → Nat) (tys : List (ClassId × FieldType)) (f0 : Nat → va_E) (sz : Nat) (hWT : WT L kd tys f0) (a0_ : Nat) (ma0_ : a0_ ∈ L) (ka0_ : kd a0_ = 11) (x1_ : Int32) (x2_ : Int32) (x3_ : Int32) : Met l yX11_member (.code yX11_member cX11_member 5 (some .int) :: lw_g) ({ frames := 2, cells := 0, slots := 0, locals := 43 }) (va_Pc [.ref a0_, .int x1_, .int x2_, .int x3_] (P3 (dC, dI) L tys f0 sz)) (va_Qi (fun (r : Int32) (f : Nat → va_E) => (True)) (Q3 (dC, dI) L kd tys [] [] f0 sz) (pA L sz)) 0 0 (pA L sz) := by
  refine Met.ofW (cc := cX11_member) (maxL := 5) (ret := (some .int)) (by decide) rfl ?_
  intro p e s m args below meth c s₁ B hml hv
  obtain ⟨rfl, hsz, hP, hK, hD0⟩ := hv
  have hx := B.exec
  have hb := B.bytes
  have hr := B.returns
  have hts := atoms_spec (ws := (.code yX11_member cX11_member 5 (some .int) :: lw_g)) B.pre
  have hown : s.vm.findClass RX11 = some m.cls := findClass_of_methodNamed B.named
  have hlocks := B.notSynchronized
  subst hsz
  have g : G3 (dC, dI) L kd tys s f0 [] [] f0 s.heap [] [] := G3.start hP hD0 hWT Fs.nil
  have hl := lv_entry ([.ref a0_, .int x1_, .int x2_, .int x3_]) (n := 5) (Nat.le_of_ble_eq_true rfl)
  rw [lg_entry_eq]
  generalize (lg_sl ([.ref a0_, .int x1_, .int x2_, .int x3_]) ++ List.replicate (5 - (lg_sl ([.ref a0_, .int x1_, .int x2_, .int x3_])).length) Slot.unset).toArray = ls at hl ⊢
  have hl : lv_has ls 5 [(0, .ref a0_), (1, .int x1_), (2, .int x2_), (3, .int x3_)] := hl
  refine W_q (fun Q hQ => ?_)
  refine lv_aload_n hx hb dX11_member_0 rfl (lv_at hl 0 rfl) ?_
  refine g_getr (K := 7) (C := RX11) (T := TX11) (N := 8) hx hb hts (mc_ inX11) hown hK g ma0_ ka0_ (by decide) rfl 4 (by decide) rfl (hts _ (List.mem_cons_of_mem _ t_952)) (fun _ h9 => h9) rfl dX11_member_1 (fun a_1 ma_1 ka_1 g => ?_)
  refine lv_iload_n hx hb dX11_member_4 rfl (lv_at hl 1 rfl) ?_
  refine lv_iload_n hx hb dX11_member_5 rfl (lv_at hl 2 rfl) ?_
  refine g_calli (va_runV (As := [.int x1_, .int x2_]) (rest := []) ⟨hx, hb, hml, hown, hts⟩ (r_X7_hasMember l dC dI L kd tys f0 s.heap.size g.2.2.2.1 a_1 ma_1 ka_1 x1_ x2_) (cwV 2 hts (gV_ t_1447 t_1448 t_1449 t_191 t_1450) rfl rfl rfl (by decide +kernel) ⟨(Nat.le_of_ble_eq_true rfl), (Nat.le_of_ble_eq_true rfl)⟩) (pre3V g hK ma_1 ka_1 (by decide) (q := (RX7, TX7, 19)) rfl) rfl rfl hl.1 rfl (lv_room (Nat.le_of_ble_eq_true rfl)) dX11_member_6 ⟨(Nat.le_of_ble_eq_true rfl), (Nat.le_of_ble_eq_true rfl)⟩) g hK (by decide) (by decide) (fx' := [(11, 4, a0_, .ref a_1)]) rfl (fun r_2 fr_2 H locs hp hMr_2 g => ?_)
  rcases hp with ⟨h_3, -⟩ | ⟨h_4, h_5, h_6, x_7, h_8, hF_9⟩
  · obtain rfl : r_2 = 0 := h_3
    refine lv_if_ne (tgt := 14) hx hb dX11_member_9 (by decide) (fun c_ => absurd c_ (by decide)) (fun c_ => ?_)
    refine lv_iconst (v := (-1)) hx hb dX11_member_12 (by decide) ?_
    subst hQ
    exact W.iret (v := (-1)) hx hb hr (fun t ht hW => ⟨⟨_, _, rfl, trivial, q3_of g hK ht hW⟩, g.2.2.1.F ht⟩) g.2.2.1.2.2 dX11_member_13
  · obtain rfl : r_2 = 1 := h_4
    have b_10 : bd 0 7 x1_ := eqX rfl (bdT x1_) h_5 (by decide)
    have b_11 : bd 0 11 x2_ := eqX rfl (bdT x2_) h_6 (by decide)
    have g := g.more hF_9
    refine lv_if_ne (tgt := 14) hx hb dX11_member_9 (by decide) (fun c_ => ?_) (fun c_ => absurd c_ (by decide))
    refine lv_aload_n hx hb dX11_member_14 rfl (lv_at hl 0 rfl) ?_
    refine g_getk (C := RX11) (T := TX11) (N := 8) hx hb hts (mc_ inX11) hown hK g rfl 4 (by decide) rfl (hts _ (List.mem_cons_of_mem _ t_952)) (fun _ h9 => h9) 1 rfl dX11_member_15 ?_
    refine g_getr (K := 137) (C := RX7) (T := TX7) (N := 19) hx hb hts (mc_ inX7) hown hK g ma_1 ka_1 (by decide) rfl 2 (by decide) rfl (hts _ (List.mem_cons_of_mem _ t_632)) (fun _ h9 => h9) rfl dX11_member_18 (fun a_12 ma_12 ka_12 g => ?_)
    refine lv_aload_n hx hb dX11_member_21 rfl (lv_at hl 0 rfl) ?_
    refine g_getk (C := RX11) (T := TX11) (N := 8) hx hb hts (mc_ inX11) hown hK g rfl 4 (by decide) rfl (hts _ (List.mem_cons_of_mem _ t_952)) (fun _ h9 => h9) 2 rfl dX11_member_22 ?_
    refine g_getr (K := 136) (C := RX7) (T := TX7) (N := 19) hx hb hts (mc_ inX7) hown hK g ma_1 ka_1 (by decide) rfl 0 (by decide) rfl (hts _ (List.mem_cons_of_mem _ t_623)) (fun _ h9 => h9) rfl dX11_member_25 (fun a_13 ma_13 ka_13 g => ?_)
    refine lv_iload_n hx hb dX11_member_28 rfl (lv_at hl 1 rfl) ?_
    refine g_aald hx hb hK g ma_13 ka_13 (by decide) rfl (by decide) (in_bd b_10 (by decide)) dX11_member_29 (fun a_14 ma_14 ua_14 wa_14 => ?_)
    have ka_14 : kd a_14 = 9 := by omega
    refine g_getr (K := 156) (C := RX9) (T := TX9) (N := 13) hx hb hts (mc_ inX9) hown hK g ma_14 ka_14 (by decide) rfl 9 (by decide) rfl (hts _ (List.mem_cons_of_mem _ t_507)) (fun _ h9 => h9) rfl dX11_member_30 (fun a_15 ma_15 ka_15 g => ?_)
    refine lv_iload_n hx hb dX11_member_33 rfl (lv_at hl 2 rfl) ?_
    refine g_iald hx hb hK g ma_15 ka_15 (by decide) rfl (in_bd b_11 (by decide)) dX11_member_34 (fun x_16 bx_16 cx_16 => ?_)
    refine g_aald hx hb hK g ma_12 ka_12 (by decide) rfl (by decide) (in_bd bx_16 (by decide)) dX11_member_35 (fun a_17 ma_17 ua_17 wa_17 => ?_)
    have ka_17 : kd a_17 = 6 := by omega
    refine lv_astore (lv' := [(4, .ref a_17), (0, .ref a0_), (1, .int x1_), (2, .int x2_), (3, .int x3_)]) hx hb dX11_member_36 hl (by decide) rfl (fun ls hl => ?_)
    refine lv_iload_n hx hb dX11_member_38 rfl (lv_at hl 4 rfl) ?_
    by_cases e_18 : x3_ = 0
    · refine lv_topi (fun z_19 ez_19 => ?_)
      obtain rfl : z_19 = 0 := ez_19.trans e_18
      have kb_0 : bd 0 0 (0 : Int32) := ⟨by decide, by decide⟩
      have b_20 : bd 0 0 x3_ := eqX (eq_f e_18) (bdT x3_) kb_0 (by decide)
      refine lv_tableIn (off := 37) (tgt := 76) hx hb dX11_member_39 (by decide) (by decide) rfl (by decide) ?_
      refine lv_aload hx hb dX11_member_76 (lv_at hl 0 rfl) ?_
      refine g_geti (C := RX6) (T := TX6) (N := 13) hx hb hts (mc_ inX6) hown hK g ma_17 ka_17 (by decide) rfl 2 (by decide) rfl (hts _ (List.mem_cons_of_mem _ t_560)) (fun _ h9 => h9) rfl dX11_member_78 (fun x_21 bx_21 g => ?_)
      subst hQ
      exact W.iret (v := x_21) hx hb hr (fun t ht hW => ⟨⟨_, _, rfl, trivial, q3_of g hK ht hW⟩, g.2.2.1.F ht⟩) g.2.2.1.2.2 dX11_member_81
    by_cases e_22 : x3_ = 1
    · refine lv_topi (fun z_23 ez_23 => ?_)
      obtain rfl : z_23 = 1 := ez_23.trans e_22
      have kb_1 : bd 1 1 (1 : Int32) := ⟨by decide, by decide⟩
      have b_24 : bd 1 1 x3_ := eqX (eq_f e_22) (bdT x3_) kb_1 (by decide)
      refine lv_tableIn (off := 43) (tgt := 82) hx hb dX11_member_39 (by decide) (by decide) rfl (by decide) ?_
      refine lv_aload hx hb dX11_member_82 (lv_at hl 0 rfl) ?_
      refine g_geti (C := RX6) (T := TX6) (N := 13) hx hb hts (mc_ inX6) hown hK g ma_17 ka_17 (by decide) rfl 3 (by decide) rfl (hts _ (List.mem_cons_of_mem _ t_563)) (fun _ h9 => h9) rfl dX11_member_84 (fun x_25 bx_25 g => ?_)
      subst hQ
      exact W.iret (v := x_25) hx hb hr (fun t ht hW => ⟨⟨_, _, rfl, trivial, q3_of g hK ht hW⟩, g.2.2.1.F ht⟩) g.2.2.1.2.2 dX11_member_87
    by_cases e_26 : x3_ = 2
    · refine lv_topi (fun z_27 ez_27 => ?_)
      obtain rfl : z_27 = 2 := ez_27.trans e_26
      have kb_2 : bd 2 2 (2 : Int32) := ⟨by decide, by decide⟩
      have b_28 : bd 2 2 x3_ := eqX (eq_f e_26) (bdT x3_) kb_2 (by decide)
      refine lv_tableIn (off := 49) (tgt := 88) hx hb dX11_member_39 (by decide) (by decide) rfl (by decide) ?_
      refine lv_aload hx hb dX11_member_88 (lv_at hl 0 rfl) ?_
      refine g_geti (C := RX6) (T := TX6) (N := 13) hx hb hts (mc_ inX6) hown hK g ma_17 ka_17 (by decide) rfl 10 (by decide) rfl (hts _ (List.mem_cons_of_mem _ t_587)) (fun _ h9 => h9) rfl dX11_member_90 (fun x_29 bx_29 g => ?_)
      subst hQ
      exact W.iret (v := x_29) hx hb hr (fun t ht hW => ⟨⟨_, _, rfl, trivial, q3_of g hK ht hW⟩, g.2.2.1.F ht⟩) g.2.2.1.2.2 dX11_member_93
    by_cases e_30 : x3_ = 3
    · refine lv_topi (fun z_31 ez_31 => ?_)
      obtain rfl : z_31 = 3 := ez_31.trans e_30
      have kb_3 : bd 3 3 (3 : Int32) := ⟨by decide, by decide⟩
      have b_32 : bd 3 3 x3_ := eqX (eq_f e_30) (bdT x3_) kb_3 (by decide)
      refine lv_tableIn (off := 55) (tgt := 94) hx hb dX11_member_39 (by decide) (by decide) rfl (by decide) ?_
      refine lv_aload_n hx hb dX11_member_94 rfl (lv_at hl 1 rfl) ?_
      refine g_getk (C := RX11) (T := TX11) (N := 8) hx hb hts (mc_ inX11) hown hK g rfl 4 (by decide) rfl (hts _ (List.mem_cons_of_mem _ t_952)) (fun _ h9 => h9) 4 rfl dX11_member_95 ?_
      refine lv_aload hx hb dX11_member_98 (lv_at hl 0 rfl) ?_
      refine g_calli (va_runV (As := [.ref a_17]) (rest := []) ⟨hx, hb, hml, hown, hts⟩ (r_X7_begunOf l dC dI L kd tys fr_2 H.size g.2.2.2.1 a_1 ma_1 ka_1 a_17 ma_17 ka_17) (cwV 1 hts (gV_ t_1452 t_1453 t_1454 t_191 t_1455) rfl rfl rfl (by decide +kernel) ⟨(Nat.le_of_ble_eq_true rfl), (Nat.le_of_ble_eq_true rfl)⟩) (pre3V g hK ma_1 ka_1 (by decide) (q := (RX7, TX7, 19)) rfl) rfl rfl hl.1 rfl (lv_room (Nat.le_of_ble_eq_true rfl)) dX11_member_100 ⟨(Nat.le_of_ble_eq_true rfl), (Nat.le_of_ble_eq_true rfl)⟩) g hK (by decide) (by decide) (fx' := [(9, 9, a_14, .ref a_15), (7, 0, a_1, .ref a_13), (7, 2, a_1, .ref a_12), (7, 1, a_1, .int x_7), (11, 4, a0_, .ref a_1)]) rfl (fun r_33 fr_33 H locs hp hMr_33 g => ?_)
      subst hQ
      exact W.iret (v := r_33) hx hb hr (fun t ht hW => ⟨⟨_, _, rfl, trivial, q3_of g hK ht hW⟩, g.2.2.1.F ht⟩) g.2.2.1.2.2 dX11_member_103
    by_cases e_34 : x3_ = 4
    · refine lv_topi (fun z_35 ez_35 => ?_)
      obtain rfl : z_35 = 4 := ez_35.trans e_34
      have kb_4 : bd 4 4 (4 : Int32) := ⟨by decide, by decide⟩
      have b_36 : bd 4 4 x3_ := eqX (eq_f e_34) (bdT x3_) kb_4 (by decide)
      refine lv_tableIn (off := 65) (tgt := 104) hx hb dX11_member_39 (by decide) (by decide) rfl (by decide) ?_
      refine lv_aload hx hb dX11_member_104 (lv_at hl 0 rfl) ?_
      refine g_geti (C := RX6) (T := TX6) (N := 13) hx hb hts (mc_ inX6) hown hK g ma_17 ka_17 (by decide) rfl 6 (by decide) rfl (hts _ (List.mem_cons_of_mem _ t_576)) (fun _ h9 => h9) rfl dX11_member_106 (fun x_37 bx_37 g => ?_)
      have kb_0 : bd 0 0 (0 : Int32) := ⟨by decide, by decide⟩
      refine lv_if_eq (tgt := 116) hx hb dX11_member_109 (by decide) (fun c_38 => ?_) (fun c_38 => ?_)
      · have fc_38 := eq_f c_38
        have b_39 : bd 0 0 x_37 := eqX fc_38 bx_37 kb_0 (by decide)
        refine lv_iconst (v := 0) hx hb dX11_member_116 (by decide) ?_
        subst hQ
        exact W.iret (v := 0) hx hb hr (fun t ht hW => ⟨⟨_, _, rfl, trivial, q3_of g hK ht hW⟩, g.2.2.1.F ht⟩) g.2.2.1.2.2 dX11_member_117
      · have fc_38 := neq_f c_38
        have b_40 : bd 1 1 x_37 := neX fc_38 bx_37 kb_0 (by decide)
        refine lv_iconst (v := 1) hx hb dX11_member_112 (by decide) ?_
        refine lv_goto (tgt := 117) hx hb dX11_member_113 (by decide) ?_
        subst hQ
        exact W.iret (v := 1) hx hb hr (fun t ht hW => ⟨⟨_, _, rfl, trivial, q3_of g hK ht hW⟩, g.2.2.1.F ht⟩) g.2.2.1.2.2 dX11_member_117
    by_cases e_41 : x3_ = 5
    · refine lv_topi (fun z_42 ez_42 => ?_)
      obtain rfl : z_42 = 5 := ez_42.trans e_41
      have kb_5 : bd 5 5 (5 : Int32) := ⟨by decide, by decide⟩
      have b_43 : bd 5 5 x3_ := eqX (eq_f e_41) (bdT x3_) kb_5 (by decide)
      refine lv_tableIn (off := 79) (tgt := 118) hx hb dX11_member_39 (by decide) (by decide) rfl (by decide) ?_
      refine lv_aload hx hb dX11_member_118 (lv_at hl 0 rfl) ?_
      refine g_geti (C := RX6) (T := TX6) (N := 13) hx hb hts (mc_ inX6) hown hK g ma_17 ka_17 (by decide) rfl 1 (by decide) rfl (hts _ (List.mem_cons_of_mem _ t_558)) (fun _ h9 => h9) rfl dX11_member_120 (fun x_44 bx_44 g => ?_)
      subst hQ
      exact W.iret (v := x_44) hx hb hr (fun t ht hW => ⟨⟨_, _, rfl, trivial, q3_of g hK ht hW⟩, g.2.2.1.F ht⟩) g.2.2.1.2.2 dX11_member_123
    refine lv_tableOut (tgt := 124) hx hb dX11_member_39 (by have a0 : x3_.toInt ≠ 0 := fun h => e_18 (Int32.toInt_inj.mp (h.trans (by decide))); have a1 : x3_.toInt ≠ 1 := fun h => e_22 (Int32.toInt_inj.mp (h.trans (by decide))); have a2 : x3_.toInt ≠ 2 := fun h => e_26 (Int32.toInt_inj.mp (h.trans (by decide))); have a3 : x3_.toInt ≠ 3 := fun h => e_30 (Int32.toInt_inj.mp (h.trans (by decide))); have a4 : x3_.toInt ≠ 4 := fun h => e_34 (Int32.toInt_inj.mp (h.trans (by decide))); have a5 : x3_.toInt ≠ 5 := fun h => e_41 (Int32.toInt_inj.mp (h.trans (by decide))); omega) (by decide) ?_
    refine lv_iconst (v := (-1)) hx hb dX11_member_124 (by decide) ?_
    subst hQ
    exact W.iret (v := (-1)) hx hb hr (fun t ht hW => ⟨⟨_, _, rfl, trivial, q3_of g hK ht hW⟩, g.2.2.1.F ht⟩) g.2.2.1.2.2 dX11_member_125
set_option maxHeartbeats 4000000 in
set_option maxRecDepth 100000 in
theorem r_X11_model (l : Launch) (dC : Nat → ClassId) (dI : Nat → Nat → Nat) (L : List Nat) (kd : Nat → Nat) (tys : List (ClassId × FieldType)) (f0 : Nat → va_E) (sz : Nat) (hWT : WT L kd tys f0) (a0_ : Nat) (ma0_ : a0_ ∈ L) (ka0_ : kd a0_ = 11) (x1_ : Int32) (x2_ : Int32) : Met l yX11_model (.code yX11_model cX11_model 3 (some .int) :: lw_g) ({ frames := 1, cells := 0, slots := 0, locals := 21 }) (va_Pc [.ref a0_, .int x1_, .int x2_] (P3 (dC, dI) L tys f0 sz)) (va_Qi (fun (r : Int32) (f : Nat → va_E) => (r = (-2) ∧ True) ∨ (r = 1 ∧ bd 0 7 x1_ ∧ bd (-1) 7 x2_ ∧ True)) (Q3 (dC, dI) L kd tys [(9, 12)] [] f0 sz) (pA L sz)) 0 0 (pA L sz) := by
  refine Met.ofW (cc := cX11_model) (maxL := 3) (ret := (some .int)) (by decide) rfl ?_
  intro p e s m args below meth c s₁ B hml hv
  obtain ⟨rfl, hsz, hP, hK, hD0⟩ := hv
  have hx := B.exec
  have hb := B.bytes
  have hr := B.returns
  have hts := atoms_spec (ws := (.code yX11_model cX11_model 3 (some .int) :: lw_g)) B.pre
  have hown : s.vm.findClass RX11 = some m.cls := findClass_of_methodNamed B.named
  have hlocks := B.notSynchronized
  subst hsz
  have g : G3 (dC, dI) L kd tys s f0 [(9, 12)] [] f0 s.heap [] [] := G3.start hP hD0 hWT Fs.nil
  have hl := lv_entry ([.ref a0_, .int x1_, .int x2_]) (n := 3) (Nat.le_of_ble_eq_true rfl)
  rw [lg_entry_eq]
  generalize (lg_sl ([.ref a0_, .int x1_, .int x2_]) ++ List.replicate (3 - (lg_sl ([.ref a0_, .int x1_, .int x2_])).length) Slot.unset).toArray = ls at hl ⊢
  have hl : lv_has ls 3 [(0, .ref a0_), (1, .int x1_), (2, .int x2_)] := hl
  refine W_q (fun Q hQ => ?_)
  refine lv_aload_n hx hb dX11_model_0 rfl (lv_at hl 0 rfl) ?_
  refine g_getr (K := 7) (C := RX11) (T := TX11) (N := 8) hx hb hts (mc_ inX11) hown hK g ma0_ ka0_ (by decide) rfl 4 (by decide) rfl (hts _ (List.mem_cons_of_mem _ t_952)) (fun _ h9 => h9) rfl dX11_model_1 (fun a_1 ma_1 ka_1 g => ?_)
  refine lv_iload_n hx hb dX11_model_4 rfl (lv_at hl 1 rfl) ?_
  refine g_calli (va_runV (As := [.int x1_]) (rest := []) ⟨hx, hb, hml, hown, hts⟩ (r_X7_hasClass l dC dI L kd tys f0 s.heap.size g.2.2.2.1 a_1 ma_1 ka_1 x1_) (cwV 1 hts (gV_ t_1442 t_1281 t_1282 t_191 t_1283) rfl rfl rfl (by decide +kernel) ⟨(Nat.le_of_ble_eq_true rfl), (Nat.le_of_ble_eq_true rfl)⟩) (pre3V g hK ma_1 ka_1 (by decide) (q := (RX7, TX7, 19)) rfl) rfl rfl hl.1 rfl (lv_room (Nat.le_of_ble_eq_true rfl)) dX11_model_5 ⟨(Nat.le_of_ble_eq_true rfl), (Nat.le_of_ble_eq_true rfl)⟩) g hK (by decide) (by decide) (fx' := [(11, 4, a0_, .ref a_1)]) rfl (fun r_2 fr_2 H locs hp hMr_2 g => ?_)
  rcases hp with ⟨h_3, -⟩ | ⟨h_4, h_5, x_6, h_7, hF_8⟩
  · obtain rfl : r_2 = 0 := h_3
    refine lv_if_eq (tgt := 27) hx hb dX11_model_8 (by decide) (fun c_ => ?_) (fun c_ => absurd (by decide) c_)
    refine lv_bipush (v := (-2)) hx hb dX11_model_27 (by decide) ?_
    subst hQ
    exact W.iret (v := (-2)) hx hb hr (fun t ht hW => ⟨⟨_, _, rfl, Or.inl ⟨rfl, trivial⟩, q3_of g hK ht hW⟩, g.2.2.1.F ht⟩) g.2.2.1.2.2 dX11_model_29
  · obtain rfl : r_2 = 1 := h_4
    have b_9 : bd 0 7 x1_ := eqX rfl (bdT x1_) h_5 (by decide)
    have g := g.more hF_8
    refine lv_if_eq (tgt := 27) hx hb dX11_model_8 (by decide) (fun c_ => absurd c_ (by decide)) (fun c_ => ?_)
    refine lv_iload_n hx hb dX11_model_11 rfl (lv_at hl 2 rfl) ?_
    refine lv_iconst (v := (-1)) hx hb dX11_model_12 (by decide) ?_
    have kb_m1 : bd (-1) (-1) ((-1) : Int32) := ⟨by decide, by decide⟩
    refine lv_icmp_eq (tgt := 30) hx hb dX11_model_13 (by decide) (fun c_10 => ?_) (fun c_10 => ?_)
    · have fc_10 := eq_f c_10
      have b_11 : bd (-1) (-1) x2_ := eqX fc_10 (bdT x2_) kb_m1 (by decide)
      refine lv_aload_n hx hb dX11_model_30 rfl (lv_at hl 0 rfl) ?_
      refine g_getk (C := RX11) (T := TX11) (N := 8) hx hb hts (mc_ inX11) hown hK g rfl 4 (by decide) rfl (hts _ (List.mem_cons_of_mem _ t_952)) (fun _ h9 => h9) 1 rfl dX11_model_31 ?_
      refine g_getr (K := 136) (C := RX7) (T := TX7) (N := 19) hx hb hts (mc_ inX7) hown hK g ma_1 ka_1 (by decide) rfl 0 (by decide) rfl (hts _ (List.mem_cons_of_mem _ t_623)) (fun _ h9 => h9) rfl dX11_model_34 (fun a_12 ma_12 ka_12 g => ?_)
      refine lv_iload_n hx hb dX11_model_37 rfl (lv_at hl 1 rfl) ?_
      refine g_aald hx hb hK g ma_12 ka_12 (by decide) rfl (by decide) (in_bd b_9 (by decide)) dX11_model_38 (fun a_13 ma_13 ua_13 wa_13 => ?_)
      have ka_13 : kd a_13 = 9 := by omega
      refine lv_iload_n hx hb dX11_model_39 rfl (lv_at hl 2 rfl) ?_
      refine g_put (C := RX9) (T := TX9) (N := 13) hx hb hts (mc_ inX9) tyX9 tyX9_ok nmX9 hown hK g ma_13 ka_13 (by decide) rfl 12 (by decide) (hts _ (List.mem_cons_of_mem _ t_519)) (fun _ h9 => h9) rfl rfl (okV_i (bd_sub b_11 (by decide))) rfl rfl (by decide) (Or.inr (Or.inl (by decide))) (fx' := [(7, 0, a_1, .ref a_12), (7, 1, a_1, .int x_6), (11, 4, a0_, .ref a_1)]) rfl dX11_model_40 (fun f H locs hM_14 g => ?_)
      refine lv_iconst (v := 1) hx hb dX11_model_43 (by decide) ?_
      subst hQ
      exact W.iret (v := 1) hx hb hr (fun t ht hW => ⟨⟨_, _, rfl, Or.inr (⟨rfl, b_9, (bd_sub b_11 (by decide)), trivial⟩), q3_of g hK ht hW⟩, g.2.2.1.F ht⟩) g.2.2.1.2.2 dX11_model_44
    · have fc_10 := neq_f c_10
      refine lv_aload_n hx hb dX11_model_16 rfl (lv_at hl 0 rfl) ?_
      refine g_getk (C := RX11) (T := TX11) (N := 8) hx hb hts (mc_ inX11) hown hK g rfl 4 (by decide) rfl (hts _ (List.mem_cons_of_mem _ t_952)) (fun _ h9 => h9) 1 rfl dX11_model_17 ?_
      refine lv_iload_n hx hb dX11_model_20 rfl (lv_at hl 2 rfl) ?_
      refine g_calli (va_runV (As := [.int x2_]) (rest := []) ⟨hx, hb, hml, hown, hts⟩ (r_X7_hasClass l dC dI L kd tys fr_2 H.size g.2.2.2.1 a_1 ma_1 ka_1 x2_) (cwV 1 hts (gV_ t_1442 t_1281 t_1282 t_191 t_1283) rfl rfl rfl (by decide +kernel) ⟨(Nat.le_of_ble_eq_true rfl), (Nat.le_of_ble_eq_true rfl)⟩) (pre3V g hK ma_1 ka_1 (by decide) (q := (RX7, TX7, 19)) rfl) rfl rfl hl.1 rfl (lv_room (Nat.le_of_ble_eq_true rfl)) dX11_model_21 ⟨(Nat.le_of_ble_eq_true rfl), (Nat.le_of_ble_eq_true rfl)⟩) g hK (by decide) (by decide) (fx' := [(7, 1, a_1, .int x_6), (11, 4, a0_, .ref a_1)]) rfl (fun r_15 fr_15 H locs hp hMr_15 g => ?_)
      rcases hp with ⟨h_16, -⟩ | ⟨h_17, h_18, x_19, h_20, hF_21⟩
      · obtain rfl : r_15 = 0 := h_16
        refine lv_if_ne (tgt := 30) hx hb dX11_model_24 (by decide) (fun c_ => absurd c_ (by decide)) (fun c_ => ?_)
        refine lv_bipush (v := (-2)) hx hb dX11_model_27 (by decide) ?_
        subst hQ
        exact W.iret (v := (-2)) hx hb hr (fun t ht hW => ⟨⟨_, _, rfl, Or.inl ⟨rfl, trivial⟩, q3_of g hK ht hW⟩, g.2.2.1.F ht⟩) g.2.2.1.2.2 dX11_model_29
      · obtain rfl : r_15 = 1 := h_17
        have b_22 : bd 0 7 x2_ := eqX rfl (bdT x2_) h_18 (by decide)
        have g := g.more hF_21
        have e_23 := fx_same g 1 0 rfl rfl
        have g := g.sub (fx' := [(7, 1, a_1, .int x_6), (11, 4, a0_, .ref a_1)]) [1, 2] rfl
        refine lv_if_ne (tgt := 30) hx hb dX11_model_24 (by decide) (fun c_ => ?_) (fun c_ => absurd c_ (by decide))
        refine lv_aload_n hx hb dX11_model_30 rfl (lv_at hl 0 rfl) ?_
        refine g_getk (C := RX11) (T := TX11) (N := 8) hx hb hts (mc_ inX11) hown hK g rfl 4 (by decide) rfl (hts _ (List.mem_cons_of_mem _ t_952)) (fun _ h9 => h9) 1 rfl dX11_model_31 ?_
        refine g_getr (K := 136) (C := RX7) (T := TX7) (N := 19) hx hb hts (mc_ inX7) hown hK g ma_1 ka_1 (by decide) rfl 0 (by decide) rfl (hts _ (List.mem_cons_of_mem _ t_623)) (fun _ h9 => h9) rfl dX11_model_34 (fun a_24 ma_24 ka_24 g => ?_)
        refine lv_iload_n hx hb dX11_model_37 rfl (lv_at hl 1 rfl) ?_
        refine g_aald hx hb hK g ma_24 ka_24 (by decide) rfl (by decide) (in_bd b_9 (by decide)) dX11_model_38 (fun a_25 ma_25 ua_25 wa_25 => ?_)
        have ka_25 : kd a_25 = 9 := by omega
        refine lv_iload_n hx hb dX11_model_39 rfl (lv_at hl 2 rfl) ?_
        refine g_put (C := RX9) (T := TX9) (N := 13) hx hb hts (mc_ inX9) tyX9 tyX9_ok nmX9 hown hK g ma_25 ka_25 (by decide) rfl 12 (by decide) (hts _ (List.mem_cons_of_mem _ t_519)) (fun _ h9 => h9) rfl rfl (okV_i (bd_sub b_22 (by decide))) rfl rfl (by decide) (Or.inr (Or.inl (by decide))) (fx' := [(7, 0, a_1, .ref a_24), (7, 1, a_1, .int x_6), (11, 4, a0_, .ref a_1)]) rfl dX11_model_40 (fun f H locs hM_26 g => ?_)
        refine lv_iconst (v := 1) hx hb dX11_model_43 (by decide) ?_
        subst hQ
        exact W.iret (v := 1) hx hb hr (fun t ht hW => ⟨⟨_, _, rfl, Or.inr (⟨rfl, b_9, (bd_sub b_22 (by decide)), trivial⟩), q3_of g hK ht hW⟩, g.2.2.1.F ht⟩) g.2.2.1.2.2 dX11_model_44
set_option maxHeartbeats 4000000 in
set_option maxRecDepth 100000 in
theorem r_X3_wipeQ (l : Launch) (dC : Nat → ClassId) (dI : Nat → Nat → Nat) (L : List Nat) (kd : Nat → Nat) (tys : List (ClassId × FieldType)) (f0 : Nat → va_E) (sz : Nat) (hWT : WT L kd tys f0) (a0_ : Nat) (ma0_ : a0_ ∈ L) (ka0_ : kd a0_ = 3) (p_ : Nat) (mp_ : p_ ∈ L) (kp_ : kd p_ = 124) (m_ : Nat) (mm_ : m_ ∈ L) (km_ : kd m_ = 123) (A_ : Nat → Nat) (Q_ : RQ) (n_ : Int32) (bn_ : bd 0 10 n_) (k_ : Int32) (bk_ : bd 0 3 k_) (hJ_ : arP f0 p_ A_) (hQ_ : isQ L kd f0 m_ A_ Q_) (hfx : Fs L kd f0 [(3, 0, a0_, .int n_), (3, 4, a0_, .int k_), (3, 2, a0_, .ref m_), (3, 3, a0_, .ref p_)]) : Met l yX3_wipe (.code yX3_wipe cX3_wipe 1 none :: lw_g) ({ frames := 0, cells := 0, slots := 0, locals := 0 }) (va_Pc [.ref a0_] (P3 (dC, dI) L tys f0 sz)) (va_Qv (fun (f : Nat → va_E) => ((rowT L kd f0 f a0_ m_ A_ (fun Q1 n1 k1 => wQ Q1 n1 k1 ∧ n1.toInt = 0 ∧ k1.toInt = 0)) ∧ True)) (Q3 (dC, dI) L kd tys [(3, 0), (3, 4)] [] f0 sz) (pA L sz)) 0 0 (pA L sz) := by
  refine Met.ofW (cc := cX3_wipe) (maxL := 1) (ret := none) (by decide) rfl ?_
  intro p e s m args below meth c s₁ B hml hv
  obtain ⟨rfl, hsz, hP, hK, hD0⟩ := hv
  have hx := B.exec
  have hb := B.bytes
  have hr := B.returns
  have hts := atoms_spec (ws := (.code yX3_wipe cX3_wipe 1 none :: lw_g)) B.pre
  have hown : s.vm.findClass RX3 = some m.cls := findClass_of_methodNamed B.named
  have hlocks := B.notSynchronized
  subst hsz
  have g : G3 (dC, dI) L kd tys s f0 [(3, 0), (3, 4)] [] f0 s.heap [] [(3, 0, a0_, .int n_), (3, 4, a0_, .int k_), (3, 2, a0_, .ref m_), (3, 3, a0_, .ref p_)] := G3.start hP hD0 hWT hfx
  have hl := lv_entry ([.ref a0_]) (n := 1) (Nat.le_of_ble_eq_true rfl)
  rw [lg_entry_eq]
  generalize (lg_sl ([.ref a0_]) ++ List.replicate (1 - (lg_sl ([.ref a0_])).length) Slot.unset).toArray = ls at hl ⊢
  have hl : lv_has ls 1 [(0, .ref a0_)] := hl
  refine W_q (fun Q hQ => ?_)
  have hU_0 : QR L kd f0 f0 a0_ m_ A_ := QR.refl
  refine lv_aload_n hx hb dX3_wipe_0 rfl (lv_at hl 0 rfl) ?_
  refine lv_iconst (v := 0) hx hb dX3_wipe_1 (by decide) ?_
  have kb_0 : bd 0 0 (0 : Int32) := ⟨by decide, by decide⟩
  have go_ := g
  refine g_putX (C := RX3) (T := TX3) (N := 6) hx hb hts (mc_ inX3) tyX3 tyX3_ok nmX3 hown hK g ma0_ ka0_ (by decide) rfl 0 (by decide) (hts _ (List.mem_cons_of_mem _ t_801)) (fun _ h9 => h9) rfl rfl (okV_i (bd_sub kb_0 (by decide))) rfl rfl (by decide) (Or.inr (Or.inl (by decide))) (fx' := [(3, 4, a0_, .int k_), (3, 2, a0_, .ref m_), (3, 3, a0_, .ref p_)]) rfl dX3_wipe_2 (fun f H locs hM_1 u_4 g => ?_)
  have hG_2 := isQ.frame hM_1 go_.2.2.2.1 ma0_ ka0_ (by decide) (by decide) hQ_
  have hG_3 := arP.frame hM_1 go_.2.2.2.1 mp_ kp_ (by decide) (by decide) hJ_
  have hU_5 := QR.fld hU_0 u_4 ka0_
  refine lv_aload_n hx hb dX3_wipe_5 rfl (lv_at hl 0 rfl) ?_
  refine lv_iconst (v := 0) hx hb dX3_wipe_6 (by decide) ?_
  have go_ := g
  refine g_putX (C := RX3) (T := TX3) (N := 6) hx hb hts (mc_ inX3) tyX3 tyX3_ok nmX3 hown hK g ma0_ ka0_ (by decide) rfl 4 (by decide) (hts _ (List.mem_cons_of_mem _ t_813)) (fun _ h9 => h9) rfl rfl (okV_i (bd_sub kb_0 (by decide))) rfl rfl (by decide) (Or.inr (Or.inl (by decide))) (fx' := [(3, 0, a0_, .int 0), (3, 2, a0_, .ref m_), (3, 3, a0_, .ref p_)]) rfl dX3_wipe_7 (fun f H locs hM_6 u_9 g => ?_)
  have hG_7 := isQ.frame hM_6 go_.2.2.2.1 ma0_ ka0_ (by decide) (by decide) hG_2
  have hG_8 := arP.frame hM_6 go_.2.2.2.1 mp_ kp_ (by decide) (by decide) hG_3
  have hU_10 := QR.fld hU_5 u_9 ka0_
  subst hQ
  exact W.vret hx hb hr (fun t ht hW => ⟨⟨_, rfl, ⟨⟨Q_, (0 : Int32), (0 : Int32), hG_7, hU_10, (fx_at g (i := 1) rfl).2.2.2, (fx_at g (i := 0) rfl).2.2.2, (bd_sub kb_0 (by decide)), (bd_sub kb_0 (by decide)), ⟨wQ.zero (by decide) (by decide), (by decide), (by decide)⟩⟩, trivial⟩, q3_of g hK ht hW⟩, g.2.2.1.F ht⟩) g.2.2.1.2.2 dX3_wipe_10
set_option maxHeartbeats 4000000 in
set_option maxRecDepth 100000 in
theorem r_X10_emptyRow (l : Launch) (dC : Nat → ClassId) (dI : Nat → Nat → Nat) (L : List Nat) (kd : Nat → Nat) (tys : List (ClassId × FieldType)) (f0 : Nat → va_E) (sz : Nat) (hWT : WT L kd tys f0) (a0_ : Nat) (ma0_ : a0_ ∈ L) (ka0_ : kd a0_ = 10) (hGPa0_ : RP L kd f0 a0_) : Met l yX10_emptyRow (.code yX10_emptyRow cX10_emptyRow 1 none :: lw_g) ({ frames := 1, cells := 0, slots := 0, locals := 20 }) (va_Pc [.ref a0_] (P3 (dC, dI) L tys f0 sz)) (va_Qv (fun (f : Nat → va_E) => (RP L kd f a0_ ∧ Fs L kd f [(10, 8, a0_, .int 0)])) (Q3 (dC, dI) L kd tys [(3, 0), (3, 4), (10, 8)] [] f0 sz) (pA L sz)) 0 0 (pA L sz) := by
  refine Met.ofW (cc := cX10_emptyRow) (maxL := 1) (ret := none) (by decide) rfl ?_
  intro p e s m args below meth c s₁ B hml hv
  obtain ⟨rfl, hsz, hP, hK, hD0⟩ := hv
  have hx := B.exec
  have hb := B.bytes
  have hr := B.returns
  have hts := atoms_spec (ws := (.code yX10_emptyRow cX10_emptyRow 1 none :: lw_g)) B.pre
  have hown : s.vm.findClass RX10 = some m.cls := findClass_of_methodNamed B.named
  have hlocks := B.notSynchronized
  subst hsz
  have g : G3 (dC, dI) L kd tys s f0 [(3, 0), (3, 4), (10, 8)] [] f0 s.heap [] [] := G3.start hP hD0 hWT Fs.nil
  have hl := lv_entry ([.ref a0_]) (n := 1) (Nat.le_of_ble_eq_true rfl)
  rw [lg_entry_eq]
  generalize (lg_sl ([.ref a0_]) ++ List.replicate (1 - (lg_sl ([.ref a0_])).length) Slot.unset).toArray = ls at hl ⊢
  have hl : lv_has ls 1 [(0, .ref a0_)] := hl
  refine W_q (fun Q hQ => ?_)
  refine lv_aload_n hx hb dX10_emptyRow_0 rfl (lv_at hl 0 rfl) ?_
  refine g_getr (K := 3) (C := RX10) (T := TX10) (N := 10) hx hb hts (mc_ inX10) hown hK g ma0_ ka0_ (by decide) rfl 2 (by decide) rfl (hts _ (List.mem_cons_of_mem _ t_914)) (fun _ h9 => h9) rfl dX10_emptyRow_1 (fun a_1 ma_1 ka_1 g => ?_)
  obtain ⟨r1_2, r2_3, p1_4, p2_5, m1_6, m2_7, A1_8, A2_9, Q1_10, Q2_11, n1_12, n2_13, k1_14, k2_15, e2_16, e3_17, pk1_18, pk2_19, hap_20⟩ := hGPa0_
  obtain ⟨⟨hr_21, kr_22⟩, ⟨hp_23, kp_24⟩, ⟨hm_25, km_26⟩, f2_27, f3_28, f0_29, f4_30, b0_31, b4_32, hJ_33, hQ_34, hw_35⟩ := pk1_18
  obtain rfl : a_1 = r1_2 := by have h9 := (fx_at g (i := 0) rfl).2.2.2.symm.trans e2_16; cases h9; rfl
  have g := G3.add g ma_1 ka_1 (by decide) f2_27
  have g := G3.add g ma_1 ka_1 (by decide) f3_28
  have g := G3.add g ma_1 ka_1 (by decide) f0_29
  have g := G3.add g ma_1 ka_1 (by decide) f4_30
  obtain ⟨⟨hr_36, kr_37⟩, ⟨hp_38, kp_39⟩, ⟨hm_40, km_41⟩, f2_42, f3_43, f0_44, f4_45, b0_46, b4_47, hJ_48, hQ_49, hw_50⟩ := pk2_19
  have g := G3.add g ma0_ ka0_ (by decide) e3_17
  have g := G3.add g hr_36 kr_37 (by decide) f2_42
  have g := G3.add g hr_36 kr_37 (by decide) f3_43
  have g := G3.add g hr_36 kr_37 (by decide) f0_44
  have g := G3.add g hr_36 kr_37 (by decide) f4_45
  have ho_51 := (fx_at g (i := 1) rfl).2.2.2
  have ho_52 := (fx_at g (i := 0) rfl).2.2.2
  have go_ := g
  refine g_callv (va_runV (As := []) (rest := []) ⟨hx, hb, hml, hown, hts⟩ (r_X3_wipeQ l dC dI L kd tys f0 s.heap.size g.2.2.2.1 a_1 ma_1 ka_1 p1_4 hp_23 kp_24 m1_6 hm_25 km_26 A1_8 Q1_10 n1_12 b0_31 k1_14 b4_32 hJ_33 hQ_34 (g.fcts [6, 5, 8, 7] rfl)) (cwV 0 hts (gV_ t_1422 t_1423 t_1424 t_196 t_1425) rfl rfl rfl (by decide +kernel) ⟨(Nat.le_of_ble_eq_true rfl), (Nat.le_of_ble_eq_true rfl)⟩) (pre3V g hK ma_1 ka_1 (by decide) (q := (RX3, TX3, 6)) rfl) rfl rfl hl.1 rfl (lv_room (Nat.le_of_ble_eq_true rfl)) dX10_emptyRow_4 ⟨(Nat.le_of_ble_eq_true rfl), (Nat.le_of_ble_eq_true rfl)⟩) g hK (by decide) (by decide) (fx' := [(3, 3, r2_3, .ref p2_5), (3, 2, r2_3, .ref m2_7), (10, 3, a0_, .ref r2_3), (3, 3, a_1, .ref p1_4), (3, 2, a_1, .ref m1_6), (10, 2, a0_, .ref a_1)]) rfl (fun fr_53 H locs hp hMr_53 g => ?_)
  obtain ⟨hx_54, -⟩ := hp
  have hG_55 := isQ.frame hMr_53 go_.2.2.2.1 ma_1 ka_1 (by decide) (by decide) hQ_34
  have hG_56 := arP.frame hMr_53 go_.2.2.2.1 hp_23 kp_24 (by decide) (by decide) hJ_33
  have hG_57 := isQ.frame hMr_53 go_.2.2.2.1 hr_36 kr_37 (by decide) (by decide) hQ_49
  have hG_58 := arP.frame hMr_53 go_.2.2.2.1 hp_38 kp_39 (by decide) (by decide) hJ_48
  obtain ⟨Q_59, n_60, k_61, hQ_62, hU_63, h0_64, h4_65, b0_66, b4_67, hP_68⟩ := hx_54
  have g := G3.add g ma_1 ka_1 (by decide) h0_64
  have g := G3.add g ma_1 ka_1 (by decide) h4_65
  have hQ_69 := QR.oth hU_63 hQ_49 hap_20.2.1 hap_20.2.2
  have g := G3.add g hr_36 kr_37 (by decide) (((hU_63 r2_3 hr_36).1 kr_37 (fun z => hap_20.1 z.symm) 0).trans ho_51)
  have g := G3.add g hr_36 kr_37 (by decide) (((hU_63 r2_3 hr_36).1 kr_37 (fun z => hap_20.1 z.symm) 4).trans ho_52)
  have hP_72 : RP L kd fr_53 a0_ := ⟨a_1, _, _, _, _, _, _, _, _, _, _, _, _, _, (fx_at g (i := 9) rfl).2.2.2, (fx_at g (i := 6) rfl).2.2.2, ⟨⟨ma_1, ka_1⟩, ⟨hp_23, kp_24⟩, ⟨hm_25, km_26⟩, (fx_at g (i := 8) rfl).2.2.2, (fx_at g (i := 7) rfl).2.2.2, (fx_at g (i := 3) rfl).2.2.2, (fx_at g (i := 2) rfl).2.2.2, b0_66, b4_67, hG_56, hQ_62, hP_68.1⟩, ⟨⟨hr_36, kr_37⟩, ⟨hp_38, kp_39⟩, ⟨hm_40, km_41⟩, (fx_at g (i := 5) rfl).2.2.2, (fx_at g (i := 4) rfl).2.2.2, (fx_at g (i := 1) rfl).2.2.2, (fx_at g (i := 0) rfl).2.2.2, b0_46, b4_47, hG_58, hQ_69, hw_50⟩, hap_20⟩
  refine lv_aload_n hx hb dX10_emptyRow_7 rfl (lv_at hl 0 rfl) ?_
  refine lv_iconst (v := 0) hx hb dX10_emptyRow_8 (by decide) ?_
  have kb_0 : bd 0 0 (0 : Int32) := ⟨by decide, by decide⟩
  have go_ := g
  refine g_put (C := RX10) (T := TX10) (N := 10) hx hb hts (mc_ inX10) tyX10 tyX10_ok nmX10 hown hK g ma0_ ka0_ (by decide) rfl 8 (by decide) (hts _ (List.mem_cons_of_mem _ t_924)) (fun _ h9 => h9) rfl rfl (okV_i (bd_sub kb_0 (by decide))) rfl rfl (by decide) (Or.inr (Or.inl (by decide))) (fx' := [(3, 4, r2_3, .int k2_15), (3, 0, r2_3, .int n2_13), (3, 4, a_1, .int k_61), (3, 0, a_1, .int n_60), (3, 3, r2_3, .ref p2_5), (3, 2, r2_3, .ref m2_7), (10, 3, a0_, .ref r2_3), (3, 3, a_1, .ref p1_4), (3, 2, a_1, .ref m1_6), (10, 2, a0_, .ref a_1)]) rfl dX10_emptyRow_9 (fun f H locs hM_73 g => ?_)
  have hG_74 := RP.frame hM_73 go_.2.2.2.1 ma0_ ka0_ (by decide) (by decide) hP_72
  subst hQ
  exact W.vret hx hb hr (fun t ht hW => ⟨⟨_, rfl, ⟨hG_74, (g.fcts [0] rfl)⟩, q3_of g hK ht hW⟩, g.2.2.1.F ht⟩) g.2.2.1.2.2 dX10_emptyRow_12
set_option maxHeartbeats 4000000 in
set_option maxRecDepth 100000 in
theorem r_X11_clear (l : Launch) (dC : Nat → ClassId) (dI : Nat → Nat → Nat) (L : List Nat) (kd : Nat → Nat) (tys : List (ClassId × FieldType)) (f0 : Nat → va_E) (sz : Nat) (hWT : WT L kd tys f0) (a0_ : Nat) (ma0_ : a0_ ∈ L) (ka0_ : kd a0_ = 11) (q0_ : Nat) (mq0_ : q0_ ∈ L) (kq0_ : kd q0_ = 10) (hGPq0_ : RP L kd f0 q0_) (hfx : Fs L kd f0 [(11, 3, a0_, .ref q0_)]) : Met l yX11_clear (.code yX11_clear cX11_clear 2 (some .int) :: lw_g) ({ frames := 2, cells := 0, slots := 0, locals := 40 }) (va_Pc [.ref a0_] (P3 (dC, dI) L tys f0 sz)) (va_Qi (fun (r : Int32) (f : Nat → va_E) => (RP L kd f q0_ ∧ bd 0 10 r ∧ Fs L kd f [(10, 8, q0_, .int 0)])) (Q3 (dC, dI) L kd tys [(3, 0), (3, 4), (10, 8)] [] f0 sz) (pA L sz)) 0 0 (pA L sz) := by
  refine Met.ofW (cc := cX11_clear) (maxL := 2) (ret := (some .int)) (by decide) rfl ?_
  intro p e s m args below meth c s₁ B hml hv
  obtain ⟨rfl, hsz, hP, hK, hD0⟩ := hv
  have hx := B.exec
  have hb := B.bytes
  have hr := B.returns
  have hts := atoms_spec (ws := (.code yX11_clear cX11_clear 2 (some .int) :: lw_g)) B.pre
  have hown : s.vm.findClass RX11 = some m.cls := findClass_of_methodNamed B.named
  have hlocks := B.notSynchronized
  subst hsz
  have g : G3 (dC, dI) L kd tys s f0 [(3, 0), (3, 4), (10, 8)] [] f0 s.heap [] [(11, 3, a0_, .ref q0_)] := G3.start hP hD0 hWT hfx
  have hl := lv_entry ([.ref a0_]) (n := 2) (Nat.le_of_ble_eq_true rfl)
  rw [lg_entry_eq]
  generalize (lg_sl ([.ref a0_]) ++ List.replicate (2 - (lg_sl ([.ref a0_])).length) Slot.unset).toArray = ls at hl ⊢
  have hl : lv_has ls 2 [(0, .ref a0_)] := hl
  refine W_q (fun Q hQ => ?_)
  refine lv_aload_n hx hb dX11_clear_0 rfl (lv_at hl 0 rfl) ?_
  refine g_getk (C := RX11) (T := TX11) (N := 8) hx hb hts (mc_ inX11) hown hK g rfl 3 (by decide) rfl (hts _ (List.mem_cons_of_mem _ t_951)) (fun _ h9 => h9) 0 rfl dX11_clear_1 ?_
  refine g_getr (K := 3) (C := RX10) (T := TX10) (N := 10) hx hb hts (mc_ inX10) hown hK g mq0_ kq0_ (by decide) rfl 2 (by decide) rfl (hts _ (List.mem_cons_of_mem _ t_915)) (fun _ h9 => h9) rfl dX11_clear_4 (fun a_1 ma_1 ka_1 g => ?_)
  refine g_geti (C := RX3) (T := TX3) (N := 6) hx hb hts (mc_ inX3) hown hK g ma_1 ka_1 (by decide) rfl 0 (by decide) rfl (hts _ (List.mem_cons_of_mem _ t_803)) (fun _ h9 => h9) rfl dX11_clear_7 (fun x_2 bx_2 g => ?_)
  refine lv_istore_n (lv' := [(1, .int x_2), (0, .ref a0_)]) hx hb dX11_clear_10 rfl hl (by decide) rfl (fun ls hl => ?_)
  refine lv_aload_n hx hb dX11_clear_11 rfl (lv_at hl 1 rfl) ?_
  refine g_getk (C := RX11) (T := TX11) (N := 8) hx hb hts (mc_ inX11) hown hK g rfl 3 (by decide) rfl (hts _ (List.mem_cons_of_mem _ t_951)) (fun _ h9 => h9) 2 rfl dX11_clear_12 ?_
  have go_ := g
  refine g_callv (va_runV (As := []) (rest := []) ⟨hx, hb, hml, hown, hts⟩ (r_X10_emptyRow l dC dI L kd tys f0 s.heap.size g.2.2.2.1 q0_ mq0_ kq0_ hGPq0_) (cwV 0 hts (gV_ t_1464 t_1465 t_1466 t_194 t_1467) rfl rfl rfl (by decide +kernel) ⟨(Nat.le_of_ble_eq_true rfl), (Nat.le_of_ble_eq_true rfl)⟩) (pre3V g hK mq0_ kq0_ (by decide) (q := (RX10, TX10, 10)) rfl) rfl rfl hl.1 rfl (lv_room (Nat.le_of_ble_eq_true rfl)) dX11_clear_15 ⟨(Nat.le_of_ble_eq_true rfl), (Nat.le_of_ble_eq_true rfl)⟩) g hK (by decide) (by decide) (fx' := [(10, 2, q0_, .ref a_1), (11, 3, a0_, .ref q0_)]) rfl (fun fr_3 H locs hp hMr_3 g => ?_)
  obtain ⟨hG_4, hF_5⟩ := hp
  have g := g.more hF_5
  refine lv_iload_n hx hb dX11_clear_18 rfl (lv_at hl 0 rfl) ?_
  subst hQ
  exact W.iret (v := x_2) hx hb hr (fun t ht hW => ⟨⟨_, _, rfl, ⟨hG_4, bx_2, (g.fcts [0] rfl)⟩, q3_of g hK ht hW⟩, g.2.2.1.F ht⟩) g.2.2.1.2.2 dX11_clear_19
set_option maxHeartbeats 4000000 in
set_option maxRecDepth 100000 in
theorem r_X3_roomForMake (l : Launch) (dC : Nat → ClassId) (dI : Nat → Nat → Nat) (L : List Nat) (kd : Nat → Nat) (tys : List (ClassId × FieldType)) (f0 : Nat → va_E) (sz : Nat) (hWT : WT L kd tys f0) (a0_ : Nat) (ma0_ : a0_ ∈ L) (ka0_ : kd a0_ = 3) : Met l yX3_roomForMake (.code yX3_roomForMake cX3_roomForMake 1 (some .boolean) :: lw_g) ({ frames := 0, cells := 0, slots := 0, locals := 0 }) (va_Pc [.ref a0_] (P3 (dC, dI) L tys f0 sz)) (va_Qi (fun (r : Int32) (f : Nat → va_E) => (r = 0 ∧ True) ∨ (r = 1 ∧ ∃ z0_ : Int32, bd 0 2 z0_ ∧ ∃ z1_ : Int32, bd 0 9 z1_ ∧ Fs L kd f [(3, 4, a0_, .int z0_), (3, 0, a0_, .int z1_)])) (Q3 (dC, dI) L kd tys [] [] f0 sz) (pA L sz)) 0 0 (pA L sz) := by
  refine Met.ofW (cc := cX3_roomForMake) (maxL := 1) (ret := (some .boolean)) (by decide) rfl ?_
  intro p e s m args below meth c s₁ B hml hv
  obtain ⟨rfl, hsz, hP, hK, hD0⟩ := hv
  have hx := B.exec
  have hb := B.bytes
  have hr := B.returns
  have hts := atoms_spec (ws := (.code yX3_roomForMake cX3_roomForMake 1 (some .boolean) :: lw_g)) B.pre
  have hown : s.vm.findClass RX3 = some m.cls := findClass_of_methodNamed B.named
  have hlocks := B.notSynchronized
  subst hsz
  have g : G3 (dC, dI) L kd tys s f0 [] [] f0 s.heap [] [] := G3.start hP hD0 hWT Fs.nil
  have hl := lv_entry ([.ref a0_]) (n := 1) (Nat.le_of_ble_eq_true rfl)
  rw [lg_entry_eq]
  generalize (lg_sl ([.ref a0_]) ++ List.replicate (1 - (lg_sl ([.ref a0_])).length) Slot.unset).toArray = ls at hl ⊢
  have hl : lv_has ls 1 [(0, .ref a0_)] := hl
  refine W_q (fun Q hQ => ?_)
  refine lv_aload_n hx hb dX3_roomForMake_0 rfl (lv_at hl 0 rfl) ?_
  refine g_geti (C := RX3) (T := TX3) (N := 6) hx hb hts (mc_ inX3) hown hK g ma0_ ka0_ (by decide) rfl 0 (by decide) rfl (hts _ (List.mem_cons_of_mem _ t_801)) (fun _ h9 => h9) rfl dX3_roomForMake_1 (fun x_1 bx_1 g => ?_)
  refine lv_bipush (v := 10) hx hb dX3_roomForMake_4 (by decide) ?_
  have kb_10 : bd 10 10 (10 : Int32) := ⟨by decide, by decide⟩
  refine lv_icmp_ge (tgt := 21) hx hb dX3_roomForMake_6 (by decide) (fun c_2 => ?_) (fun c_2 => ?_)
  · have fc_2 := le_f c_2
    have b_3 : bd 10 10 x_1 := leR fc_2 kb_10 bx_1 (by decide)
    refine lv_iconst (v := 0) hx hb dX3_roomForMake_21 (by decide) ?_
    subst hQ
    have kb_0 : bd 0 0 (0 : Int32) := ⟨by decide, by decide⟩
    exact W.zret (v := 0) hx hb hr (nar_z (bd_sub kb_0 (by decide) : bd 0 1 _).1 (bd_sub kb_0 (by decide) : bd 0 1 _).2) (fun t ht hW => ⟨⟨_, _, rfl, Or.inl ⟨rfl, trivial⟩, q3_of g hK ht hW⟩, g.2.2.1.F ht⟩) g.2.2.1.2.2 dX3_roomForMake_22
  · have fc_2 := nle_f c_2
    have b_4 : bd 0 9 x_1 := ltL fc_2 bx_1 kb_10 (by decide)
    refine lv_aload_n hx hb dX3_roomForMake_9 rfl (lv_at hl 0 rfl) ?_
    refine g_geti (C := RX3) (T := TX3) (N := 6) hx hb hts (mc_ inX3) hown hK g ma0_ ka0_ (by decide) rfl 4 (by decide) rfl (hts _ (List.mem_cons_of_mem _ t_813)) (fun _ h9 => h9) rfl dX3_roomForMake_10 (fun x_5 bx_5 g => ?_)
    refine lv_iconst (v := 3) hx hb dX3_roomForMake_13 (by decide) ?_
    have kb_3 : bd 3 3 (3 : Int32) := ⟨by decide, by decide⟩
    refine lv_icmp_ge (tgt := 21) hx hb dX3_roomForMake_14 (by decide) (fun c_6 => ?_) (fun c_6 => ?_)
    · have fc_6 := le_f c_6
      have b_7 : bd 3 3 x_5 := leR fc_6 kb_3 bx_5 (by decide)
      refine lv_iconst (v := 0) hx hb dX3_roomForMake_21 (by decide) ?_
      subst hQ
      have kb_0 : bd 0 0 (0 : Int32) := ⟨by decide, by decide⟩
      exact W.zret (v := 0) hx hb hr (nar_z (bd_sub kb_0 (by decide) : bd 0 1 _).1 (bd_sub kb_0 (by decide) : bd 0 1 _).2) (fun t ht hW => ⟨⟨_, _, rfl, Or.inl ⟨rfl, trivial⟩, q3_of g hK ht hW⟩, g.2.2.1.F ht⟩) g.2.2.1.2.2 dX3_roomForMake_22
    · have fc_6 := nle_f c_6
      have b_8 : bd 0 2 x_5 := ltL fc_6 bx_5 kb_3 (by decide)
      refine lv_iconst (v := 1) hx hb dX3_roomForMake_17 (by decide) ?_
      refine lv_goto (tgt := 22) hx hb dX3_roomForMake_18 (by decide) ?_
      subst hQ
      have kb_1 : bd 1 1 (1 : Int32) := ⟨by decide, by decide⟩
      exact W.zret (v := 1) hx hb hr (nar_z (bd_sub kb_1 (by decide) : bd 0 1 _).1 (bd_sub kb_1 (by decide) : bd 0 1 _).2) (fun t ht hW => ⟨⟨_, _, rfl, Or.inr (⟨rfl, x_5, b_8, x_1, b_4, (g.fcts [0, 1] rfl)⟩), q3_of g hK ht hW⟩, g.2.2.1.F ht⟩) g.2.2.1.2.2 dX3_roomForMake_22
set_option maxHeartbeats 4000000 in
set_option maxRecDepth 100000 in
theorem r_X4_forgetCall (l : Launch) (dC : Nat → ClassId) (dI : Nat → Nat → Nat) (L : List Nat) (kd : Nat → Nat) (tys : List (ClassId × FieldType)) (f0 : Nat → va_E) (sz : Nat) (hWT : WT L kd tys f0) (a0_ : Nat) (ma0_ : a0_ ∈ L) (ka0_ : kd a0_ = 4) (x1_ : Int32) : Met l yX4_forgetCall (.code yX4_forgetCall cX4_forgetCall 2 none :: lw_g) ({ frames := 0, cells := 0, slots := 0, locals := 0 }) (va_Pc [.ref a0_, .int x1_] (P3 (dC, dI) L tys f0 sz)) (va_Qv (fun (f : Nat → va_E) => (True)) (Q3 (dC, dI) L kd tys [] [130, 131] f0 sz) (pA L sz)) 0 0 (pA L sz) := by
  refine Met.ofW (cc := cX4_forgetCall) (maxL := 2) (ret := none) (by decide) rfl ?_
  intro p e s m args below meth c s₁ B hml hv
  obtain ⟨rfl, hsz, hP, hK, hD0⟩ := hv
  have hx := B.exec
  have hb := B.bytes
  have hr := B.returns
  have hts := atoms_spec (ws := (.code yX4_forgetCall cX4_forgetCall 2 none :: lw_g)) B.pre
  have hown : s.vm.findClass RX4 = some m.cls := findClass_of_methodNamed B.named
  have hlocks := B.notSynchronized
  subst hsz
  have g : G3 (dC, dI) L kd tys s f0 [] [130, 131] f0 s.heap [] [] := G3.start hP hD0 hWT Fs.nil
  have hl := lv_entry ([.ref a0_, .int x1_]) (n := 2) (Nat.le_of_ble_eq_true rfl)
  rw [lg_entry_eq]
  generalize (lg_sl ([.ref a0_, .int x1_]) ++ List.replicate (2 - (lg_sl ([.ref a0_, .int x1_])).length) Slot.unset).toArray = ls at hl ⊢
  have hl : lv_has ls 2 [(0, .ref a0_), (1, .int x1_)] := hl
  refine W_q (fun Q hQ => ?_)
  refine lv_iload_n hx hb dX4_forgetCall_0 rfl (lv_at hl 1 rfl) ?_
  have kb_0 : bd 0 0 (0 : Int32) := ⟨by decide, by decide⟩
  refine lv_if_lt (tgt := 24) hx hb dX4_forgetCall_1 (by decide) (fun c_1 => ?_) (fun c_1 => ?_)
  · have fc_1 := lt_f c_1
    have b_2 : bd (-2147483648) (-1) x1_ := ltL fc_1 (bdT x1_) kb_0 (by decide)
    subst hQ
    exact W.vret hx hb hr (fun t ht hW => ⟨⟨_, rfl, trivial, q3_of g hK ht hW⟩, g.2.2.1.F ht⟩) g.2.2.1.2.2 dX4_forgetCall_24
  · have fc_1 := nlt_f c_1
    have b_3 : bd 0 2147483647 x1_ := leR fc_1 kb_0 (bdT x1_) (by decide)
    refine lv_iload_n hx hb dX4_forgetCall_4 rfl (lv_at hl 1 rfl) ?_
    refine lv_bipush (v := 10) hx hb dX4_forgetCall_5 (by decide) ?_
    have kb_10 : bd 10 10 (10 : Int32) := ⟨by decide, by decide⟩
    refine lv_icmp_ge (tgt := 24) hx hb dX4_forgetCall_7 (by decide) (fun c_4 => ?_) (fun c_4 => ?_)
    · have fc_4 := le_f c_4
      have b_5 : bd 10 2147483647 x1_ := leR fc_4 kb_10 b_3 (by decide)
      subst hQ
      exact W.vret hx hb hr (fun t ht hW => ⟨⟨_, rfl, trivial, q3_of g hK ht hW⟩, g.2.2.1.F ht⟩) g.2.2.1.2.2 dX4_forgetCall_24
    · have fc_4 := nle_f c_4
      have b_6 : bd 0 9 x1_ := ltL fc_4 b_3 kb_10 (by decide)
      refine lv_aload_n hx hb dX4_forgetCall_10 rfl (lv_at hl 0 rfl) ?_
      refine g_getr (K := 130) (C := RX4) (T := TX4) (N := 17) hx hb hts (mc_ inX4) hown hK g ma0_ ka0_ (by decide) rfl 12 (by decide) rfl (hts _ (List.mem_cons_of_mem _ t_867)) (fun _ h9 => h9) rfl dX4_forgetCall_11 (fun a_7 ma_7 ka_7 g => ?_)
      refine lv_iload_n hx hb dX4_forgetCall_14 rfl (lv_at hl 1 rfl) ?_
      refine lv_iconst (v := 0) hx hb dX4_forgetCall_15 (by decide) ?_
      refine g_iast hx hb hK g ma_7 ka_7 (by decide) rfl (in_bd b_6 (by decide)) (bd_sub kb_0 (by decide)) (by decide) dX4_forgetCall_16 (fun f H locs hM_8 g => ?_)
      refine lv_aload_n hx hb dX4_forgetCall_17 rfl (lv_at hl 0 rfl) ?_
      refine g_getr (K := 131) (C := RX4) (T := TX4) (N := 17) hx hb hts (mc_ inX4) hown hK g ma0_ ka0_ (by decide) rfl 13 (by decide) rfl (hts _ (List.mem_cons_of_mem _ t_870)) (fun _ h9 => h9) rfl dX4_forgetCall_18 (fun a_9 ma_9 ka_9 g => ?_)
      refine lv_iload_n hx hb dX4_forgetCall_21 rfl (lv_at hl 1 rfl) ?_
      refine lv_iconst (v := 0) hx hb dX4_forgetCall_22 (by decide) ?_
      refine g_iast hx hb hK g ma_9 ka_9 (by decide) rfl (in_bd b_6 (by decide)) (bd_sub kb_0 (by decide)) (by decide) dX4_forgetCall_23 (fun f H locs hM_10 g => ?_)
      subst hQ
      exact W.vret hx hb hr (fun t ht hW => ⟨⟨_, rfl, trivial, q3_of g hK ht hW⟩, g.2.2.1.F ht⟩) g.2.2.1.2.2 dX4_forgetCall_24
set_option maxHeartbeats 4000000 in
set_option maxRecDepth 100000 in
theorem r_X3_setToQ (l : Launch) (dC : Nat → ClassId) (dI : Nat → Nat → Nat) (L : List Nat) (kd : Nat → Nat) (tys : List (ClassId × FieldType)) (f0 : Nat → va_E) (sz : Nat) (hWT : WT L kd tys f0) (a0_ : Nat) (ma0_ : a0_ ∈ L) (ka0_ : kd a0_ = 3) (p_ : Nat) (mp_ : p_ ∈ L) (kp_ : kd p_ = 124) (m_ : Nat) (mm_ : m_ ∈ L) (km_ : kd m_ = 123) (A_ : Nat → Nat) (Q_ : RQ) (n_ : Int32) (bn_ : bd 0 10 n_) (k_ : Int32) (bk_ : bd 0 3 k_) (hJ_ : arP f0 p_ A_) (hQ_ : isQ L kd f0 m_ A_ Q_) (x1_ : Int32) (bx1_ : bd 0 9 x1_) (x2_ : Int32) (bx2_ : bd 0 2 x2_) (x3_ : Int32) (bx3_ : bd (-1) 11 x3_) (x4_ : Int32) (x5_ : Int32) (x6_ : Int32) (hfx : Fs L kd f0 [(3, 0, a0_, .int n_), (3, 4, a0_, .int k_), (3, 2, a0_, .ref m_), (3, 3, a0_, .ref p_)]) : Met l yX3_setTo (.code yX3_setTo cX3_setTo 7 none :: lw_g) ({ frames := 0, cells := 0, slots := 0, locals := 0 }) (va_Pc [.ref a0_, .int x1_, .int x2_, .int x3_, .int x4_, .int x5_, .int x6_] (P3 (dC, dI) L tys f0 sz)) (va_Qv (fun (f : Nat → va_E) => ((rowT L kd f0 f a0_ m_ A_ (fun Q1 n1 k1 => Q1 = RQ.ua (RQ.um Q_ x1_.toNatClampNeg x3_) x1_.toNatClampNeg x4_ ∧ n1 = n_ ∧ k1 = k_)) ∧ True)) (Q3 (dC, dI) L kd tys [] [103, 122, 123] f0 sz) (pA L sz)) 0 0 (pA L sz) := by
  refine Met.ofW (cc := cX3_setTo) (maxL := 7) (ret := none) (by decide) rfl ?_
  intro p e s m args below meth c s₁ B hml hv
  obtain ⟨rfl, hsz, hP, hK, hD0⟩ := hv
  have hx := B.exec
  have hb := B.bytes
  have hr := B.returns
  have hts := atoms_spec (ws := (.code yX3_setTo cX3_setTo 7 none :: lw_g)) B.pre
  have hown : s.vm.findClass RX3 = some m.cls := findClass_of_methodNamed B.named
  have hlocks := B.notSynchronized
  subst hsz
  have g : G3 (dC, dI) L kd tys s f0 [] [103, 122, 123] f0 s.heap [] [(3, 0, a0_, .int n_), (3, 4, a0_, .int k_), (3, 2, a0_, .ref m_), (3, 3, a0_, .ref p_)] := G3.start hP hD0 hWT hfx
  have hl := lv_entry ([.ref a0_, .int x1_, .int x2_, .int x3_, .int x4_, .int x5_, .int x6_]) (n := 7) (Nat.le_of_ble_eq_true rfl)
  rw [lg_entry_eq]
  generalize (lg_sl ([.ref a0_, .int x1_, .int x2_, .int x3_, .int x4_, .int x5_, .int x6_]) ++ List.replicate (7 - (lg_sl ([.ref a0_, .int x1_, .int x2_, .int x3_, .int x4_, .int x5_, .int x6_])).length) Slot.unset).toArray = ls at hl ⊢
  have hl : lv_has ls 7 [(0, .ref a0_), (1, .int x1_), (2, .int x2_), (3, .int x3_), (4, .int x4_), (5, .int x5_), (6, .int x6_)] := hl
  refine W_q (fun Q hQ => ?_)
  have hU_0 : QR L kd f0 f0 a0_ m_ A_ := QR.refl
  refine lv_aload_n hx hb dX3_setTo_0 rfl (lv_at hl 0 rfl) ?_
  refine g_getr (K := 122) (C := RX3) (T := TX3) (N := 6) hx hb hts (mc_ inX3) hown hK g ma0_ ka0_ (by decide) rfl 1 (by decide) rfl (hts _ (List.mem_cons_of_mem _ t_804)) (fun _ h9 => h9) rfl dX3_setTo_1 (fun a_1 ma_1 ka_1 g => ?_)
  refine lv_iload_n hx hb dX3_setTo_4 rfl (lv_at hl 1 rfl) ?_
  refine lv_iload_n hx hb dX3_setTo_5 rfl (lv_at hl 2 rfl) ?_
  have go_ := g
  refine g_iast hx hb hK g ma_1 ka_1 (by decide) rfl (in_bd bx1_ (by decide)) bx2_ (by decide) dX3_setTo_6 (fun f H locs hM_2 g => ?_)
  have hG_3 := isQ.frame hM_2 go_.2.2.2.1 ma0_ ka0_ (by decide) (by decide) hQ_
  have hG_4 := arP.frame hM_2 go_.2.2.2.1 mp_ kp_ (by decide) (by decide) hJ_
  have hG_5 := QR.frame hM_2 go_.2.2.2.1 ma0_ ka0_ (by decide) (by decide) hU_0
  refine lv_aload_n hx hb dX3_setTo_7 rfl (lv_at hl 0 rfl) ?_
  refine g_getk (C := RX3) (T := TX3) (N := 6) hx hb hts (mc_ inX3) hown hK g rfl 2 (by decide) rfl (hts _ (List.mem_cons_of_mem _ t_807)) (fun _ h9 => h9) 3 rfl dX3_setTo_8 ?_
  refine lv_iload_n hx hb dX3_setTo_11 rfl (lv_at hl 1 rfl) ?_
  refine lv_iload_n hx hb dX3_setTo_12 rfl (lv_at hl 3 rfl) ?_
  have go_ := g
  refine g_iastX hx hb hK g mm_ km_ (by decide) rfl (in_bd bx1_ (by decide)) bx3_ (by decide) dX3_setTo_13 (fun f H locs hM_6 u_8 g => ?_)
  have hG_7 := arP.frame hM_6 go_.2.2.2.1 mp_ kp_ (by decide) (by decide) hG_4
  have hQ_9 := isQ.um hG_3 u_8
  have hU_10 := QR.mem hG_5 u_8.1 km_
  refine lv_aload_n hx hb dX3_setTo_14 rfl (lv_at hl 0 rfl) ?_
  refine g_getk (C := RX3) (T := TX3) (N := 6) hx hb hts (mc_ inX3) hown hK g rfl 3 (by decide) rfl (hts _ (List.mem_cons_of_mem _ t_810)) (fun _ h9 => h9) 4 rfl dX3_setTo_15 ?_
  refine lv_iload_n hx hb dX3_setTo_18 rfl (lv_at hl 1 rfl) ?_
  refine g_aaldX hx hb hK g mp_ kp_ (by decide) rfl (by decide) (in_bd bx1_ (by decide)) dX3_setTo_19 (fun a_11 ea_11 ma_11 ua_11 wa_11 => ?_)
  have ka_11 : kd a_11 = 103 := by omega
  have lta_11 : x1_.toNatClampNeg < 10 := in_toNat (in_bd bx1_ (by decide))
  have qa_11 : a_11 = A_ x1_.toNatClampNeg := ea_11.trans (hG_7 _ lta_11)
  refine lv_iconst (v := 0) hx hb dX3_setTo_20 (by decide) ?_
  refine lv_iload hx hb dX3_setTo_21 (lv_at hl 4 rfl) ?_
  have go_ := g
  refine g_iastX hx hb hK g ma_11 ka_11 (by decide) rfl (by unfold vp_in; decide) (bdT x4_) (by decide) dX3_setTo_23 (fun f H locs hM_12 u_14 g => ?_)
  have hG_13 := arP.frame hM_12 go_.2.2.2.1 mp_ kp_ (by decide) (by decide) hG_7
  have hQ_15 := isQ.ua hQ_9 lta_11 qa_11 (by have z9 : (0 : Int32).toNatClampNeg = 0 := (by decide); rw [z9] at u_14; exact u_14)
  have hU_16 := QR.arg hU_10 lta_11 qa_11 u_14.1 ka_11
  refine lv_aload_n hx hb dX3_setTo_24 rfl (lv_at hl 0 rfl) ?_
  refine g_getk (C := RX3) (T := TX3) (N := 6) hx hb hts (mc_ inX3) hown hK g rfl 3 (by decide) rfl (hts _ (List.mem_cons_of_mem _ t_810)) (fun _ h9 => h9) 4 rfl dX3_setTo_25 ?_
  refine lv_iload_n hx hb dX3_setTo_28 rfl (lv_at hl 1 rfl) ?_
  refine g_aaldX hx hb hK g mp_ kp_ (by decide) rfl (by decide) (in_bd bx1_ (by decide)) dX3_setTo_29 (fun a_17 ea_17 ma_17 ua_17 wa_17 => ?_)
  have ka_17 : kd a_17 = 103 := by omega
  have lta_17 : x1_.toNatClampNeg < 10 := in_toNat (in_bd bx1_ (by decide))
  have qa_17 : a_17 = A_ x1_.toNatClampNeg := ea_17.trans (hG_13 _ lta_17)
  refine lv_iconst (v := 1) hx hb dX3_setTo_30 (by decide) ?_
  refine lv_iload hx hb dX3_setTo_31 (lv_at hl 5 rfl) ?_
  have go_ := g
  refine g_iastX hx hb hK g ma_17 ka_17 (by decide) rfl (by unfold vp_in; decide) (bdT x5_) (by decide) dX3_setTo_33 (fun f H locs hM_18 u_20 g => ?_)
  have hG_19 := arP.frame hM_18 go_.2.2.2.1 mp_ kp_ (by decide) (by decide) hG_13
  have hQ_21 := isQ.uk hQ_15 lta_17 qa_17 (by decide) u_20
  have hU_22 := QR.arg hU_16 lta_17 qa_17 u_20.1 ka_17
  refine lv_aload_n hx hb dX3_setTo_34 rfl (lv_at hl 0 rfl) ?_
  refine g_getk (C := RX3) (T := TX3) (N := 6) hx hb hts (mc_ inX3) hown hK g rfl 3 (by decide) rfl (hts _ (List.mem_cons_of_mem _ t_810)) (fun _ h9 => h9) 4 rfl dX3_setTo_35 ?_
  refine lv_iload_n hx hb dX3_setTo_38 rfl (lv_at hl 1 rfl) ?_
  refine g_aaldX hx hb hK g mp_ kp_ (by decide) rfl (by decide) (in_bd bx1_ (by decide)) dX3_setTo_39 (fun a_23 ea_23 ma_23 ua_23 wa_23 => ?_)
  have ka_23 : kd a_23 = 103 := by omega
  have lta_23 : x1_.toNatClampNeg < 10 := in_toNat (in_bd bx1_ (by decide))
  have qa_23 : a_23 = A_ x1_.toNatClampNeg := ea_23.trans (hG_19 _ lta_23)
  refine lv_iconst (v := 2) hx hb dX3_setTo_40 (by decide) ?_
  refine lv_iload hx hb dX3_setTo_41 (lv_at hl 6 rfl) ?_
  have go_ := g
  refine g_iastX hx hb hK g ma_23 ka_23 (by decide) rfl (by unfold vp_in; decide) (bdT x6_) (by decide) dX3_setTo_43 (fun f H locs hM_24 u_26 g => ?_)
  have hG_25 := arP.frame hM_24 go_.2.2.2.1 mp_ kp_ (by decide) (by decide) hG_19
  have hQ_27 := isQ.uk hQ_21 lta_23 qa_23 (by decide) u_26
  have hU_28 := QR.arg hU_22 lta_23 qa_23 u_26.1 ka_23
  subst hQ
  exact W.vret hx hb hr (fun t ht hW => ⟨⟨_, rfl, ⟨⟨(RQ.ua (RQ.um Q_ x1_.toNatClampNeg x3_) x1_.toNatClampNeg x4_), n_, k_, hQ_27, hU_28, (fx_at g (i := 1) rfl).2.2.2, (fx_at g (i := 2) rfl).2.2.2, bn_, bk_, ⟨rfl, rfl, rfl⟩⟩, trivial⟩, q3_of g hK ht hW⟩, g.2.2.1.F ht⟩) g.2.2.1.2.2 dX3_setTo_44
