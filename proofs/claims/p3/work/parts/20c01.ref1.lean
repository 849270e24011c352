set_option maxHeartbeats 4000000 in
set_option maxRecDepth 100000 in
theorem r_X14_feed (l : Launch) (dC : Nat → ClassId) (dI : Nat → Nat → Nat) (L : List Nat) (kd : Nat → Nat) (tys : List (ClassId × FieldType)) (f0 : Nat → va_E) (sz : Nat) (hWT : WT L kd tys f0) (a0_ : Nat) (ma0_ : a0_ ∈ L) (ka0_ : kd a0_ = 14) (x1_ : Int32) (x2_ : Int32) (x3_ : Int32) (x4_ : Int32) (x5_ : Int32) (t_ : Int32) (bt_ : bd 0 4000 t_) (hfx : Fs L kd f0 [(14, 4, a0_, .int t_)]) : Met l yX14_feed (.code yX14_feed cX14_feed 9 (some .int) :: lw_g) ({ frames := 0, cells := 0, slots := 0, locals := 0 }) (va_Pc [.ref a0_, .int x1_, .int x2_, .int x3_, .int x4_, .int x5_] (P3 (dC, dI) L tys f0 sz)) (va_Qi (fun (r : Int32) (f : Nat → va_E) => ((3981 ≤ t_.toInt) ∧ r = (-3) ∧ Fs L kd f [(14, 4, a0_, .int t_)]) ∨ ((r.toInt = t_.toInt + 20 ∧ t_.toInt ≤ 3980) ∧ bd 20 4000 r ∧ ∃ z0_ : Int32, (bd 4 4000 z0_ ∧ z0_.toInt = t_.toInt + 20) ∧ Fs L kd f [(14, 4, a0_, .int z0_)])) (Q3 (dC, dI) L kd tys [(14, 4)] [212] f0 sz) (pA L sz)) 0 0 (pA L sz) := by
  refine Met.ofW (cc := cX14_feed) (maxL := 9) (ret := (some .int)) (by decide) rfl ?_
  intro p e s m args below meth c s₁ B hml hv
  obtain ⟨rfl, hsz, hP, hK, hD0⟩ := hv
  have hx := B.exec
  have hb := B.bytes
  have hr := B.returns
  have hts := atoms_spec (ws := (.code yX14_feed cX14_feed 9 (some .int) :: lw_g)) B.pre
  have hown : s.vm.findClass RX14 = some m.cls := findClass_of_methodNamed B.named
  have hlocks := B.notSynchronized
  subst hsz
  have g : G3 (dC, dI) L kd tys s f0 [(14, 4)] [212] f0 s.heap [] [(14, 4, a0_, .int t_)] := G3.start hP hD0 hWT hfx
  have hl := lv_entry ([.ref a0_, .int x1_, .int x2_, .int x3_, .int x4_, .int x5_]) (n := 9) (Nat.le_of_ble_eq_true rfl)
  rw [lg_entry_eq]
  generalize (lg_sl ([.ref a0_, .int x1_, .int x2_, .int x3_, .int x4_, .int x5_]) ++ List.replicate (9 - (lg_sl ([.ref a0_, .int x1_, .int x2_, .int x3_, .int x4_, .int x5_])).length) Slot.unset).toArray = ls at hl ⊢
  have hl : lv_has ls 9 [(0, .ref a0_), (1, .int x1_), (2, .int x2_), (3, .int x3_), (4, .int x4_), (5, .int x5_)] := hl
  refine W_q (fun Q hQ => ?_)
  refine lv_aload_n hx hb dX14_feed_0 rfl (lv_at hl 0 rfl) ?_
  refine g_getk (C := RX14) (T := TX14) (N := 67) hx hb hts (mc_ inX14) hown hK g rfl 4 (by decide) rfl (hts _ (List.mem_cons_of_mem _ t_2150)) (fun _ h9 => h9) 0 rfl dX14_feed_1 ?_
  refine lv_bipush (v := 20) hx hb dX14_feed_4 (by decide) ?_
  have kb_20 : bd 20 20 (20 : Int32) := ⟨by decide, by decide⟩
  refine lv_iadd hx hb dX14_feed_6 ?_
  refine lv_topi (fun y_1 ey_1 => ?_)
  have ty_1 := add_bd ey_1 bt_ kb_20 (by decide)
  have b_2 : bd 20 4020 y_1 := add_rg ty_1 bt_ kb_20 (by decide)
  refine lv_sipush (v := 4000) hx hb dX14_feed_7 (by decide) ?_
  have kb_4000 : bd 4000 4000 (4000 : Int32) := ⟨by decide, by decide⟩
  refine lv_icmp_le (tgt := 16) hx hb dX14_feed_10 (by decide) (fun c_3 => ?_) (fun c_3 => ?_)
  · have fc_3 := le_f c_3
    have b_4 : bd 20 4000 y_1 := leL fc_3 b_2 kb_4000 (by decide)
    have b_5 : bd 0 3980 t_ := add_inv ty_1 b_4 bt_ kb_20 (by decide)
    refine lv_iconst (v := 0) hx hb dX14_feed_16 (by decide) ?_
    refine lv_istore (lv' := [(6, .int 0), (0, .ref a0_), (1, .int x1_), (2, .int x2_), (3, .int x3_), (4, .int x4_), (5, .int x5_)]) hx hb dX14_feed_17 hl (by decide) rfl (fun ls hl => ?_)
    refine lv_iload hx hb dX14_feed_19 (lv_at hl 0 rfl) ?_
    refine lv_iconst (v := 5) hx hb dX14_feed_21 (by decide) ?_
    refine lv_icmp_ge (tgt := 115) hx hb dX14_feed_22 (by decide) (fun c_ => absurd c_ (by decide)) (fun c_ => ?_)
    refine lv_iload hx hb dX14_feed_25 (lv_at hl 0 rfl) ?_
    refine lv_if_ne (tgt := 34) hx hb dX14_feed_27 (by decide) (fun c_ => absurd c_ (by decide)) (fun c_ => ?_)
    refine lv_iload_n hx hb dX14_feed_30 rfl (lv_at hl 2 rfl) ?_
    refine lv_goto (tgt := 67) hx hb dX14_feed_31 (by decide) ?_
    refine lv_istore (lv' := [(7, .int x1_), (6, .int 0), (0, .ref a0_), (1, .int x1_), (2, .int x2_), (3, .int x3_), (4, .int x4_), (5, .int x5_)]) hx hb dX14_feed_67 hl (by decide) rfl (fun ls hl => ?_)
    refine lv_bipush (v := 24) hx hb dX14_feed_69 (by decide) ?_
    refine lv_istore (lv' := [(8, .int 24), (7, .int x1_), (6, .int 0), (0, .ref a0_), (1, .int x1_), (2, .int x2_), (3, .int x3_), (4, .int x4_), (5, .int x5_)]) hx hb dX14_feed_71 hl (by decide) rfl (fun ls hl => ?_)
    refine lv_iload hx hb dX14_feed_73 (lv_at hl 0 rfl) ?_
    refine lv_if_lt (tgt := 109) hx hb dX14_feed_75 (by decide) (fun c_ => absurd c_ (by decide)) (fun c_ => ?_)
    refine lv_aload_n hx hb dX14_feed_78 rfl (lv_at hl 3 rfl) ?_
    refine g_getr (K := 212) (C := RX14) (T := TX14) (N := 67) hx hb hts (mc_ inX14) hown hK g ma0_ ka0_ (by decide) rfl 3 (by decide) rfl (hts _ (List.mem_cons_of_mem _ t_2149)) (fun _ h9 => h9) rfl dX14_feed_79 (fun a_6 ma_6 ka_6 g => ?_)
    refine lv_aload_n hx hb dX14_feed_82 rfl (lv_at hl 3 rfl) ?_
    refine g_getk (C := RX14) (T := TX14) (N := 67) hx hb hts (mc_ inX14) hown hK g rfl 4 (by decide) rfl (hts _ (List.mem_cons_of_mem _ t_2150)) (fun _ h9 => h9) 1 rfl dX14_feed_83 ?_
    refine lv_iload hx hb dX14_feed_86 (lv_at hl 1 rfl) ?_
    refine lv_iload hx hb dX14_feed_88 (lv_at hl 0 rfl) ?_
    have kb_24 : bd 24 24 (24 : Int32) := ⟨by decide, by decide⟩
    refine lv_ishr hx hb dX14_feed_90 ?_
    refine lv_topi (fun y_7 ey_7 => ?_)
    have b_8 : bd (-128) 127 y_7 := shr_rg ey_7 (bdT x1_) kb_24 (by decide)
    refine lv_i2b hx hb dX14_feed_91 rfl ?_
    refine lv_topi (fun y_9 ey_9 => ?_)
    refine g_bast hx hb hK g ma_6 ka_6 (by decide) rfl (in_bd b_5 (by decide)) (by decide) dX14_feed_92 (fun f H locs hM_10 g => ?_)
    refine lv_aload_n hx hb dX14_feed_93 rfl (lv_at hl 3 rfl) ?_
    refine lv_dup hx hb dX14_feed_94 rfl ?_
    refine g_getk (C := RX14) (T := TX14) (N := 67) hx hb hts (mc_ inX14) hown hK g rfl 4 (by decide) rfl (hts _ (List.mem_cons_of_mem _ t_2150)) (fun _ h9 => h9) 1 rfl dX14_feed_95 ?_
    refine lv_iconst (v := 1) hx hb dX14_feed_98 (by decide) ?_
    have kb_1 : bd 1 1 (1 : Int32) := ⟨by decide, by decide⟩
    refine lv_iadd hx hb dX14_feed_99 ?_
    refine lv_topi (fun y_11 ey_11 => ?_)
    have ty_11 := add_bd ey_11 b_5 kb_1 (by decide)
    have b_12 : bd 1 3981 y_11 := add_rg ty_11 b_5 kb_1 (by decide)
    have qy_11 : y_11.toInt = t_.toInt + 1 := addK ty_11 (Int.add_zero _).symm
    refine g_put (C := RX14) (T := TX14) (N := 67) hx hb hts (mc_ inX14) tyX14 tyX14_ok nmX14 hown hK g ma0_ ka0_ (by decide) rfl 4 (by decide) (hts _ (List.mem_cons_of_mem _ t_2150)) (fun _ h9 => h9) rfl rfl (okV_i (bd_sub b_12 (by decide))) rfl rfl (by decide) (Or.inr (Or.inl (by decide))) (fx' := [(14, 3, a0_, .ref a_6)]) rfl dX14_feed_100 (fun f H locs hM_13 g => ?_)
    refine lv_iinc (v := 16) (lv' := [(8, .int 16), (7, .int x1_), (6, .int 0), (0, .ref a0_), (1, .int x1_), (2, .int x2_), (3, .int x3_), (4, .int x4_), (5, .int x5_)]) hx hb dX14_feed_103 hl (k := 0) rfl (by decide) (by decide) rfl (fun ls hl => ?_)
    refine lv_goto (tgt := 73) hx hb dX14_feed_106 (by decide) ?_
    refine lv_iload hx hb dX14_feed_73 (lv_at hl 0 rfl) ?_
    refine lv_if_lt (tgt := 109) hx hb dX14_feed_75 (by decide) (fun c_ => absurd c_ (by decide)) (fun c_ => ?_)
    refine lv_aload_n hx hb dX14_feed_78 rfl (lv_at hl 3 rfl) ?_
    refine g_getk (C := RX14) (T := TX14) (N := 67) hx hb hts (mc_ inX14) hown hK g rfl 3 (by decide) rfl (hts _ (List.mem_cons_of_mem _ t_2149)) (fun _ h9 => h9) 1 rfl dX14_feed_79 ?_
    refine lv_aload_n hx hb dX14_feed_82 rfl (lv_at hl 3 rfl) ?_
    refine g_getk (C := RX14) (T := TX14) (N := 67) hx hb hts (mc_ inX14) hown hK g rfl 4 (by decide) rfl (hts _ (List.mem_cons_of_mem _ t_2150)) (fun _ h9 => h9) 0 rfl dX14_feed_83 ?_
    refine lv_iload hx hb dX14_feed_86 (lv_at hl 1 rfl) ?_
    refine lv_iload hx hb dX14_feed_88 (lv_at hl 0 rfl) ?_
    have kb_16 : bd 16 16 (16 : Int32) := ⟨by decide, by decide⟩
    refine lv_ishr hx hb dX14_feed_90 ?_
    refine lv_topi (fun y_14 ey_14 => ?_)
    have b_15 : bd (-32768) 32767 y_14 := shr_rg ey_14 (bdT x1_) kb_16 (by decide)
    refine lv_i2b hx hb dX14_feed_91 rfl ?_
    refine lv_topi (fun y_16 ey_16 => ?_)
    refine g_bast hx hb hK g ma_6 ka_6 (by decide) rfl (in_bd b_12 (by decide)) (by decide) dX14_feed_92 (fun f H locs hM_17 g => ?_)
    refine lv_aload_n hx hb dX14_feed_93 rfl (lv_at hl 3 rfl) ?_
    refine lv_dup hx hb dX14_feed_94 rfl ?_
    refine g_getk (C := RX14) (T := TX14) (N := 67) hx hb hts (mc_ inX14) hown hK g rfl 4 (by decide) rfl (hts _ (List.mem_cons_of_mem _ t_2150)) (fun _ h9 => h9) 0 rfl dX14_feed_95 ?_
    refine lv_iconst (v := 1) hx hb dX14_feed_98 (by decide) ?_
    refine lv_iadd hx hb dX14_feed_99 ?_
    refine lv_topi (fun y_18 ey_18 => ?_)
    have ty_18 := add_bd ey_18 b_12 kb_1 (by decide)
    have b_19 : bd 2 3982 y_18 := add_rg ty_18 b_12 kb_1 (by decide)
    have qy_18 : y_18.toInt = t_.toInt + 2 := addK ty_18 qy_11
    refine g_put (C := RX14) (T := TX14) (N := 67) hx hb hts (mc_ inX14) tyX14 tyX14_ok nmX14 hown hK g ma0_ ka0_ (by decide) rfl 4 (by decide) (hts _ (List.mem_cons_of_mem _ t_2150)) (fun _ h9 => h9) rfl rfl (okV_i (bd_sub b_19 (by decide))) rfl rfl (by decide) (Or.inr (Or.inl (by decide))) (fx' := [(14, 3, a0_, .ref a_6)]) rfl dX14_feed_100 (fun f H locs hM_20 g => ?_)
    refine lv_iinc (v := 8) (lv' := [(8, .int 8), (7, .int x1_), (6, .int 0), (0, .ref a0_), (1, .int x1_), (2, .int x2_), (3, .int x3_), (4, .int x4_), (5, .int x5_)]) hx hb dX14_feed_103 hl (k := 0) rfl (by decide) (by decide) rfl (fun ls hl => ?_)
    refine lv_goto (tgt := 73) hx hb dX14_feed_106 (by decide) ?_
    refine lv_iload hx hb dX14_feed_73 (lv_at hl 0 rfl) ?_
    refine lv_if_lt (tgt := 109) hx hb dX14_feed_75 (by decide) (fun c_ => absurd c_ (by decide)) (fun c_ => ?_)
    refine lv_aload_n hx hb dX14_feed_78 rfl (lv_at hl 3 rfl) ?_
    refine g_getk (C := RX14) (T := TX14) (N := 67) hx hb hts (mc_ inX14) hown hK g rfl 3 (by decide) rfl (hts _ (List.mem_cons_of_mem _ t_2149)) (fun _ h9 => h9) 1 rfl dX14_feed_79 ?_
    refine lv_aload_n hx hb dX14_feed_82 rfl (lv_at hl 3 rfl) ?_
    refine g_getk (C := RX14) (T := TX14) (N := 67) hx hb hts (mc_ inX14) hown hK g rfl 4 (by decide) rfl (hts _ (List.mem_cons_of_mem _ t_2150)) (fun _ h9 => h9) 0 rfl dX14_feed_83 ?_
    refine lv_iload hx hb dX14_feed_86 (lv_at hl 1 rfl) ?_
    refine lv_iload hx hb dX14_feed_88 (lv_at hl 0 rfl) ?_
    have kb_8 : bd 8 8 (8 : Int32) := ⟨by decide, by decide⟩
    refine lv_ishr hx hb dX14_feed_90 ?_
    refine lv_topi (fun y_21 ey_21 => ?_)
    have b_22 : bd (-8388608) 8388607 y_21 := shr_rg ey_21 (bdT x1_) kb_8 (by decide)
    refine lv_i2b hx hb dX14_feed_91 rfl ?_
    refine lv_topi (fun y_23 ey_23 => ?_)
    refine g_bast hx hb hK g ma_6 ka_6 (by decide) rfl (in_bd b_19 (by decide)) (by decide) dX14_feed_92 (fun f H locs hM_24 g => ?_)
    refine lv_aload_n hx hb dX14_feed_93 rfl (lv_at hl 3 rfl) ?_
    refine lv_dup hx hb dX14_feed_94 rfl ?_
    refine g_getk (C := RX14) (T := TX14) (N := 67) hx hb hts (mc_ inX14) hown hK g rfl 4 (by decide) rfl (hts _ (List.mem_cons_of_mem _ t_2150)) (fun _ h9 => h9) 0 rfl dX14_feed_95 ?_
    refine lv_iconst (v := 1) hx hb dX14_feed_98 (by decide) ?_
    refine lv_iadd hx hb dX14_feed_99 ?_
    refine lv_topi (fun y_25 ey_25 => ?_)
    have ty_25 := add_bd ey_25 b_19 kb_1 (by decide)
    have b_26 : bd 3 3983 y_25 := add_rg ty_25 b_19 kb_1 (by decide)
    have qy_25 : y_25.toInt = t_.toInt + 3 := addK ty_25 qy_18
    refine g_put (C := RX14) (T := TX14) (N := 67) hx hb hts (mc_ inX14) tyX14 tyX14_ok nmX14 hown hK g ma0_ ka0_ (by decide) rfl 4 (by decide) (hts _ (List.mem_cons_of_mem _ t_2150)) (fun _ h9 => h9) rfl rfl (okV_i (bd_sub b_26 (by decide))) rfl rfl (by decide) (Or.inr (Or.inl (by decide))) (fx' := [(14, 3, a0_, .ref a_6)]) rfl dX14_feed_100 (fun f H locs hM_27 g => ?_)
    refine lv_iinc (v := 0) (lv' := [(8, .int 0), (7, .int x1_), (6, .int 0), (0, .ref a0_), (1, .int x1_), (2, .int x2_), (3, .int x3_), (4, .int x4_), (5, .int x5_)]) hx hb dX14_feed_103 hl (k := 0) rfl (by decide) (by decide) rfl (fun ls hl => ?_)
    refine lv_goto (tgt := 73) hx hb dX14_feed_106 (by decide) ?_
    refine lv_iload hx hb dX14_feed_73 (lv_at hl 0 rfl) ?_
    refine lv_if_lt (tgt := 109) hx hb dX14_feed_75 (by decide) (fun c_ => absurd c_ (by decide)) (fun c_ => ?_)
    refine lv_aload_n hx hb dX14_feed_78 rfl (lv_at hl 3 rfl) ?_
    refine g_getk (C := RX14) (T := TX14) (N := 67) hx hb hts (mc_ inX14) hown hK g rfl 3 (by decide) rfl (hts _ (List.mem_cons_of_mem _ t_2149)) (fun _ h9 => h9) 1 rfl dX14_feed_79 ?_
    refine lv_aload_n hx hb dX14_feed_82 rfl (lv_at hl 3 rfl) ?_
    refine g_getk (C := RX14) (T := TX14) (N := 67) hx hb hts (mc_ inX14) hown hK g rfl 4 (by decide) rfl (hts _ (List.mem_cons_of_mem _ t_2150)) (fun _ h9 => h9) 0 rfl dX14_feed_83 ?_
    refine lv_iload hx hb dX14_feed_86 (lv_at hl 1 rfl) ?_
    refine lv_iload hx hb dX14_feed_88 (lv_at hl 0 rfl) ?_
    have kb_0 : bd 0 0 (0 : Int32) := ⟨by decide, by decide⟩
    refine lv_ishr hx hb dX14_feed_90 ?_
    refine lv_topi (fun y_28 ey_28 => ?_)
    have b_29 : bd (-2147483648) 2147483647 y_28 := shr_rg ey_28 (bdT x1_) kb_0 (by decide)
    refine lv_i2b hx hb dX14_feed_91 rfl ?_
    refine lv_topi (fun y_30 ey_30 => ?_)
    refine g_bast hx hb hK g ma_6 ka_6 (by decide) rfl (in_bd b_26 (by decide)) (by decide) dX14_feed_92 (fun f H locs hM_31 g => ?_)
    refine lv_aload_n hx hb dX14_feed_93 rfl (lv_at hl 3 rfl) ?_
    refine lv_dup hx hb dX14_feed_94 rfl ?_
    refine g_getk (C := RX14) (T := TX14) (N := 67) hx hb hts (mc_ inX14) hown hK g rfl 4 (by decide) rfl (hts _ (List.mem_cons_of_mem _ t_2150)) (fun _ h9 => h9) 0 rfl dX14_feed_95 ?_
    refine lv_iconst (v := 1) hx hb dX14_feed_98 (by decide) ?_
    refine lv_iadd hx hb dX14_feed_99 ?_
    refine lv_topi (fun y_32 ey_32 => ?_)
    have ty_32 := add_bd ey_32 b_26 kb_1 (by decide)
    have b_33 : bd 4 3984 y_32 := add_rg ty_32 b_26 kb_1 (by decide)
    have qy_32 : y_32.toInt = t_.toInt + 4 := addK ty_32 qy_25
    refine g_put (C := RX14) (T := TX14) (N := 67) hx hb hts (mc_ inX14) tyX14 tyX14_ok nmX14 hown hK g ma0_ ka0_ (by decide) rfl 4 (by decide) (hts _ (List.mem_cons_of_mem _ t_2150)) (fun _ h9 => h9) rfl rfl (okV_i (bd_sub b_33 (by decide))) rfl rfl (by decide) (Or.inr (Or.inl (by decide))) (fx' := [(14, 3, a0_, .ref a_6)]) rfl dX14_feed_100 (fun f H locs hM_34 g => ?_)
    refine lv_iinc (v := (-8)) (lv' := [(8, .int (-8)), (7, .int x1_), (6, .int 0), (0, .ref a0_), (1, .int x1_), (2, .int x2_), (3, .int x3_), (4, .int x4_), (5, .int x5_)]) hx hb dX14_feed_103 hl (k := 0) rfl (by decide) (by decide) rfl (fun ls hl => ?_)
    refine lv_goto (tgt := 73) hx hb dX14_feed_106 (by decide) ?_
    refine lv_iload hx hb dX14_feed_73 (lv_at hl 0 rfl) ?_
    refine lv_if_lt (tgt := 109) hx hb dX14_feed_75 (by decide) (fun c_ => ?_) (fun c_ => absurd (by decide) c_)
    refine lv_iinc (v := 1) (lv' := [(6, .int 1), (8, .int (-8)), (7, .int x1_), (0, .ref a0_), (1, .int x1_), (2, .int x2_), (3, .int x3_), (4, .int x4_), (5, .int x5_)]) hx hb dX14_feed_109 hl (k := 2) rfl (by decide) (by decide) rfl (fun ls hl => ?_)
    refine lv_goto (tgt := 19) hx hb dX14_feed_112 (by decide) ?_
    refine lv_iload hx hb dX14_feed_19 (lv_at hl 0 rfl) ?_
    refine lv_iconst (v := 5) hx hb dX14_feed_21 (by decide) ?_
    refine lv_icmp_ge (tgt := 115) hx hb dX14_feed_22 (by decide) (fun c_ => absurd c_ (by decide)) (fun c_ => ?_)
    refine lv_iload hx hb dX14_feed_25 (lv_at hl 0 rfl) ?_
    refine lv_if_ne (tgt := 34) hx hb dX14_feed_27 (by decide) (fun c_ => ?_) (fun c_ => absurd c_ (by decide))
    refine lv_iload hx hb dX14_feed_34 (lv_at hl 0 rfl) ?_
    refine lv_iconst (v := 1) hx hb dX14_feed_36 (by decide) ?_
    refine lv_icmp_ne (tgt := 44) hx hb dX14_feed_37 (by decide) (fun c_ => absurd c_ (by decide)) (fun c_ => ?_)
    refine lv_iload_n hx hb dX14_feed_40 rfl (lv_at hl 5 rfl) ?_
    refine lv_goto (tgt := 67) hx hb dX14_feed_41 (by decide) ?_
    refine lv_istore (lv' := [(7, .int x2_), (6, .int 1), (8, .int (-8)), (0, .ref a0_), (1, .int x1_), (2, .int x2_), (3, .int x3_), (4, .int x4_), (5, .int x5_)]) hx hb dX14_feed_67 hl (by decide) rfl (fun ls hl => ?_)
    refine lv_bipush (v := 24) hx hb dX14_feed_69 (by decide) ?_
    refine lv_istore (lv' := [(8, .int 24), (7, .int x2_), (6, .int 1), (0, .ref a0_), (1, .int x1_), (2, .int x2_), (3, .int x3_), (4, .int x4_), (5, .int x5_)]) hx hb dX14_feed_71 hl (by decide) rfl (fun ls hl => ?_)
    refine lv_iload hx hb dX14_feed_73 (lv_at hl 0 rfl) ?_
    refine lv_if_lt (tgt := 109) hx hb dX14_feed_75 (by decide) (fun c_ => absurd c_ (by decide)) (fun c_ => ?_)
    refine lv_aload_n hx hb dX14_feed_78 rfl (lv_at hl 3 rfl) ?_
    refine g_getk (C := RX14) (T := TX14) (N := 67) hx hb hts (mc_ inX14) hown hK g rfl 3 (by decide) rfl (hts _ (List.mem_cons_of_mem _ t_2149)) (fun _ h9 => h9) 1 rfl dX14_feed_79 ?_
    refine lv_aload_n hx hb dX14_feed_82 rfl (lv_at hl 3 rfl) ?_
    refine g_getk (C := RX14) (T := TX14) (N := 67) hx hb hts (mc_ inX14) hown hK g rfl 4 (by decide) rfl (hts _ (List.mem_cons_of_mem _ t_2150)) (fun _ h9 => h9) 0 rfl dX14_feed_83 ?_
    refine lv_iload hx hb dX14_feed_86 (lv_at hl 1 rfl) ?_
    refine lv_iload hx hb dX14_feed_88 (lv_at hl 0 rfl) ?_
    refine lv_ishr hx hb dX14_feed_90 ?_
    refine lv_topi (fun y_35 ey_35 => ?_)
    have b_36 : bd (-128) 127 y_35 := shr_rg ey_35 (bdT x2_) kb_24 (by decide)
    refine lv_i2b hx hb dX14_feed_91 rfl ?_
    refine lv_topi (fun y_37 ey_37 => ?_)
    refine g_bast hx hb hK g ma_6 ka_6 (by decide) rfl (in_bd b_33 (by decide)) (by decide) dX14_feed_92 (fun f H locs hM_38 g => ?_)
    refine lv_aload_n hx hb dX14_feed_93 rfl (lv_at hl 3 rfl) ?_
    refine lv_dup hx hb dX14_feed_94 rfl ?_
    refine g_getk (C := RX14) (T := TX14) (N := 67) hx hb hts (mc_ inX14) hown hK g rfl 4 (by decide) rfl (hts _ (List.mem_cons_of_mem _ t_2150)) (fun _ h9 => h9) 0 rfl dX14_feed_95 ?_
    refine lv_iconst (v := 1) hx hb dX14_feed_98 (by decide) ?_
    refine lv_iadd hx hb dX14_feed_99 ?_
    refine lv_topi (fun y_39 ey_39 => ?_)
    have ty_39 := add_bd ey_39 b_33 kb_1 (by decide)
    have b_40 : bd 5 3985 y_39 := add_rg ty_39 b_33 kb_1 (by decide)
    have qy_39 : y_39.toInt = t_.toInt + 5 := addK ty_39 qy_32
    refine g_put (C := RX14) (T := TX14) (N := 67) hx hb hts (mc_ inX14) tyX14 tyX14_ok nmX14 hown hK g ma0_ ka0_ (by decide) rfl 4 (by decide) (hts _ (List.mem_cons_of_mem _ t_2150)) (fun _ h9 => h9) rfl rfl (okV_i (bd_sub b_40 (by decide))) rfl rfl (by decide) (Or.inr (Or.inl (by decide))) (fx' := [(14, 3, a0_, .ref a_6)]) rfl dX14_feed_100 (fun f H locs hM_41 g => ?_)
    refine lv_iinc (v := 16) (lv' := [(8, .int 16), (7, .int x2_), (6, .int 1), (0, .ref a0_), (1, .int x1_), (2, .int x2_), (3, .int x3_), (4, .int x4_), (5, .int x5_)]) hx hb dX14_feed_103 hl (k := 0) rfl (by decide) (by decide) rfl (fun ls hl => ?_)
    refine lv_goto (tgt := 73) hx hb dX14_feed_106 (by decide) ?_
    refine lv_iload hx hb dX14_feed_73 (lv_at hl 0 rfl) ?_
    refine lv_if_lt (tgt := 109) hx hb dX14_feed_75 (by decide) (fun c_ => absurd c_ (by decide)) (fun c_ => ?_)
    refine lv_aload_n hx hb dX14_feed_78 rfl (lv_at hl 3 rfl) ?_
    refine g_getk (C := RX14) (T := TX14) (N := 67) hx hb hts (mc_ inX14) hown hK g rfl 3 (by decide) rfl (hts _ (List.mem_cons_of_mem _ t_2149)) (fun _ h9 => h9) 1 rfl dX14_feed_79 ?_
    refine lv_aload_n hx hb dX14_feed_82 rfl (lv_at hl 3 rfl) ?_
    refine g_getk (C := RX14) (T := TX14) (N := 67) hx hb hts (mc_ inX14) hown hK g rfl 4 (by decide) rfl (hts _ (List.mem_cons_of_mem _ t_2150)) (fun _ h9 => h9) 0 rfl dX14_feed_83 ?_
    refine lv_iload hx hb dX14_feed_86 (lv_at hl 1 rfl) ?_
    refine lv_iload hx hb dX14_feed_88 (lv_at hl 0 rfl) ?_
    refine lv_ishr hx hb dX14_feed_90 ?_
    refine lv_topi (fun y_42 ey_42 => ?_)
    have b_43 : bd (-32768) 32767 y_42 := shr_rg ey_42 (bdT x2_) kb_16 (by decide)
    refine lv_i2b hx hb dX14_feed_91 rfl ?_
    refine lv_topi (fun y_44 ey_44 => ?_)
    refine g_bast hx hb hK g ma_6 ka_6 (by decide) rfl (in_bd b_40 (by decide)) (by decide) dX14_feed_92 (fun f H locs hM_45 g => ?_)
    refine lv_aload_n hx hb dX14_feed_93 rfl (lv_at hl 3 rfl) ?_
    refine lv_dup hx hb dX14_feed_94 rfl ?_
    refine g_getk (C := RX14) (T := TX14) (N := 67) hx hb hts (mc_ inX14) hown hK g rfl 4 (by decide) rfl (hts _ (List.mem_cons_of_mem _ t_2150)) (fun _ h9 => h9) 0 rfl dX14_feed_95 ?_
    refine lv_iconst (v := 1) hx hb dX14_feed_98 (by decide) ?_
    refine lv_iadd hx hb dX14_feed_99 ?_
    refine lv_topi (fun y_46 ey_46 => ?_)
    have ty_46 := add_bd ey_46 b_40 kb_1 (by decide)
    have b_47 : bd 6 3986 y_46 := add_rg ty_46 b_40 kb_1 (by decide)
    have qy_46 : y_46.toInt = t_.toInt + 6 := addK ty_46 qy_39
    refine g_put (C := RX14) (T := TX14) (N := 67) hx hb hts (mc_ inX14) tyX14 tyX14_ok nmX14 hown hK g ma0_ ka0_ (by decide) rfl 4 (by decide) (hts _ (List.mem_cons_of_mem _ t_2150)) (fun _ h9 => h9) rfl rfl (okV_i (bd_sub b_47 (by decide))) rfl rfl (by decide) (Or.inr (Or.inl (by decide))) (fx' := [(14, 3, a0_, .ref a_6)]) rfl dX14_feed_100 (fun f H locs hM_48 g => ?_)
    refine lv_iinc (v := 8) (lv' := [(8, .int 8), (7, .int x2_), (6, .int 1), (0, .ref a0_), (1, .int x1_), (2, .int x2_), (3, .int x3_), (4, .int x4_), (5, .int x5_)]) hx hb dX14_feed_103 hl (k := 0) rfl (by decide) (by decide) rfl (fun ls hl => ?_)
    refine lv_goto (tgt := 73) hx hb dX14_feed_106 (by decide) ?_
    refine lv_iload hx hb dX14_feed_73 (lv_at hl 0 rfl) ?_
    refine lv_if_lt (tgt := 109) hx hb dX14_feed_75 (by decide) (fun c_ => absurd c_ (by decide)) (fun c_ => ?_)
    refine lv_aload_n hx hb dX14_feed_78 rfl (lv_at hl 3 rfl) ?_
    refine g_getk (C := RX14) (T := TX14) (N := 67) hx hb hts (mc_ inX14) hown hK g rfl 3 (by decide) rfl (hts _ (List.mem_cons_of_mem _ t_2149)) (fun _ h9 => h9) 1 rfl dX14_feed_79 ?_
    refine lv_aload_n hx hb dX14_feed_82 rfl (lv_at hl 3 rfl) ?_
    refine g_getk (C := RX14) (T := TX14) (N := 67) hx hb hts (mc_ inX14) hown hK g rfl 4 (by decide) rfl (hts _ (List.mem_cons_of_mem _ t_2150)) (fun _ h9 => h9) 0 rfl dX14_feed_83 ?_
    refine lv_iload hx hb dX14_feed_86 (lv_at hl 1 rfl) ?_
    refine lv_iload hx hb dX14_feed_88 (lv_at hl 0 rfl) ?_
    refine lv_ishr hx hb dX14_feed_90 ?_
    refine lv_topi (fun y_49 ey_49 => ?_)
    have b_50 : bd (-8388608) 8388607 y_49 := shr_rg ey_49 (bdT x2_) kb_8 (by decide)
    refine lv_i2b hx hb dX14_feed_91 rfl ?_
    refine lv_topi (fun y_51 ey_51 => ?_)
    refine g_bast hx hb hK g ma_6 ka_6 (by decide) rfl (in_bd b_47 (by decide)) (by decide) dX14_feed_92 (fun f H locs hM_52 g => ?_)
    refine lv_aload_n hx hb dX14_feed_93 rfl (lv_at hl 3 rfl) ?_
    refine lv_dup hx hb dX14_feed_94 rfl ?_
    refine g_getk (C := RX14) (T := TX14) (N := 67) hx hb hts (mc_ inX14) hown hK g rfl 4 (by decide) rfl (hts _ (List.mem_cons_of_mem _ t_2150)) (fun _ h9 => h9) 0 rfl dX14_feed_95 ?_
    refine lv_iconst (v := 1) hx hb dX14_feed_98 (by decide) ?_
    refine lv_iadd hx hb dX14_feed_99 ?_
    refine lv_topi (fun y_53 ey_53 => ?_)
    have ty_53 := add_bd ey_53 b_47 kb_1 (by decide)
    have b_54 : bd 7 3987 y_53 := add_rg ty_53 b_47 kb_1 (by decide)
    have qy_53 : y_53.toInt = t_.toInt + 7 := addK ty_53 qy_46
    refine g_put (C := RX14) (T := TX14) (N := 67) hx hb hts (mc_ inX14) tyX14 tyX14_ok nmX14 hown hK g ma0_ ka0_ (by decide) rfl 4 (by decide) (hts _ (List.mem_cons_of_mem _ t_2150)) (fun _ h9 => h9) rfl rfl (okV_i (bd_sub b_54 (by decide))) rfl rfl (by decide) (Or.inr (Or.inl (by decide))) (fx' := [(14, 3, a0_, .ref a_6)]) rfl dX14_feed_100 (fun f H locs hM_55 g => ?_)
    refine lv_iinc (v := 0) (lv' := [(8, .int 0), (7, .int x2_), (6, .int 1), (0, .ref a0_), (1, .int x1_), (2, .int x2_), (3, .int x3_), (4, .int x4_), (5, .int x5_)]) hx hb dX14_feed_103 hl (k := 0) rfl (by decide) (by decide) rfl (fun ls hl => ?_)
    refine lv_goto (tgt := 73) hx hb dX14_feed_106 (by decide) ?_
    refine lv_iload hx hb dX14_feed_73 (lv_at hl 0 rfl) ?_
    refine lv_if_lt (tgt := 109) hx hb dX14_feed_75 (by decide) (fun c_ => absurd c_ (by decide)) (fun c_ => ?_)
    refine lv_aload_n hx hb dX14_feed_78 rfl (lv_at hl 3 rfl) ?_
    refine g_getk (C := RX14) (T := TX14) (N := 67) hx hb hts (mc_ inX14) hown hK g rfl 3 (by decide) rfl (hts _ (List.mem_cons_of_mem _ t_2149)) (fun _ h9 => h9) 1 rfl dX14_feed_79 ?_
    refine lv_aload_n hx hb dX14_feed_82 rfl (lv_at hl 3 rfl) ?_
    refine g_getk (C := RX14) (T := TX14) (N := 67) hx hb hts (mc_ inX14) hown hK g rfl 4 (by decide) rfl (hts _ (List.mem_cons_of_mem _ t_2150)) (fun _ h9 => h9) 0 rfl dX14_feed_83 ?_
    refine lv_iload hx hb dX14_feed_86 (lv_at hl 1 rfl) ?_
    refine lv_iload hx hb dX14_feed_88 (lv_at hl 0 rfl) ?_
    refine lv_ishr hx hb dX14_feed_90 ?_
    refine lv_topi (fun y_56 ey_56 => ?_)
    have b_57 : bd (-2147483648) 2147483647 y_56 := shr_rg ey_56 (bdT x2_) kb_0 (by decide)
    refine lv_i2b hx hb dX14_feed_91 rfl ?_
    refine lv_topi (fun y_58 ey_58 => ?_)
    refine g_bast hx hb hK g ma_6 ka_6 (by decide) rfl (in_bd b_54 (by decide)) (by decide) dX14_feed_92 (fun f H locs hM_59 g => ?_)
    refine lv_aload_n hx hb dX14_feed_93 rfl (lv_at hl 3 rfl) ?_
    refine lv_dup hx hb dX14_feed_94 rfl ?_
    refine g_getk (C := RX14) (T := TX14) (N := 67) hx hb hts (mc_ inX14) hown hK g rfl 4 (by decide) rfl (hts _ (List.mem_cons_of_mem _ t_2150)) (fun _ h9 => h9) 0 rfl dX14_feed_95 ?_
    refine lv_iconst (v := 1) hx hb dX14_feed_98 (by decide) ?_
    refine lv_iadd hx hb dX14_feed_99 ?_
    refine lv_topi (fun y_60 ey_60 => ?_)
    have ty_60 := add_bd ey_60 b_54 kb_1 (by decide)
    have b_61 : bd 8 3988 y_60 := add_rg ty_60 b_54 kb_1 (by decide)
    have qy_60 : y_60.toInt = t_.toInt + 8 := addK ty_60 qy_53
    refine g_put (C := RX14) (T := TX14) (N := 67) hx hb hts (mc_ inX14) tyX14 tyX14_ok nmX14 hown hK g ma0_ ka0_ (by decide) rfl 4 (by decide) (hts _ (List.mem_cons_of_mem _ t_2150)) (fun _ h9 => h9) rfl rfl (okV_i (bd_sub b_61 (by decide))) rfl rfl (by decide) (Or.inr (Or.inl (by decide))) (fx' := [(14, 3, a0_, .ref a_6)]) rfl dX14_feed_100 (fun f H locs hM_62 g => ?_)
    refine lv_iinc (v := (-8)) (lv' := [(8, .int (-8)), (7, .int x2_), (6, .int 1), (0, .ref a0_), (1, .int x1_), (2, .int x2_), (3, .int x3_), (4, .int x4_), (5, .int x5_)]) hx hb dX14_feed_103 hl (k := 0) rfl (by decide) (by decide) rfl (fun ls hl => ?_)
    refine lv_goto (tgt := 73) hx hb dX14_feed_106 (by decide) ?_
    refine lv_iload hx hb dX14_feed_73 (lv_at hl 0 rfl) ?_
    refine lv_if_lt (tgt := 109) hx hb dX14_feed_75 (by decide) (fun c_ => ?_) (fun c_ => absurd (by decide) c_)
    refine lv_iinc (v := 2) (lv' := [(6, .int 2), (8, .int (-8)), (7, .int x2_), (0, .ref a0_), (1, .int x1_), (2, .int x2_), (3, .int x3_), (4, .int x4_), (5, .int x5_)]) hx hb dX14_feed_109 hl (k := 2) rfl (by decide) (by decide) rfl (fun ls hl => ?_)
    refine lv_goto (tgt := 19) hx hb dX14_feed_112 (by decide) ?_
    refine lv_iload hx hb dX14_feed_19 (lv_at hl 0 rfl) ?_
    refine lv_iconst (v := 5) hx hb dX14_feed_21 (by decide) ?_
    refine lv_icmp_ge (tgt := 115) hx hb dX14_feed_22 (by decide) (fun c_ => absurd c_ (by decide)) (fun c_ => ?_)
    refine lv_iload hx hb dX14_feed_25 (lv_at hl 0 rfl) ?_
    refine lv_if_ne (tgt := 34) hx hb dX14_feed_27 (by decide) (fun c_ => ?_) (fun c_ => absurd c_ (by decide))
    refine lv_iload hx hb dX14_feed_34 (lv_at hl 0 rfl) ?_
    refine lv_iconst (v := 1) hx hb dX14_feed_36 (by decide) ?_
    refine lv_icmp_ne (tgt := 44) hx hb dX14_feed_37 (by decide) (fun c_ => ?_) (fun c_ => absurd c_ (by decide))
    refine lv_iload hx hb dX14_feed_44 (lv_at hl 0 rfl) ?_
    refine lv_iconst (v := 2) hx hb dX14_feed_46 (by decide) ?_
    refine lv_icmp_ne (tgt := 54) hx hb dX14_feed_47 (by decide) (fun c_ => absurd c_ (by decide)) (fun c_ => ?_)
    refine lv_iload_n hx hb dX14_feed_50 rfl (lv_at hl 6 rfl) ?_
    refine lv_goto (tgt := 67) hx hb dX14_feed_51 (by decide) ?_
    refine lv_istore (lv' := [(7, .int x3_), (6, .int 2), (8, .int (-8)), (0, .ref a0_), (1, .int x1_), (2, .int x2_), (3, .int x3_), (4, .int x4_), (5, .int x5_)]) hx hb dX14_feed_67 hl (by decide) rfl (fun ls hl => ?_)
    refine lv_bipush (v := 24) hx hb dX14_feed_69 (by decide) ?_
    refine lv_istore (lv' := [(8, .int 24), (7, .int x3_), (6, .int 2), (0, .ref a0_), (1, .int x1_), (2, .int x2_), (3, .int x3_), (4, .int x4_), (5, .int x5_)]) hx hb dX14_feed_71 hl (by decide) rfl (fun ls hl => ?_)
    refine lv_iload hx hb dX14_feed_73 (lv_at hl 0 rfl) ?_
    refine lv_if_lt (tgt := 109) hx hb dX14_feed_75 (by decide) (fun c_ => absurd c_ (by decide)) (fun c_ => ?_)
    refine lv_aload_n hx hb dX14_feed_78 rfl (lv_at hl 3 rfl) ?_
    refine g_getk (C := RX14) (T := TX14) (N := 67) hx hb hts (mc_ inX14) hown hK g rfl 3 (by decide) rfl (hts _ (List.mem_cons_of_mem _ t_2149)) (fun _ h9 => h9) 1 rfl dX14_feed_79 ?_
    refine lv_aload_n hx hb dX14_feed_82 rfl (lv_at hl 3 rfl) ?_
    refine g_getk (C := RX14) (T := TX14) (N := 67) hx hb hts (mc_ inX14) hown hK g rfl 4 (by decide) rfl (hts _ (List.mem_cons_of_mem _ t_2150)) (fun _ h9 => h9) 0 rfl dX14_feed_83 ?_
    refine lv_iload hx hb dX14_feed_86 (lv_at hl 1 rfl) ?_
    refine lv_iload hx hb dX14_feed_88 (lv_at hl 0 rfl) ?_
    refine lv_ishr hx hb dX14_feed_90 ?_
    refine lv_topi (fun y_63 ey_63 => ?_)
    have b_64 : bd (-128) 127 y_63 := shr_rg ey_63 (bdT x3_) kb_24 (by decide)
    refine lv_i2b hx hb dX14_feed_91 rfl ?_
    refine lv_topi (fun y_65 ey_65 => ?_)
    refine g_bast hx hb hK g ma_6 ka_6 (by decide) rfl (in_bd b_61 (by decide)) (by decide) dX14_feed_92 (fun f H locs hM_66 g => ?_)
    refine lv_aload_n hx hb dX14_feed_93 rfl (lv_at hl 3 rfl) ?_
    refine lv_dup hx hb dX14_feed_94 rfl ?_
    refine g_getk (C := RX14) (T := TX14) (N := 67) hx hb hts (mc_ inX14) hown hK g rfl 4 (by decide) rfl (hts _ (List.mem_cons_of_mem _ t_2150)) (fun _ h9 => h9) 0 rfl dX14_feed_95 ?_
    refine lv_iconst (v := 1) hx hb dX14_feed_98 (by decide) ?_
    refine lv_iadd hx hb dX14_feed_99 ?_
    refine lv_topi (fun y_67 ey_67 => ?_)
    have ty_67 := add_bd ey_67 b_61 kb_1 (by decide)
    have b_68 : bd 9 3989 y_67 := add_rg ty_67 b_61 kb_1 (by decide)
    have qy_67 : y_67.toInt = t_.toInt + 9 := addK ty_67 qy_60
    refine g_put (C := RX14) (T := TX14) (N := 67) hx hb hts (mc_ inX14) tyX14 tyX14_ok nmX14 hown hK g ma0_ ka0_ (by decide) rfl 4 (by decide) (hts _ (List.mem_cons_of_mem _ t_2150)) (fun _ h9 => h9) rfl rfl (okV_i (bd_sub b_68 (by decide))) rfl rfl (by decide) (Or.inr (Or.inl (by decide))) (fx' := [(14, 3, a0_, .ref a_6)]) rfl dX14_feed_100 (fun f H locs hM_69 g => ?_)
    refine lv_iinc (v := 16) (lv' := [(8, .int 16), (7, .int x3_), (6, .int 2), (0, .ref a0_), (1, .int x1_), (2, .int x2_), (3, .int x3_), (4, .int x4_), (5, .int x5_)]) hx hb dX14_feed_103 hl (k := 0) rfl (by decide) (by decide) rfl (fun ls hl => ?_)
    refine lv_goto (tgt := 73) hx hb dX14_feed_106 (by decide) ?_
    refine lv_iload hx hb dX14_feed_73 (lv_at hl 0 rfl) ?_
    refine lv_if_lt (tgt := 109) hx hb dX14_feed_75 (by decide) (fun c_ => absurd c_ (by decide)) (fun c_ => ?_)
    refine lv_aload_n hx hb dX14_feed_78 rfl (lv_at hl 3 rfl) ?_
    refine g_getk (C := RX14) (T := TX14) (N := 67) hx hb hts (mc_ inX14) hown hK g rfl 3 (by decide) rfl (hts _ (List.mem_cons_of_mem _ t_2149)) (fun _ h9 => h9) 1 rfl dX14_feed_79 ?_
    refine lv_aload_n hx hb dX14_feed_82 rfl (lv_at hl 3 rfl) ?_
    refine g_getk (C := RX14) (T := TX14) (N := 67) hx hb hts (mc_ inX14) hown hK g rfl 4 (by decide) rfl (hts _ (List.mem_cons_of_mem _ t_2150)) (fun _ h9 => h9) 0 rfl dX14_feed_83 ?_
    refine lv_iload hx hb dX14_feed_86 (lv_at hl 1 rfl) ?_
    refine lv_iload hx hb dX14_feed_88 (lv_at hl 0 rfl) ?_
    refine lv_ishr hx hb dX14_feed_90 ?_
    refine lv_topi (fun y_70 ey_70 => ?_)
    have b_71 : bd (-32768) 32767 y_70 := shr_rg ey_70 (bdT x3_) kb_16 (by decide)
    refine lv_i2b hx hb dX14_feed_91 rfl ?_
    refine lv_topi (fun y_72 ey_72 => ?_)
    refine g_bast hx hb hK g ma_6 ka_6 (by decide) rfl (in_bd b_68 (by decide)) (by decide) dX14_feed_92 (fun f H locs hM_73 g => ?_)
    refine lv_aload_n hx hb dX14_feed_93 rfl (lv_at hl 3 rfl) ?_
    refine lv_dup hx hb dX14_feed_94 rfl ?_
    refine g_getk (C := RX14) (T := TX14) (N := 67) hx hb hts (mc_ inX14) hown hK g rfl 4 (by decide) rfl (hts _ (List.mem_cons_of_mem _ t_2150)) (fun _ h9 => h9) 0 rfl dX14_feed_95 ?_
    refine lv_iconst (v := 1) hx hb dX14_feed_98 (by decide) ?_
    refine lv_iadd hx hb dX14_feed_99 ?_
    refine lv_topi (fun y_74 ey_74 => ?_)
    have ty_74 := add_bd ey_74 b_68 kb_1 (by decide)
    have b_75 : bd 10 3990 y_74 := add_rg ty_74 b_68 kb_1 (by decide)
    have qy_74 : y_74.toInt = t_.toInt + 10 := addK ty_74 qy_67
    refine g_put (C := RX14) (T := TX14) (N := 67) hx hb hts (mc_ inX14) tyX14 tyX14_ok nmX14 hown hK g ma0_ ka0_ (by decide) rfl 4 (by decide) (hts _ (List.mem_cons_of_mem _ t_2150)) (fun _ h9 => h9) rfl rfl (okV_i (bd_sub b_75 (by decide))) rfl rfl (by decide) (Or.inr (Or.inl (by decide))) (fx' := [(14, 3, a0_, .ref a_6)]) rfl dX14_feed_100 (fun f H locs hM_76 g => ?_)
    refine lv_iinc (v := 8) (lv' := [(8, .int 8), (7, .int x3_), (6, .int 2), (0, .ref a0_), (1, .int x1_), (2, .int x2_), (3, .int x3_), (4, .int x4_), (5, .int x5_)]) hx hb dX14_feed_103 hl (k := 0) rfl (by decide) (by decide) rfl (fun ls hl => ?_)
    refine lv_goto (tgt := 73) hx hb dX14_feed_106 (by decide) ?_
    refine lv_iload hx hb dX14_feed_73 (lv_at hl 0 rfl) ?_
    refine lv_if_lt (tgt := 109) hx hb dX14_feed_75 (by decide) (fun c_ => absurd c_ (by decide)) (fun c_ => ?_)
    refine lv_aload_n hx hb dX14_feed_78 rfl (lv_at hl 3 rfl) ?_
    refine g_getk (C := RX14) (T := TX14) (N := 67) hx hb hts (mc_ inX14) hown hK g rfl 3 (by decide) rfl (hts _ (List.mem_cons_of_mem _ t_2149)) (fun _ h9 => h9) 1 rfl dX14_feed_79 ?_
    refine lv_aload_n hx hb dX14_feed_82 rfl (lv_at hl 3 rfl) ?_
    refine g_getk (C := RX14) (T := TX14) (N := 67) hx hb hts (mc_ inX14) hown hK g rfl 4 (by decide) rfl (hts _ (List.mem_cons_of_mem _ t_2150)) (fun _ h9 => h9) 0 rfl dX14_feed_83 ?_
    refine lv_iload hx hb dX14_feed_86 (lv_at hl 1 rfl) ?_
    refine lv_iload hx hb dX14_feed_88 (lv_at hl 0 rfl) ?_
    refine lv_ishr hx hb dX14_feed_90 ?_
    refine lv_topi (fun y_77 ey_77 => ?_)
    have b_78 : bd (-8388608) 8388607 y_77 := shr_rg ey_77 (bdT x3_) kb_8 (by decide)
    refine lv_i2b hx hb dX14_feed_91 rfl ?_
    refine lv_topi (fun y_79 ey_79 => ?_)
    refine g_bast hx hb hK g ma_6 ka_6 (by decide) rfl (in_bd b_75 (by decide)) (by decide) dX14_feed_92 (fun f H locs hM_80 g => ?_)
    refine lv_aload_n hx hb dX14_feed_93 rfl (lv_at hl 3 rfl) ?_
    refine lv_dup hx hb dX14_feed_94 rfl ?_
    refine g_getk (C := RX14) (T := TX14) (N := 67) hx hb hts (mc_ inX14) hown hK g rfl 4 (by decide) rfl (hts _ (List.mem_cons_of_mem _ t_2150)) (fun _ h9 => h9) 0 rfl dX14_feed_95 ?_
    refine lv_iconst (v := 1) hx hb dX14_feed_98 (by decide) ?_
    refine lv_iadd hx hb dX14_feed_99 ?_
    refine lv_topi (fun y_81 ey_81 => ?_)
    have ty_81 := add_bd ey_81 b_75 kb_1 (by decide)
    have b_82 : bd 11 3991 y_81 := add_rg ty_81 b_75 kb_1 (by decide)
    have qy_81 : y_81.toInt = t_.toInt + 11 := addK ty_81 qy_74
    refine g_put (C := RX14) (T := TX14) (N := 67) hx hb hts (mc_ inX14) tyX14 tyX14_ok nmX14 hown hK g ma0_ ka0_ (by decide) rfl 4 (by decide) (hts _ (List.mem_cons_of_mem _ t_2150)) (fun _ h9 => h9) rfl rfl (okV_i (bd_sub b_82 (by decide))) rfl rfl (by decide) (Or.inr (Or.inl (by decide))) (fx' := [(14, 3, a0_, .ref a_6)]) rfl dX14_feed_100 (fun f H locs hM_83 g => ?_)
    refine lv_iinc (v := 0) (lv' := [(8, .int 0), (7, .int x3_), (6, .int 2), (0, .ref a0_), (1, .int x1_), (2, .int x2_), (3, .int x3_), (4, .int x4_), (5, .int x5_)]) hx hb dX14_feed_103 hl (k := 0) rfl (by decide) (by decide) rfl (fun ls hl => ?_)
    refine lv_goto (tgt := 73) hx hb dX14_feed_106 (by decide) ?_
    refine lv_iload hx hb dX14_feed_73 (lv_at hl 0 rfl) ?_
    refine lv_if_lt (tgt := 109) hx hb dX14_feed_75 (by decide) (fun c_ => absurd c_ (by decide)) (fun c_ => ?_)
    refine lv_aload_n hx hb dX14_feed_78 rfl (lv_at hl 3 rfl) ?_
    refine g_getk (C := RX14) (T := TX14) (N := 67) hx hb hts (mc_ inX14) hown hK g rfl 3 (by decide) rfl (hts _ (List.mem_cons_of_mem _ t_2149)) (fun _ h9 => h9) 1 rfl dX14_feed_79 ?_
    refine lv_aload_n hx hb dX14_feed_82 rfl (lv_at hl 3 rfl) ?_
    refine g_getk (C := RX14) (T := TX14) (N := 67) hx hb hts (mc_ inX14) hown hK g rfl 4 (by decide) rfl (hts _ (List.mem_cons_of_mem _ t_2150)) (fun _ h9 => h9) 0 rfl dX14_feed_83 ?_
    refine lv_iload hx hb dX14_feed_86 (lv_at hl 1 rfl) ?_
    refine lv_iload hx hb dX14_feed_88 (lv_at hl 0 rfl) ?_
    refine lv_ishr hx hb dX14_feed_90 ?_
    refine lv_topi (fun y_84 ey_84 => ?_)
    have b_85 : bd (-2147483648) 2147483647 y_84 := shr_rg ey_84 (bdT x3_) kb_0 (by decide)
    refine lv_i2b hx hb dX14_feed_91 rfl ?_
    refine lv_topi (fun y_86 ey_86 => ?_)
    refine g_bast hx hb hK g ma_6 ka_6 (by decide) rfl (in_bd b_82 (by decide)) (by decide) dX14_feed_92 (fun f H locs hM_87 g => ?_)
    refine lv_aload_n hx hb dX14_feed_93 rfl (lv_at hl 3 rfl) ?_
    refine lv_dup hx hb dX14_feed_94 rfl ?_
    refine g_getk (C := RX14) (T := TX14) (N := 67) hx hb hts (mc_ inX14) hown hK g rfl 4 (by decide) rfl (hts _ (List.mem_cons_of_mem _ t_2150)) (fun _ h9 => h9) 0 rfl dX14_feed_95 ?_
    refine lv_iconst (v := 1) hx hb dX14_feed_98 (by decide) ?_
    refine lv_iadd hx hb dX14_feed_99 ?_
    refine lv_topi (fun y_88 ey_88 => ?_)
    have ty_88 := add_bd ey_88 b_82 kb_1 (by decide)
    have b_89 : bd 12 3992 y_88 := add_rg ty_88 b_82 kb_1 (by decide)
    have qy_88 : y_88.toInt = t_.toInt + 12 := addK ty_88 qy_81
    refine g_put (C := RX14) (T := TX14) (N := 67) hx hb hts (mc_ inX14) tyX14 tyX14_ok nmX14 hown hK g ma0_ ka0_ (by decide) rfl 4 (by decide) (hts _ (List.mem_cons_of_mem _ t_2150)) (fun _ h9 => h9) rfl rfl (okV_i (bd_sub b_89 (by decide))) rfl rfl (by decide) (Or.inr (Or.inl (by decide))) (fx' := [(14, 3, a0_, .ref a_6)]) rfl dX14_feed_100 (fun f H locs hM_90 g => ?_)
    refine lv_iinc (v := (-8)) (lv' := [(8, .int (-8)), (7, .int x3_), (6, .int 2), (0, .ref a0_), (1, .int x1_), (2, .int x2_), (3, .int x3_), (4, .int x4_), (5, .int x5_)]) hx hb dX14_feed_103 hl (k := 0) rfl (by decide) (by decide) rfl (fun ls hl => ?_)
    refine lv_goto (tgt := 73) hx hb dX14_feed_106 (by decide) ?_
    refine lv_iload hx hb dX14_feed_73 (lv_at hl 0 rfl) ?_
    refine lv_if_lt (tgt := 109) hx hb dX14_feed_75 (by decide) (fun c_ => ?_) (fun c_ => absurd (by decide) c_)
    refine lv_iinc (v := 3) (lv' := [(6, .int 3), (8, .int (-8)), (7, .int x3_), (0, .ref a0_), (1, .int x1_), (2, .int x2_), (3, .int x3_), (4, .int x4_), (5, .int x5_)]) hx hb dX14_feed_109 hl (k := 2) rfl (by decide) (by decide) rfl (fun ls hl => ?_)
    refine lv_goto (tgt := 19) hx hb dX14_feed_112 (by decide) ?_
    refine lv_iload hx hb dX14_feed_19 (lv_at hl 0 rfl) ?_
    refine lv_iconst (v := 5) hx hb dX14_feed_21 (by decide) ?_
    refine lv_icmp_ge (tgt := 115) hx hb dX14_feed_22 (by decide) (fun c_ => absurd c_ (by decide)) (fun c_ => ?_)
    refine lv_iload hx hb dX14_feed_25 (lv_at hl 0 rfl) ?_
    refine lv_if_ne (tgt := 34) hx hb dX14_feed_27 (by decide) (fun c_ => ?_) (fun c_ => absurd c_ (by decide))
    refine lv_iload hx hb dX14_feed_34 (lv_at hl 0 rfl) ?_
    refine lv_iconst (v := 1) hx hb dX14_feed_36 (by decide) ?_
    refine lv_icmp_ne (tgt := 44) hx hb dX14_feed_37 (by decide) (fun c_ => ?_) (fun c_ => absurd c_ (by decide))
    refine lv_iload hx hb dX14_feed_44 (lv_at hl 0 rfl) ?_
    refine lv_iconst (v := 2) hx hb dX14_feed_46 (by decide) ?_
    refine lv_icmp_ne (tgt := 54) hx hb dX14_feed_47 (by decide) (fun c_ => ?_) (fun c_ => absurd c_ (by decide))
    refine lv_iload hx hb dX14_feed_54 (lv_at hl 0 rfl) ?_
    refine lv_iconst (v := 3) hx hb dX14_feed_56 (by decide) ?_
    refine lv_icmp_ne (tgt := 65) hx hb dX14_feed_57 (by decide) (fun c_ => absurd c_ (by decide)) (fun c_ => ?_)
    refine lv_iload hx hb dX14_feed_60 (lv_at hl 7 rfl) ?_
    refine lv_goto (tgt := 67) hx hb dX14_feed_62 (by decide) ?_
    refine lv_istore (lv' := [(7, .int x4_), (6, .int 3), (8, .int (-8)), (0, .ref a0_), (1, .int x1_), (2, .int x2_), (3, .int x3_), (4, .int x4_), (5, .int x5_)]) hx hb dX14_feed_67 hl (by decide) rfl (fun ls hl => ?_)
    refine lv_bipush (v := 24) hx hb dX14_feed_69 (by decide) ?_
    refine lv_istore (lv' := [(8, .int 24), (7, .int x4_), (6, .int 3), (0, .ref a0_), (1, .int x1_), (2, .int x2_), (3, .int x3_), (4, .int x4_), (5, .int x5_)]) hx hb dX14_feed_71 hl (by decide) rfl (fun ls hl => ?_)
    refine lv_iload hx hb dX14_feed_73 (lv_at hl 0 rfl) ?_
    refine lv_if_lt (tgt := 109) hx hb dX14_feed_75 (by decide) (fun c_ => absurd c_ (by decide)) (fun c_ => ?_)
    refine lv_aload_n hx hb dX14_feed_78 rfl (lv_at hl 3 rfl) ?_
    refine g_getk (C := RX14) (T := TX14) (N := 67) hx hb hts (mc_ inX14) hown hK g rfl 3 (by decide) rfl (hts _ (List.mem_cons_of_mem _ t_2149)) (fun _ h9 => h9) 1 rfl dX14_feed_79 ?_
    refine lv_aload_n hx hb dX14_feed_82 rfl (lv_at hl 3 rfl) ?_
    refine g_getk (C := RX14) (T := TX14) (N := 67) hx hb hts (mc_ inX14) hown hK g rfl 4 (by decide) rfl (hts _ (List.mem_cons_of_mem _ t_2150)) (fun _ h9 => h9) 0 rfl dX14_feed_83 ?_
    refine lv_iload hx hb dX14_feed_86 (lv_at hl 1 rfl) ?_
    refine lv_iload hx hb dX14_feed_88 (lv_at hl 0 rfl) ?_
    refine lv_ishr hx hb dX14_feed_90 ?_
    refine lv_topi (fun y_91 ey_91 => ?_)
    have b_92 : bd (-128) 127 y_91 := shr_rg ey_91 (bdT x4_) kb_24 (by decide)
    refine lv_i2b hx hb dX14_feed_91 rfl ?_
    refine lv_topi (fun y_93 ey_93 => ?_)
    refine g_bast hx hb hK g ma_6 ka_6 (by decide) rfl (in_bd b_89 (by decide)) (by decide) dX14_feed_92 (fun f H locs hM_94 g => ?_)
    refine lv_aload_n hx hb dX14_feed_93 rfl (lv_at hl 3 rfl) ?_
    refine lv_dup hx hb dX14_feed_94 rfl ?_
    refine g_getk (C := RX14) (T := TX14) (N := 67) hx hb hts (mc_ inX14) hown hK g rfl 4 (by decide) rfl (hts _ (List.mem_cons_of_mem _ t_2150)) (fun _ h9 => h9) 0 rfl dX14_feed_95 ?_
    refine lv_iconst (v := 1) hx hb dX14_feed_98 (by decide) ?_
    refine lv_iadd hx hb dX14_feed_99 ?_
    refine lv_topi (fun y_95 ey_95 => ?_)
    have ty_95 := add_bd ey_95 b_89 kb_1 (by decide)
    have b_96 : bd 13 3993 y_95 := add_rg ty_95 b_89 kb_1 (by decide)
    have qy_95 : y_95.toInt = t_.toInt + 13 := addK ty_95 qy_88
    refine g_put (C := RX14) (T := TX14) (N := 67) hx hb hts (mc_ inX14) tyX14 tyX14_ok nmX14 hown hK g ma0_ ka0_ (by decide) rfl 4 (by decide) (hts _ (List.mem_cons_of_mem _ t_2150)) (fun _ h9 => h9) rfl rfl (okV_i (bd_sub b_96 (by decide))) rfl rfl (by decide) (Or.inr (Or.inl (by decide))) (fx' := [(14, 3, a0_, .ref a_6)]) rfl dX14_feed_100 (fun f H locs hM_97 g => ?_)
    refine lv_iinc (v := 16) (lv' := [(8, .int 16), (7, .int x4_), (6, .int 3), (0, .ref a0_), (1, .int x1_), (2, .int x2_), (3, .int x3_), (4, .int x4_), (5, .int x5_)]) hx hb dX14_feed_103 hl (k := 0) rfl (by decide) (by decide) rfl (fun ls hl => ?_)
    refine lv_goto (tgt := 73) hx hb dX14_feed_106 (by decide) ?_
    refine lv_iload hx hb dX14_feed_73 (lv_at hl 0 rfl) ?_
    refine lv_if_lt (tgt := 109) hx hb dX14_feed_75 (by decide) (fun c_ => absurd c_ (by decide)) (fun c_ => ?_)
    refine lv_aload_n hx hb dX14_feed_78 rfl (lv_at hl 3 rfl) ?_
    refine g_getk (C := RX14) (T := TX14) (N := 67) hx hb hts (mc_ inX14) hown hK g rfl 3 (by decide) rfl (hts _ (List.mem_cons_of_mem _ t_2149)) (fun _ h9 => h9) 1 rfl dX14_feed_79 ?_
    refine lv_aload_n hx hb dX14_feed_82 rfl (lv_at hl 3 rfl) ?_
    refine g_getk (C := RX14) (T := TX14) (N := 67) hx hb hts (mc_ inX14) hown hK g rfl 4 (by decide) rfl (hts _ (List.mem_cons_of_mem _ t_2150)) (fun _ h9 => h9) 0 rfl dX14_feed_83 ?_
    refine lv_iload hx hb dX14_feed_86 (lv_at hl 1 rfl) ?_
    refine lv_iload hx hb dX14_feed_88 (lv_at hl 0 rfl) ?_
    refine lv_ishr hx hb dX14_feed_90 ?_
    refine lv_topi (fun y_98 ey_98 => ?_)
    have b_99 : bd (-32768) 32767 y_98 := shr_rg ey_98 (bdT x4_) kb_16 (by decide)
    refine lv_i2b hx hb dX14_feed_91 rfl ?_
    refine lv_topi (fun y_100 ey_100 => ?_)
    refine g_bast hx hb hK g ma_6 ka_6 (by decide) rfl (in_bd b_96 (by decide)) (by decide) dX14_feed_92 (fun f H locs hM_101 g => ?_)
    refine lv_aload_n hx hb dX14_feed_93 rfl (lv_at hl 3 rfl) ?_
    refine lv_dup hx hb dX14_feed_94 rfl ?_
    refine g_getk (C := RX14) (T := TX14) (N := 67) hx hb hts (mc_ inX14) hown hK g rfl 4 (by decide) rfl (hts _ (List.mem_cons_of_mem _ t_2150)) (fun _ h9 => h9) 0 rfl dX14_feed_95 ?_
    refine lv_iconst (v := 1) hx hb dX14_feed_98 (by decide) ?_
    refine lv_iadd hx hb dX14_feed_99 ?_
    refine lv_topi (fun y_102 ey_102 => ?_)
    have ty_102 := add_bd ey_102 b_96 kb_1 (by decide)
    have b_103 : bd 14 3994 y_102 := add_rg ty_102 b_96 kb_1 (by decide)
    have qy_102 : y_102.toInt = t_.toInt + 14 := addK ty_102 qy_95
    refine g_put (C := RX14) (T := TX14) (N := 67) hx hb hts (mc_ inX14) tyX14 tyX14_ok nmX14 hown hK g ma0_ ka0_ (by decide) rfl 4 (by decide) (hts _ (List.mem_cons_of_mem _ t_2150)) (fun _ h9 => h9) rfl rfl (okV_i (bd_sub b_103 (by decide))) rfl rfl (by decide) (Or.inr (Or.inl (by decide))) (fx' := [(14, 3, a0_, .ref a_6)]) rfl dX14_feed_100 (fun f H locs hM_104 g => ?_)
    refine lv_iinc (v := 8) (lv' := [(8, .int 8), (7, .int x4_), (6, .int 3), (0, .ref a0_), (1, .int x1_), (2, .int x2_), (3, .int x3_), (4, .int x4_), (5, .int x5_)]) hx hb dX14_feed_103 hl (k := 0) rfl (by decide) (by decide) rfl (fun ls hl => ?_)
    refine lv_goto (tgt := 73) hx hb dX14_feed_106 (by decide) ?_
    refine lv_iload hx hb dX14_feed_73 (lv_at hl 0 rfl) ?_
    refine lv_if_lt (tgt := 109) hx hb dX14_feed_75 (by decide) (fun c_ => absurd c_ (by decide)) (fun c_ => ?_)
    refine lv_aload_n hx hb dX14_feed_78 rfl (lv_at hl 3 rfl) ?_
    refine g_getk (C := RX14) (T := TX14) (N := 67) hx hb hts (mc_ inX14) hown hK g rfl 3 (by decide) rfl (hts _ (List.mem_cons_of_mem _ t_2149)) (fun _ h9 => h9) 1 rfl dX14_feed_79 ?_
    refine lv_aload_n hx hb dX14_feed_82 rfl (lv_at hl 3 rfl) ?_
    refine g_getk (C := RX14) (T := TX14) (N := 67) hx hb hts (mc_ inX14) hown hK g rfl 4 (by decide) rfl (hts _ (List.mem_cons_of_mem _ t_2150)) (fun _ h9 => h9) 0 rfl dX14_feed_83 ?_
    refine lv_iload hx hb dX14_feed_86 (lv_at hl 1 rfl) ?_
    refine lv_iload hx hb dX14_feed_88 (lv_at hl 0 rfl) ?_
    refine lv_ishr hx hb dX14_feed_90 ?_
    refine lv_topi (fun y_105 ey_105 => ?_)
    have b_106 : bd (-8388608) 8388607 y_105 := shr_rg ey_105 (bdT x4_) kb_8 (by decide)
    refine lv_i2b hx hb dX14_feed_91 rfl ?_
    refine lv_topi (fun y_107 ey_107 => ?_)
    refine g_bast hx hb hK g ma_6 ka_6 (by decide) rfl (in_bd b_103 (by decide)) (by decide) dX14_feed_92 (fun f H locs hM_108 g => ?_)
    refine lv_aload_n hx hb dX14_feed_93 rfl (lv_at hl 3 rfl) ?_
    refine lv_dup hx hb dX14_feed_94 rfl ?_
    refine g_getk (C := RX14) (T := TX14) (N := 67) hx hb hts (mc_ inX14) hown hK g rfl 4 (by decide) rfl (hts _ (List.mem_cons_of_mem _ t_2150)) (fun _ h9 => h9) 0 rfl dX14_feed_95 ?_
    refine lv_iconst (v := 1) hx hb dX14_feed_98 (by decide) ?_
    refine lv_iadd hx hb dX14_feed_99 ?_
    refine lv_topi (fun y_109 ey_109 => ?_)
    have ty_109 := add_bd ey_109 b_103 kb_1 (by decide)
    have b_110 : bd 15 3995 y_109 := add_rg ty_109 b_103 kb_1 (by decide)
    have qy_109 : y_109.toInt = t_.toInt + 15 := addK ty_109 qy_102
    refine g_put (C := RX14) (T := TX14) (N := 67) hx hb hts (mc_ inX14) tyX14 tyX14_ok nmX14 hown hK g ma0_ ka0_ (by decide) rfl 4 (by decide) (hts _ (List.mem_cons_of_mem _ t_2150)) (fun _ h9 => h9) rfl rfl (okV_i (bd_sub b_110 (by decide))) rfl rfl (by decide) (Or.inr (Or.inl (by decide))) (fx' := [(14, 3, a0_, .ref a_6)]) rfl dX14_feed_100 (fun f H locs hM_111 g => ?_)
    refine lv_iinc (v := 0) (lv' := [(8, .int 0), (7, .int x4_), (6, .int 3), (0, .ref a0_), (1, .int x1_), (2, .int x2_), (3, .int x3_), (4, .int x4_), (5, .int x5_)]) hx hb dX14_feed_103 hl (k := 0) rfl (by decide) (by decide) rfl (fun ls hl => ?_)
    refine lv_goto (tgt := 73) hx hb dX14_feed_106 (by decide) ?_
    refine lv_iload hx hb dX14_feed_73 (lv_at hl 0 rfl) ?_
    refine lv_if_lt (tgt := 109) hx hb dX14_feed_75 (by decide) (fun c_ => absurd c_ (by decide)) (fun c_ => ?_)
    refine lv_aload_n hx hb dX14_feed_78 rfl (lv_at hl 3 rfl) ?_
    refine g_getk (C := RX14) (T := TX14) (N := 67) hx hb hts (mc_ inX14) hown hK g rfl 3 (by decide) rfl (hts _ (List.mem_cons_of_mem _ t_2149)) (fun _ h9 => h9) 1 rfl dX14_feed_79 ?_
    refine lv_aload_n hx hb dX14_feed_82 rfl (lv_at hl 3 rfl) ?_
    refine g_getk (C := RX14) (T := TX14) (N := 67) hx hb hts (mc_ inX14) hown hK g rfl 4 (by decide) rfl (hts _ (List.mem_cons_of_mem _ t_2150)) (fun _ h9 => h9) 0 rfl dX14_feed_83 ?_
    refine lv_iload hx hb dX14_feed_86 (lv_at hl 1 rfl) ?_
    refine lv_iload hx hb dX14_feed_88 (lv_at hl 0 rfl) ?_
    refine lv_ishr hx hb dX14_feed_90 ?_
    refine lv_topi (fun y_112 ey_112 => ?_)
    have b_113 : bd (-2147483648) 2147483647 y_112 := shr_rg ey_112 (bdT x4_) kb_0 (by decide)
    refine lv_i2b hx hb dX14_feed_91 rfl ?_
    refine lv_topi (fun y_114 ey_114 => ?_)
    refine g_bast hx hb hK g ma_6 ka_6 (by decide) rfl (in_bd b_110 (by decide)) (by decide) dX14_feed_92 (fun f H locs hM_115 g => ?_)
    refine lv_aload_n hx hb dX14_feed_93 rfl (lv_at hl 3 rfl) ?_
    refine lv_dup hx hb dX14_feed_94 rfl ?_
    refine g_getk (C := RX14) (T := TX14) (N := 67) hx hb hts (mc_ inX14) hown hK g rfl 4 (by decide) rfl (hts _ (List.mem_cons_of_mem _ t_2150)) (fun _ h9 => h9) 0 rfl dX14_feed_95 ?_
    refine lv_iconst (v := 1) hx hb dX14_feed_98 (by decide) ?_
    refine lv_iadd hx hb dX14_feed_99 ?_
    refine lv_topi (fun y_116 ey_116 => ?_)
    have ty_116 := add_bd ey_116 b_110 kb_1 (by decide)
    have b_117 : bd 16 3996 y_116 := add_rg ty_116 b_110 kb_1 (by decide)
    have qy_116 : y_116.toInt = t_.toInt + 16 := addK ty_116 qy_109
    refine g_put (C := RX14) (T := TX14) (N := 67) hx hb hts (mc_ inX14) tyX14 tyX14_ok nmX14 hown hK g ma0_ ka0_ (by decide) rfl 4 (by decide) (hts _ (List.mem_cons_of_mem _ t_2150)) (fun _ h9 => h9) rfl rfl (okV_i (bd_sub b_117 (by decide))) rfl rfl (by decide) (Or.inr (Or.inl (by decide))) (fx' := [(14, 3, a0_, .ref a_6)]) rfl dX14_feed_100 (fun f H locs hM_118 g => ?_)
    refine lv_iinc (v := (-8)) (lv' := [(8, .int (-8)), (7, .int x4_), (6, .int 3), (0, .ref a0_), (1, .int x1_), (2, .int x2_), (3, .int x3_), (4, .int x4_), (5, .int x5_)]) hx hb dX14_feed_103 hl (k := 0) rfl (by decide) (by decide) rfl (fun ls hl => ?_)
    refine lv_goto (tgt := 73) hx hb dX14_feed_106 (by decide) ?_
    refine lv_iload hx hb dX14_feed_73 (lv_at hl 0 rfl) ?_
    refine lv_if_lt (tgt := 109) hx hb dX14_feed_75 (by decide) (fun c_ => ?_) (fun c_ => absurd (by decide) c_)
    refine lv_iinc (v := 4) (lv' := [(6, .int 4), (8, .int (-8)), (7, .int x4_), (0, .ref a0_), (1, .int x1_), (2, .int x2_), (3, .int x3_), (4, .int x4_), (5, .int x5_)]) hx hb dX14_feed_109 hl (k := 2) rfl (by decide) (by decide) rfl (fun ls hl => ?_)
    refine lv_goto (tgt := 19) hx hb dX14_feed_112 (by decide) ?_
    refine lv_iload hx hb dX14_feed_19 (lv_at hl 0 rfl) ?_
    refine lv_iconst (v := 5) hx hb dX14_feed_21 (by decide) ?_
    refine lv_icmp_ge (tgt := 115) hx hb dX14_feed_22 (by decide) (fun c_ => absurd c_ (by decide)) (fun c_ => ?_)
    refine lv_iload hx hb dX14_feed_25 (lv_at hl 0 rfl) ?_
    refine lv_if_ne (tgt := 34) hx hb dX14_feed_27 (by decide) (fun c_ => ?_) (fun c_ => absurd c_ (by decide))
    refine lv_iload hx hb dX14_feed_34 (lv_at hl 0 rfl) ?_
    refine lv_iconst (v := 1) hx hb dX14_feed_36 (by decide) ?_
    refine lv_icmp_ne (tgt := 44) hx hb dX14_feed_37 (by decide) (fun c_ => ?_) (fun c_ => absurd c_ (by decide))
    refine lv_iload hx hb dX14_feed_44 (lv_at hl 0 rfl) ?_
    refine lv_iconst (v := 2) hx hb dX14_feed_46 (by decide) ?_
    refine lv_icmp_ne (tgt := 54) hx hb dX14_feed_47 (by decide) (fun c_ => ?_) (fun c_ => absurd c_ (by decide))
    refine lv_iload hx hb dX14_feed_54 (lv_at hl 0 rfl) ?_
    refine lv_iconst (v := 3) hx hb dX14_feed_56 (by decide) ?_
    refine lv_icmp_ne (tgt := 65) hx hb dX14_feed_57 (by decide) (fun c_ => ?_) (fun c_ => absurd c_ (by decide))
    refine lv_iload hx hb dX14_feed_65 (lv_at hl 8 rfl) ?_
    refine lv_istore (lv' := [(7, .int x5_), (6, .int 4), (8, .int (-8)), (0, .ref a0_), (1, .int x1_), (2, .int x2_), (3, .int x3_), (4, .int x4_), (5, .int x5_)]) hx hb dX14_feed_67 hl (by decide) rfl (fun ls hl => ?_)
    refine lv_bipush (v := 24) hx hb dX14_feed_69 (by decide) ?_
    refine lv_istore (lv' := [(8, .int 24), (7, .int x5_), (6, .int 4), (0, .ref a0_), (1, .int x1_), (2, .int x2_), (3, .int x3_), (4, .int x4_), (5, .int x5_)]) hx hb dX14_feed_71 hl (by decide) rfl (fun ls hl => ?_)
    refine lv_iload hx hb dX14_feed_73 (lv_at hl 0 rfl) ?_
    refine lv_if_lt (tgt := 109) hx hb dX14_feed_75 (by decide) (fun c_ => absurd c_ (by decide)) (fun c_ => ?_)
    refine lv_aload_n hx hb dX14_feed_78 rfl (lv_at hl 3 rfl) ?_
    refine g_getk (C := RX14) (T := TX14) (N := 67) hx hb hts (mc_ inX14) hown hK g rfl 3 (by decide) rfl (hts _ (List.mem_cons_of_mem _ t_2149)) (fun _ h9 => h9) 1 rfl dX14_feed_79 ?_
    refine lv_aload_n hx hb dX14_feed_82 rfl (lv_at hl 3 rfl) ?_
    refine g_getk (C := RX14) (T := TX14) (N := 67) hx hb hts (mc_ inX14) hown hK g rfl 4 (by decide) rfl (hts _ (List.mem_cons_of_mem _ t_2150)) (fun _ h9 => h9) 0 rfl dX14_feed_83 ?_
    refine lv_iload hx hb dX14_feed_86 (lv_at hl 1 rfl) ?_
    refine lv_iload hx hb dX14_feed_88 (lv_at hl 0 rfl) ?_
    refine lv_ishr hx hb dX14_feed_90 ?_
    refine lv_topi (fun y_119 ey_119 => ?_)
    have b_120 : bd (-128) 127 y_119 := shr_rg ey_119 (bdT x5_) kb_24 (by decide)
    refine lv_i2b hx hb dX14_feed_91 rfl ?_
    refine lv_topi (fun y_121 ey_121 => ?_)
    refine g_bast hx hb hK g ma_6 ka_6 (by decide) rfl (in_bd b_117 (by decide)) (by decide) dX14_feed_92 (fun f H locs hM_122 g => ?_)
    refine lv_aload_n hx hb dX14_feed_93 rfl (lv_at hl 3 rfl) ?_
    refine lv_dup hx hb dX14_feed_94 rfl ?_
    refine g_getk (C := RX14) (T := TX14) (N := 67) hx hb hts (mc_ inX14) hown hK g rfl 4 (by decide) rfl (hts _ (List.mem_cons_of_mem _ t_2150)) (fun _ h9 => h9) 0 rfl dX14_feed_95 ?_
    refine lv_iconst (v := 1) hx hb dX14_feed_98 (by decide) ?_
    refine lv_iadd hx hb dX14_feed_99 ?_
    refine lv_topi (fun y_123 ey_123 => ?_)
    have ty_123 := add_bd ey_123 b_117 kb_1 (by decide)
    have b_124 : bd 17 3997 y_123 := add_rg ty_123 b_117 kb_1 (by decide)
    have qy_123 : y_123.toInt = t_.toInt + 17 := addK ty_123 qy_116
    refine g_put (C := RX14) (T := TX14) (N := 67) hx hb hts (mc_ inX14) tyX14 tyX14_ok nmX14 hown hK g ma0_ ka0_ (by decide) rfl 4 (by decide) (hts _ (List.mem_cons_of_mem _ t_2150)) (fun _ h9 => h9) rfl rfl (okV_i (bd_sub b_124 (by decide))) rfl rfl (by decide) (Or.inr (Or.inl (by decide))) (fx' := [(14, 3, a0_, .ref a_6)]) rfl dX14_feed_100 (fun f H locs hM_125 g => ?_)
    refine lv_iinc (v := 16) (lv' := [(8, .int 16), (7, .int x5_), (6, .int 4), (0, .ref a0_), (1, .int x1_), (2, .int x2_), (3, .int x3_), (4, .int x4_), (5, .int x5_)]) hx hb dX14_feed_103 hl (k := 0) rfl (by decide) (by decide) rfl (fun ls hl => ?_)
    refine lv_goto (tgt := 73) hx hb dX14_feed_106 (by decide) ?_
    refine lv_iload hx hb dX14_feed_73 (lv_at hl 0 rfl) ?_
    refine lv_if_lt (tgt := 109) hx hb dX14_feed_75 (by decide) (fun c_ => absurd c_ (by decide)) (fun c_ => ?_)
    refine lv_aload_n hx hb dX14_feed_78 rfl (lv_at hl 3 rfl) ?_
    refine g_getk (C := RX14) (T := TX14) (N := 67) hx hb hts (mc_ inX14) hown hK g rfl 3 (by decide) rfl (hts _ (List.mem_cons_of_mem _ t_2149)) (fun _ h9 => h9) 1 rfl dX14_feed_79 ?_
    refine lv_aload_n hx hb dX14_feed_82 rfl (lv_at hl 3 rfl) ?_
    refine g_getk (C := RX14) (T := TX14) (N := 67) hx hb hts (mc_ inX14) hown hK g rfl 4 (by decide) rfl (hts _ (List.mem_cons_of_mem _ t_2150)) (fun _ h9 => h9) 0 rfl dX14_feed_83 ?_
    refine lv_iload hx hb dX14_feed_86 (lv_at hl 1 rfl) ?_
    refine lv_iload hx hb dX14_feed_88 (lv_at hl 0 rfl) ?_
    refine lv_ishr hx hb dX14_feed_90 ?_
    refine lv_topi (fun y_126 ey_126 => ?_)
    have b_127 : bd (-32768) 32767 y_126 := shr_rg ey_126 (bdT x5_) kb_16 (by decide)
    refine lv_i2b hx hb dX14_feed_91 rfl ?_
    refine lv_topi (fun y_128 ey_128 => ?_)
    refine g_bast hx hb hK g ma_6 ka_6 (by decide) rfl (in_bd b_124 (by decide)) (by decide) dX14_feed_92 (fun f H locs hM_129 g => ?_)
    refine lv_aload_n hx hb dX14_feed_93 rfl (lv_at hl 3 rfl) ?_
    refine lv_dup hx hb dX14_feed_94 rfl ?_
    refine g_getk (C := RX14) (T := TX14) (N := 67) hx hb hts (mc_ inX14) hown hK g rfl 4 (by decide) rfl (hts _ (List.mem_cons_of_mem _ t_2150)) (fun _ h9 => h9) 0 rfl dX14_feed_95 ?_
    refine lv_iconst (v := 1) hx hb dX14_feed_98 (by decide) ?_
    refine lv_iadd hx hb dX14_feed_99 ?_
    refine lv_topi (fun y_130 ey_130 => ?_)
    have ty_130 := add_bd ey_130 b_124 kb_1 (by decide)
    have b_131 : bd 18 3998 y_130 := add_rg ty_130 b_124 kb_1 (by decide)
    have qy_130 : y_130.toInt = t_.toInt + 18 := addK ty_130 qy_123
    refine g_put (C := RX14) (T := TX14) (N := 67) hx hb hts (mc_ inX14) tyX14 tyX14_ok nmX14 hown hK g ma0_ ka0_ (by decide) rfl 4 (by decide) (hts _ (List.mem_cons_of_mem _ t_2150)) (fun _ h9 => h9) rfl rfl (okV_i (bd_sub b_131 (by decide))) rfl rfl (by decide) (Or.inr (Or.inl (by decide))) (fx' := [(14, 3, a0_, .ref a_6)]) rfl dX14_feed_100 (fun f H locs hM_132 g => ?_)
    refine lv_iinc (v := 8) (lv' := [(8, .int 8), (7, .int x5_), (6, .int 4), (0, .ref a0_), (1, .int x1_), (2, .int x2_), (3, .int x3_), (4, .int x4_), (5, .int x5_)]) hx hb dX14_feed_103 hl (k := 0) rfl (by decide) (by decide) rfl (fun ls hl => ?_)
    refine lv_goto (tgt := 73) hx hb dX14_feed_106 (by decide) ?_
    refine lv_iload hx hb dX14_feed_73 (lv_at hl 0 rfl) ?_
    refine lv_if_lt (tgt := 109) hx hb dX14_feed_75 (by decide) (fun c_ => absurd c_ (by decide)) (fun c_ => ?_)
    refine lv_aload_n hx hb dX14_feed_78 rfl (lv_at hl 3 rfl) ?_
    refine g_getk (C := RX14) (T := TX14) (N := 67) hx hb hts (mc_ inX14) hown hK g rfl 3 (by decide) rfl (hts _ (List.mem_cons_of_mem _ t_2149)) (fun _ h9 => h9) 1 rfl dX14_feed_79 ?_
    refine lv_aload_n hx hb dX14_feed_82 rfl (lv_at hl 3 rfl) ?_
    refine g_getk (C := RX14) (T := TX14) (N := 67) hx hb hts (mc_ inX14) hown hK g rfl 4 (by decide) rfl (hts _ (List.mem_cons_of_mem _ t_2150)) (fun _ h9 => h9) 0 rfl dX14_feed_83 ?_
    refine lv_iload hx hb dX14_feed_86 (lv_at hl 1 rfl) ?_
    refine lv_iload hx hb dX14_feed_88 (lv_at hl 0 rfl) ?_
    refine lv_ishr hx hb dX14_feed_90 ?_
    refine lv_topi (fun y_133 ey_133 => ?_)
    have b_134 : bd (-8388608) 8388607 y_133 := shr_rg ey_133 (bdT x5_) kb_8 (by decide)
    refine lv_i2b hx hb dX14_feed_91 rfl ?_
    refine lv_topi (fun y_135 ey_135 => ?_)
    refine g_bast hx hb hK g ma_6 ka_6 (by decide) rfl (in_bd b_131 (by decide)) (by decide) dX14_feed_92 (fun f H locs hM_136 g => ?_)
    refine lv_aload_n hx hb dX14_feed_93 rfl (lv_at hl 3 rfl) ?_
    refine lv_dup hx hb dX14_feed_94 rfl ?_
    refine g_getk (C := RX14) (T := TX14) (N := 67) hx hb hts (mc_ inX14) hown hK g rfl 4 (by decide) rfl (hts _ (List.mem_cons_of_mem _ t_2150)) (fun _ h9 => h9) 0 rfl dX14_feed_95 ?_
    refine lv_iconst (v := 1) hx hb dX14_feed_98 (by decide) ?_
    refine lv_iadd hx hb dX14_feed_99 ?_
    refine lv_topi (fun y_137 ey_137 => ?_)
    have ty_137 := add_bd ey_137 b_131 kb_1 (by decide)
    have b_138 : bd 19 3999 y_137 := add_rg ty_137 b_131 kb_1 (by decide)
    have qy_137 : y_137.toInt = t_.toInt + 19 := addK ty_137 qy_130
    refine g_put (C := RX14) (T := TX14) (N := 67) hx hb hts (mc_ inX14) tyX14 tyX14_ok nmX14 hown hK g ma0_ ka0_ (by decide) rfl 4 (by decide) (hts _ (List.mem_cons_of_mem _ t_2150)) (fun _ h9 => h9) rfl rfl (okV_i (bd_sub b_138 (by decide))) rfl rfl (by decide) (Or.inr (Or.inl (by decide))) (fx' := [(14, 3, a0_, .ref a_6)]) rfl dX14_feed_100 (fun f H locs hM_139 g => ?_)
    refine lv_iinc (v := 0) (lv' := [(8, .int 0), (7, .int x5_), (6, .int 4), (0, .ref a0_), (1, .int x1_), (2, .int x2_), (3, .int x3_), (4, .int x4_), (5, .int x5_)]) hx hb dX14_feed_103 hl (k := 0) rfl (by decide) (by decide) rfl (fun ls hl => ?_)
    refine lv_goto (tgt := 73) hx hb dX14_feed_106 (by decide) ?_
    refine lv_iload hx hb dX14_feed_73 (lv_at hl 0 rfl) ?_
    refine lv_if_lt (tgt := 109) hx hb dX14_feed_75 (by decide) (fun c_ => absurd c_ (by decide)) (fun c_ => ?_)
    refine lv_aload_n hx hb dX14_feed_78 rfl (lv_at hl 3 rfl) ?_
    refine g_getk (C := RX14) (T := TX14) (N := 67) hx hb hts (mc_ inX14) hown hK g rfl 3 (by decide) rfl (hts _ (List.mem_cons_of_mem _ t_2149)) (fun _ h9 => h9) 1 rfl dX14_feed_79 ?_
    refine lv_aload_n hx hb dX14_feed_82 rfl (lv_at hl 3 rfl) ?_
    refine g_getk (C := RX14) (T := TX14) (N := 67) hx hb hts (mc_ inX14) hown hK g rfl 4 (by decide) rfl (hts _ (List.mem_cons_of_mem _ t_2150)) (fun _ h9 => h9) 0 rfl dX14_feed_83 ?_
    refine lv_iload hx hb dX14_feed_86 (lv_at hl 1 rfl) ?_
    refine lv_iload hx hb dX14_feed_88 (lv_at hl 0 rfl) ?_
    refine lv_ishr hx hb dX14_feed_90 ?_
    refine lv_topi (fun y_140 ey_140 => ?_)
    have b_141 : bd (-2147483648) 2147483647 y_140 := shr_rg ey_140 (bdT x5_) kb_0 (by decide)
    refine lv_i2b hx hb dX14_feed_91 rfl ?_
    refine lv_topi (fun y_142 ey_142 => ?_)
    refine g_bast hx hb hK g ma_6 ka_6 (by decide) rfl (in_bd b_138 (by decide)) (by decide) dX14_feed_92 (fun f H locs hM_143 g => ?_)
    refine lv_aload_n hx hb dX14_feed_93 rfl (lv_at hl 3 rfl) ?_
    refine lv_dup hx hb dX14_feed_94 rfl ?_
    refine g_getk (C := RX14) (T := TX14) (N := 67) hx hb hts (mc_ inX14) hown hK g rfl 4 (by decide) rfl (hts _ (List.mem_cons_of_mem _ t_2150)) (fun _ h9 => h9) 0 rfl dX14_feed_95 ?_
    refine lv_iconst (v := 1) hx hb dX14_feed_98 (by decide) ?_
    refine lv_iadd hx hb dX14_feed_99 ?_
    refine lv_topi (fun y_144 ey_144 => ?_)
    have ty_144 := add_bd ey_144 b_138 kb_1 (by decide)
    have b_145 : bd 20 4000 y_144 := add_rg ty_144 b_138 kb_1 (by decide)
    have qy_144 : y_144.toInt = t_.toInt + 20 := addK ty_144 qy_137
    refine g_put (C := RX14) (T := TX14) (N := 67) hx hb hts (mc_ inX14) tyX14 tyX14_ok nmX14 hown hK g ma0_ ka0_ (by decide) rfl 4 (by decide) (hts _ (List.mem_cons_of_mem _ t_2150)) (fun _ h9 => h9) rfl rfl (okV_i (bd_sub b_145 (by decide))) rfl rfl (by decide) (Or.inr (Or.inl (by decide))) (fx' := [(14, 3, a0_, .ref a_6)]) rfl dX14_feed_100 (fun f H locs hM_146 g => ?_)
    refine lv_iinc (v := (-8)) (lv' := [(8, .int (-8)), (7, .int x5_), (6, .int 4), (0, .ref a0_), (1, .int x1_), (2, .int x2_), (3, .int x3_), (4, .int x4_), (5, .int x5_)]) hx hb dX14_feed_103 hl (k := 0) rfl (by decide) (by decide) rfl (fun ls hl => ?_)
    refine lv_goto (tgt := 73) hx hb dX14_feed_106 (by decide) ?_
    refine lv_iload hx hb dX14_feed_73 (lv_at hl 0 rfl) ?_
    refine lv_if_lt (tgt := 109) hx hb dX14_feed_75 (by decide) (fun c_ => ?_) (fun c_ => absurd (by decide) c_)
    refine lv_iinc (v := 5) (lv' := [(6, .int 5), (8, .int (-8)), (7, .int x5_), (0, .ref a0_), (1, .int x1_), (2, .int x2_), (3, .int x3_), (4, .int x4_), (5, .int x5_)]) hx hb dX14_feed_109 hl (k := 2) rfl (by decide) (by decide) rfl (fun ls hl => ?_)
    refine lv_goto (tgt := 19) hx hb dX14_feed_112 (by decide) ?_
    refine lv_iload hx hb dX14_feed_19 (lv_at hl 0 rfl) ?_
    refine lv_iconst (v := 5) hx hb dX14_feed_21 (by decide) ?_
    refine lv_icmp_ge (tgt := 115) hx hb dX14_feed_22 (by decide) (fun c_ => ?_) (fun c_ => absurd (by decide) c_)
    refine lv_aload_n hx hb dX14_feed_115 rfl (lv_at hl 3 rfl) ?_
    refine g_getk (C := RX14) (T := TX14) (N := 67) hx hb hts (mc_ inX14) hown hK g rfl 4 (by decide) rfl (hts _ (List.mem_cons_of_mem _ t_2150)) (fun _ h9 => h9) 0 rfl dX14_feed_116 ?_
    subst hQ
    exact W.iret (v := y_144) hx hb hr (fun t ht hW => ⟨⟨_, _, rfl, Or.inr (⟨⟨qy_144, b_5.2⟩, b_145, y_144, ⟨(bd_sub b_145 (by decide)), qy_144⟩, (g.fcts [0] rfl)⟩), q3_of g hK ht hW⟩, g.2.2.1.F ht⟩) g.2.2.1.2.2 dX14_feed_119
  · have fc_3 := nle_f c_3
    have b_147 : bd 4001 4020 y_1 := ltR fc_3 kb_4000 b_2 (by decide)
    have b_148 : bd 3981 4000 t_ := add_inv ty_1 b_147 bt_ kb_20 (by decide)
    refine lv_bipush (v := (-3)) hx hb dX14_feed_13 (by decide) ?_
    subst hQ
    exact W.iret (v := (-3)) hx hb hr (fun t ht hW => ⟨⟨_, _, rfl, Or.inl ⟨b_148.1, rfl, (g.fcts [0] rfl)⟩, q3_of g hK ht hW⟩, g.2.2.1.F ht⟩) g.2.2.1.2.2 dX14_feed_15
set_option maxHeartbeats 4000000 in
set_option maxRecDepth 100000 in
theorem r_X14_end (l : Launch) (dC : Nat → ClassId) (dI : Nat → Nat → Nat) (L : List Nat) (kd : Nat → Nat) (tys : List (ClassId × FieldType)) (f0 : Nat → va_E) (sz : Nat) (hWT : WT L kd tys f0) (a0_ : Nat) (ma0_ : a0_ ∈ L) (ka0_ : kd a0_ = 14) (x1_ : Int32) (t_ : Int32) (bt_ : bd 0 4000 t_) (hfx : Fs L kd f0 [(14, 4, a0_, .int t_)]) : Met l yX14_end (.code yX14_end cX14_end 2 (some .int) :: lw_g) ({ frames := 0, cells := 0, slots := 0, locals := 0 }) (va_Pc [.ref a0_, .int x1_] (P3 (dC, dI) L tys f0 sz)) (va_Qi (fun (r : Int32) (f : Nat → va_E) => ((¬ (0 ≤ x1_.toInt ∧ x1_.toInt ≤ t_.toInt)) ∧ r = (-1) ∧ Fs L kd f [(14, 4, a0_, .int t_)]) ∨ ((0 ≤ x1_.toInt ∧ x1_.toInt ≤ t_.toInt) ∧ (r = x1_) ∧ bd 0 4000 r ∧ Fs L kd f [(14, 4, a0_, .int x1_)])) (Q3 (dC, dI) L kd tys [(14, 4)] [] f0 sz) (pA L sz)) 0 0 (pA L sz) := by
  refine Met.ofW (cc := cX14_end) (maxL := 2) (ret := (some .int)) (by decide) rfl ?_
  intro p e s m args below meth c s₁ B hml hv
  obtain ⟨rfl, hsz, hP, hK, hD0⟩ := hv
  have hx := B.exec
  have hb := B.bytes
  have hr := B.returns
  have hts := atoms_spec (ws := (.code yX14_end cX14_end 2 (some .int) :: lw_g)) B.pre
  have hown : s.vm.findClass RX14 = some m.cls := findClass_of_methodNamed B.named
  have hlocks := B.notSynchronized
  subst hsz
  have g : G3 (dC, dI) L kd tys s f0 [(14, 4)] [] f0 s.heap [] [(14, 4, a0_, .int t_)] := G3.start hP hD0 hWT hfx
  have hl := lv_entry ([.ref a0_, .int x1_]) (n := 2) (Nat.le_of_ble_eq_true rfl)
  rw [lg_entry_eq]
  generalize (lg_sl ([.ref a0_, .int x1_]) ++ List.replicate (2 - (lg_sl ([.ref a0_, .int x1_])).length) Slot.unset).toArray = ls at hl ⊢
  have hl : lv_has ls 2 [(0, .ref a0_), (1, .int x1_)] := hl
  refine W_q (fun Q hQ => ?_)
  refine lv_iload_n hx hb dX14_end_0 rfl (lv_at hl 1 rfl) ?_
  have kb_0 : bd 0 0 (0 : Int32) := ⟨by decide, by decide⟩
  refine lv_if_lt (tgt := 12) hx hb dX14_end_1 (by decide) (fun c_1 => ?_) (fun c_1 => ?_)
  · have fc_1 := lt_f c_1
    have b_2 : bd (-2147483648) (-1) x1_ := ltL fc_1 (bdT x1_) kb_0 (by decide)
    refine lv_iconst (v := (-1)) hx hb dX14_end_12 (by decide) ?_
    subst hQ
    exact W.iret (v := (-1)) hx hb hr (fun t ht hW => ⟨⟨_, _, rfl, Or.inl ⟨(by have h9_0 := bt_; unfold bd at h9_0; have h9_1 := b_2; unfold bd at h9_1; have h8_0 := kb_0; unfold bd at h8_0; omega), rfl, (g.fcts [0] rfl)⟩, q3_of g hK ht hW⟩, g.2.2.1.F ht⟩) g.2.2.1.2.2 dX14_end_13
  · have fc_1 := nlt_f c_1
    have b_3 : bd 0 2147483647 x1_ := leR fc_1 kb_0 (bdT x1_) (by decide)
    refine lv_iload_n hx hb dX14_end_4 rfl (lv_at hl 1 rfl) ?_
    refine lv_aload_n hx hb dX14_end_5 rfl (lv_at hl 0 rfl) ?_
    refine g_getk (C := RX14) (T := TX14) (N := 67) hx hb hts (mc_ inX14) hown hK g rfl 4 (by decide) rfl (hts _ (List.mem_cons_of_mem _ t_2150)) (fun _ h9 => h9) 0 rfl dX14_end_6 ?_
    refine lv_icmp_le (tgt := 14) hx hb dX14_end_9 (by decide) (fun c_4 => ?_) (fun c_4 => ?_)
    · have fc_4 := le_f c_4
      have b_5 : bd 0 4000 x1_ := leL fc_4 b_3 bt_ (by decide)
      refine lv_aload_n hx hb dX14_end_14 rfl (lv_at hl 0 rfl) ?_
      refine lv_iload_n hx hb dX14_end_15 rfl (lv_at hl 1 rfl) ?_
      refine g_put (C := RX14) (T := TX14) (N := 67) hx hb hts (mc_ inX14) tyX14 tyX14_ok nmX14 hown hK g ma0_ ka0_ (by decide) rfl 4 (by decide) (hts _ (List.mem_cons_of_mem _ t_2150)) (fun _ h9 => h9) rfl rfl (okV_i b_5) rfl rfl (by decide) (Or.inr (Or.inl (by decide))) (fx' := []) rfl dX14_end_16 (fun f H locs hM_6 g => ?_)
      refine lv_iload_n hx hb dX14_end_19 rfl (lv_at hl 1 rfl) ?_
      subst hQ
      exact W.iret (v := x1_) hx hb hr (fun t ht hW => ⟨⟨_, _, rfl, Or.inr (⟨(by have h9_0 := bt_; unfold bd at h9_0; have h9_1 := b_5; unfold bd at h9_1; have h8_0 := kb_0; unfold bd at h8_0; have h7 := b_5; unfold bd at h7; omega), rfl, b_5, (g.fcts [0] rfl)⟩), q3_of g hK ht hW⟩, g.2.2.1.F ht⟩) g.2.2.1.2.2 dX14_end_20
    · have fc_4 := nle_f c_4
      have b_7 : bd 1 2147483647 x1_ := ltR fc_4 bt_ b_3 (by decide)
      refine lv_iconst (v := (-1)) hx hb dX14_end_12 (by decide) ?_
      subst hQ
      exact W.iret (v := (-1)) hx hb hr (fun t ht hW => ⟨⟨_, _, rfl, Or.inl ⟨(by have h9_0 := bt_; unfold bd at h9_0; have h9_1 := b_7; unfold bd at h9_1; have h8_0 := kb_0; unfold bd at h8_0; omega), rfl, (g.fcts [0] rfl)⟩, q3_of g hK ht hW⟩, g.2.2.1.F ht⟩) g.2.2.1.2.2 dX14_end_13
set_option maxHeartbeats 4000000 in
set_option maxRecDepth 100000 in
theorem r_X14_fault (l : Launch) (dC : Nat → ClassId) (dI : Nat → Nat → Nat) (L : List Nat) (kd : Nat → Nat) (tys : List (ClassId × FieldType)) (f0 : Nat → va_E) (sz : Nat) (hWT : WT L kd tys f0) (a0_ : Nat) (ma0_ : a0_ ∈ L) (ka0_ : kd a0_ = 14) (x1_ : Int32) : Met l yX14_fault (.code yX14_fault cX14_fault 2 (some .int) :: lw_g) ({ frames := 0, cells := 0, slots := 0, locals := 0 }) (va_Pc [.ref a0_, .int x1_] (P3 (dC, dI) L tys f0 sz)) (va_Qi (fun (r : Int32) (f : Nat → va_E) => (True)) (Q3 (dC, dI) L kd tys [] [] f0 sz) (pA L sz)) 0 0 (pA L sz) := by
  refine Met.ofW (cc := cX14_fault) (maxL := 2) (ret := (some .int)) (by decide) rfl ?_
  intro p e s m args below meth c s₁ B hml hv
  obtain ⟨rfl, hsz, hP, hK, hD0⟩ := hv
  have hx := B.exec
  have hb := B.bytes
  have hr := B.returns
  have hts := atoms_spec (ws := (.code yX14_fault cX14_fault 2 (some .int) :: lw_g)) B.pre
  have hown : s.vm.findClass RX14 = some m.cls := findClass_of_methodNamed B.named
  have hlocks := B.notSynchronized
  subst hsz
  have g : G3 (dC, dI) L kd tys s f0 [] [] f0 s.heap [] [] := G3.start hP hD0 hWT Fs.nil
  have hl := lv_entry ([.ref a0_, .int x1_]) (n := 2) (Nat.le_of_ble_eq_true rfl)
  rw [lg_entry_eq]
  generalize (lg_sl ([.ref a0_, .int x1_]) ++ List.replicate (2 - (lg_sl ([.ref a0_, .int x1_])).length) Slot.unset).toArray = ls at hl ⊢
  have hl : lv_has ls 2 [(0, .ref a0_), (1, .int x1_)] := hl
  refine W_q (fun Q hQ => ?_)
  refine lv_iload_n hx hb dX14_fault_0 rfl (lv_at hl 1 rfl) ?_
  have kb_0 : bd 0 0 (0 : Int32) := ⟨by decide, by decide⟩
  refine lv_if_ne (tgt := 11) hx hb dX14_fault_1 (by decide) (fun c_1 => ?_) (fun c_1 => ?_)
  · have fc_1 := neq_f c_1
    refine lv_iload_n hx hb dX14_fault_11 rfl (lv_at hl 1 rfl) ?_
    refine lv_iconst (v := 1) hx hb dX14_fault_12 (by decide) ?_
    have kb_1 : bd 1 1 (1 : Int32) := ⟨by decide, by decide⟩
    refine lv_icmp_ne (tgt := 23) hx hb dX14_fault_13 (by decide) (fun c_2 => ?_) (fun c_2 => ?_)
    · have fc_2 := neq_f c_2
      refine lv_iconst (v := (-1)) hx hb dX14_fault_23 (by decide) ?_
      subst hQ
      exact W.iret (v := (-1)) hx hb hr (fun t ht hW => ⟨⟨_, _, rfl, trivial, q3_of g hK ht hW⟩, g.2.2.1.F ht⟩) g.2.2.1.2.2 dX14_fault_24
    · have fc_2 := eq_f c_2
      have b_3 : bd 1 1 x1_ := eqX fc_2 (bdT x1_) kb_1 (by decide)
      refine lv_aload_n hx hb dX14_fault_16 rfl (lv_at hl 0 rfl) ?_
      refine g_geti (C := RX14) (T := TX14) (N := 67) hx hb hts (mc_ inX14) hown hK g ma0_ ka0_ (by decide) rfl 15 (by decide) rfl (hts _ (List.mem_cons_of_mem _ t_2161)) (fun _ h9 => h9) rfl dX14_fault_17 (fun x_4 bx_4 g => ?_)
      refine lv_goto (tgt := 24) hx hb dX14_fault_20 (by decide) ?_
      subst hQ
      exact W.iret (v := x_4) hx hb hr (fun t ht hW => ⟨⟨_, _, rfl, trivial, q3_of g hK ht hW⟩, g.2.2.1.F ht⟩) g.2.2.1.2.2 dX14_fault_24
  · have fc_1 := eq_f c_1
    have b_5 : bd 0 0 x1_ := eqX fc_1 (bdT x1_) kb_0 (by decide)
    refine lv_aload_n hx hb dX14_fault_4 rfl (lv_at hl 0 rfl) ?_
    refine g_geti (C := RX14) (T := TX14) (N := 67) hx hb hts (mc_ inX14) hown hK g ma0_ ka0_ (by decide) rfl 14 (by decide) rfl (hts _ (List.mem_cons_of_mem _ t_2160)) (fun _ h9 => h9) rfl dX14_fault_5 (fun x_6 bx_6 g => ?_)
    refine lv_goto (tgt := 24) hx hb dX14_fault_8 (by decide) ?_
    subst hQ
    exact W.iret (v := x_6) hx hb hr (fun t ht hW => ⟨⟨_, _, rfl, trivial, q3_of g hK ht hW⟩, g.2.2.1.F ht⟩) g.2.2.1.2.2 dX14_fault_24
set_option maxHeartbeats 4000000 in
set_option maxRecDepth 100000 in
theorem r_X14_isClass (l : Launch) (dC : Nat → ClassId) (dI : Nat → Nat → Nat) (L : List Nat) (kd : Nat → Nat) (tys : List (ClassId × FieldType)) (f0 : Nat → va_E) (sz : Nat) (hWT : WT L kd tys f0) (a0_ : Nat) (ma0_ : a0_ ∈ L) (ka0_ : kd a0_ = 14) (x1_ : Int32) : Met l yX14_isClass (.code yX14_isClass cX14_isClass 2 (some .boolean) :: lw_g) ({ frames := 1, cells := 0, slots := 0, locals := 25 }) (va_Pc [.ref a0_, .int x1_] (P3 (dC, dI) L tys f0 sz)) (va_Qi (fun (r : Int32) (f : Nat → va_E) => (r = 0 ∧ True) ∨ (r = 1 ∧ bd 0 7 x1_ ∧ True)) (Q3 (dC, dI) L kd tys [] [] f0 sz) (pA L sz)) 0 0 (pA L sz) := by
  refine Met.ofW (cc := cX14_isClass) (maxL := 2) (ret := (some .boolean)) (by decide) rfl ?_
  intro p e s m args below meth c s₁ B hml hv
  obtain ⟨rfl, hsz, hP, hK, hD0⟩ := hv
  have hx := B.exec
  have hb := B.bytes
  have hr := B.returns
  have hts := atoms_spec (ws := (.code yX14_isClass cX14_isClass 2 (some .boolean) :: lw_g)) B.pre
  have hown : s.vm.findClass RX14 = some m.cls := findClass_of_methodNamed B.named
  have hlocks := B.notSynchronized
  subst hsz
  have g : G3 (dC, dI) L kd tys s f0 [] [] f0 s.heap [] [] := G3.start hP hD0 hWT Fs.nil
  have hl := lv_entry ([.ref a0_, .int x1_]) (n := 2) (Nat.le_of_ble_eq_true rfl)
  rw [lg_entry_eq]
  generalize (lg_sl ([.ref a0_, .int x1_]) ++ List.replicate (2 - (lg_sl ([.ref a0_, .int x1_])).length) Slot.unset).toArray = ls at hl ⊢
  have hl : lv_has ls 2 [(0, .ref a0_), (1, .int x1_)] := hl
  refine W_q (fun Q hQ => ?_)
  refine lv_iload_n hx hb dX14_isClass_0 rfl (lv_at hl 1 rfl) ?_
  refine lv_i2l hx hb dX14_isClass_1 rfl ?_
  refine lv_topl (fun y_1 ey_1 => ?_)
  refine lv_lconst (v := 0) hx hb dX14_isClass_2 (by decide) ?_
  refine lv_aload_n hx hb dX14_isClass_3 rfl (lv_at hl 0 rfl) ?_
  refine g_getr (K := 12) (C := RX14) (T := TX14) (N := 67) hx hb hts (mc_ inX14) hown hK g ma0_ ka0_ (by decide) rfl 1 (by decide) rfl (hts _ (List.mem_cons_of_mem _ t_2147)) (fun _ h9 => h9) rfl dX14_isClass_4 (fun a_2 ma_2 ka_2 g => ?_)
  refine g_geti (C := RX12) (T := TX12) (N := 60) hx hb hts (mc_ inX12) hown hK g ma_2 ka_2 (by decide) rfl 0 (by decide) rfl (hts _ (List.mem_cons_of_mem _ t_1906)) (fun _ h9 => h9) rfl dX14_isClass_7 (fun x_3 bx_3 g => ?_)
  refine lv_iconst (v := 1) hx hb dX14_isClass_10 (by decide) ?_
  have kb_1 : bd 1 1 (1 : Int32) := ⟨by decide, by decide⟩
  refine lv_isub hx hb dX14_isClass_11 ?_
  refine lv_topi (fun y_4 ey_4 => ?_)
  have ty_4 := sub_bd ey_4 bx_3 kb_1 (by decide)
  have b_5 : bd (-1) 7 y_4 := sub_rg ty_4 bx_3 kb_1 (by decide)
  refine lv_i2l hx hb dX14_isClass_12 rfl ?_
  refine lv_topl (fun y_6 ey_6 => ?_)
  refine g_calli (va_runS (As := [.long y_1, .long 0, .long y_6]) (rest := []) ⟨hx, hb, hml, hown, hts⟩ (r_X14_in l dC dI L kd tys f0 s.heap.size g.2.2.2.1 y_1 0 y_6) (va_cwS 3 hts (gS_ t_2448 t_2449 t_198 t_2450) rfl rfl rfl (by decide +kernel) ⟨(Nat.le_of_ble_eq_true rfl), (Nat.le_of_ble_eq_true rfl)⟩) (pre3S g hK) rfl rfl hl.1 rfl (lv_room (Nat.le_of_ble_eq_true rfl)) dX14_isClass_13 ⟨(Nat.le_of_ble_eq_true rfl), (Nat.le_of_ble_eq_true rfl)⟩) g hK (by decide) (by decide) (fx' := [(12, 0, a_2, .int x_3), (14, 1, a0_, .ref a_2)]) rfl (fun r_7 fr_7 H locs hp hMr_7 g => ?_)
  rcases hp with ⟨hx_8, h_9, -⟩ | ⟨h_10, h_11, -⟩
  · obtain rfl : r_7 = 0 := h_9
    subst hQ
    have kb_0 : bd 0 0 (0 : Int32) := ⟨by decide, by decide⟩
    exact W.zret (v := 0) hx hb hr (nar_z (bd_sub kb_0 (by decide) : bd 0 1 _).1 (bd_sub kb_0 (by decide) : bd 0 1 _).2) (fun t ht hW => ⟨⟨_, _, rfl, Or.inl ⟨rfl, trivial⟩, q3_of g hK ht hW⟩, g.2.2.1.F ht⟩) g.2.2.1.2.2 dX14_isClass_16
  · obtain rfl : r_7 = 1 := h_10
    have f_12 : (0 : Int32).toInt ≤ x1_.toInt := in_le h_11.1 (in_k (k := 0) (by decide) (by decide)) (in_v ey_1)
    have f_13 : x1_.toInt ≤ y_4.toInt := in_le h_11.2 (in_v ey_1) (in_v ey_6)
    have kb_0 : bd 0 0 (0 : Int32) := ⟨by decide, by decide⟩
    have b_14 : bd 0 2147483647 x1_ := leR f_12 kb_0 (bdT x1_) (by decide)
    have b_15 : bd 0 7 x1_ := leL f_13 b_14 b_5 (by decide)
    have b_16 : bd 0 7 y_4 := leR f_13 b_14 b_5 (by decide)
    have b_17 : bd 1 8 x_3 := sub_inv ty_4 b_16 bx_3 kb_1 (by decide)
    subst hQ
    exact W.zret (v := 1) hx hb hr (nar_z (bd_sub kb_1 (by decide) : bd 0 1 _).1 (bd_sub kb_1 (by decide) : bd 0 1 _).2) (fun t ht hW => ⟨⟨_, _, rfl, Or.inr (⟨rfl, b_15, trivial⟩), q3_of g hK ht hW⟩, g.2.2.1.F ht⟩) g.2.2.1.2.2 dX14_isClass_16
set_option maxHeartbeats 4000000 in
set_option maxRecDepth 100000 in
theorem r_X14_about (l : Launch) (dC : Nat → ClassId) (dI : Nat → Nat → Nat) (L : List Nat) (kd : Nat → Nat) (tys : List (ClassId × FieldType)) (f0 : Nat → va_E) (sz : Nat) (hWT : WT L kd tys f0) (a0_ : Nat) (ma0_ : a0_ ∈ L) (ka0_ : kd a0_ = 14) (x1_ : Int32) (x2_ : Int32) : Met l yX14_about (.code yX14_about cX14_about 3 (some .int) :: lw_g) ({ frames := 2, cells := 0, slots := 0, locals := 46 }) (va_Pc [.ref a0_, .int x1_, .int x2_] (P3 (dC, dI) L tys f0 sz)) (va_Qi (fun (r : Int32) (f : Nat → va_E) => (bd (-1) 24 r ∧ True)) (Q3 (dC, dI) L kd tys [] [] f0 sz) (pA L sz)) 0 0 (pA L sz) := by
  refine Met.ofW (cc := cX14_about) (maxL := 3) (ret := (some .int)) (by decide) rfl ?_
  intro p e s m args below meth c s₁ B hml hv
  obtain ⟨rfl, hsz, hP, hK, hD0⟩ := hv
  have hx := B.exec
  have hb := B.bytes
  have hr := B.returns
  have hts := atoms_spec (ws := (.code yX14_about cX14_about 3 (some .int) :: lw_g)) B.pre
  have hown : s.vm.findClass RX14 = some m.cls := findClass_of_methodNamed B.named
  have hlocks := B.notSynchronized
  subst hsz
  have g : G3 (dC, dI) L kd tys s f0 [] [] f0 s.heap [] [] := G3.start hP hD0 hWT Fs.nil
  have hl := lv_entry ([.ref a0_, .int x1_, .int x2_]) (n := 3) (Nat.le_of_ble_eq_true rfl)
  rw [lg_entry_eq]
  generalize (lg_sl ([.ref a0_, .int x1_, .int x2_]) ++ List.replicate (3 - (lg_sl ([.ref a0_, .int x1_, .int x2_])).length) Slot.unset).toArray = ls at hl ⊢
  have hl : lv_has ls 3 [(0, .ref a0_), (1, .int x1_), (2, .int x2_)] := hl
  refine W_q (fun Q hQ => ?_)
  refine lv_aload_n hx hb dX14_about_0 rfl (lv_at hl 0 rfl) ?_
  refine lv_iload_n hx hb dX14_about_1 rfl (lv_at hl 1 rfl) ?_
  refine g_calli (va_runV (As := [.int x1_]) (rest := []) ⟨hx, hb, hml, hown, hts⟩ (r_X14_isClass l dC dI L kd tys f0 s.heap.size g.2.2.2.1 a0_ ma0_ ka0_ x1_) (cwV 1 hts (gV_ t_2574 t_2576 t_137 t_198 t_2577) rfl rfl rfl (by decide +kernel) ⟨(Nat.le_of_ble_eq_true rfl), (Nat.le_of_ble_eq_true rfl)⟩) (pre3V g hK ma0_ ka0_ (by decide) (q := (RX14, TX14, 67)) rfl) rfl rfl hl.1 rfl (lv_room (Nat.le_of_ble_eq_true rfl)) dX14_about_2 ⟨(Nat.le_of_ble_eq_true rfl), (Nat.le_of_ble_eq_true rfl)⟩) g hK (by decide) (by decide) (fx' := []) rfl (fun r_1 fr_1 H locs hp hMr_1 g => ?_)
  rcases hp with ⟨h_2, -⟩ | ⟨h_3, h_4, -⟩
  · obtain rfl : r_1 = 0 := h_2
    refine lv_if_ne (tgt := 10) hx hb dX14_about_5 (by decide) (fun c_ => absurd c_ (by decide)) (fun c_ => ?_)
    refine lv_iconst (v := (-1)) hx hb dX14_about_8 (by decide) ?_
    have kb_m1 : bd (-1) (-1) ((-1) : Int32) := ⟨by decide, by decide⟩
    subst hQ
    exact W.iret (v := (-1)) hx hb hr (fun t ht hW => ⟨⟨_, _, rfl, ⟨(bd_sub kb_m1 (by decide)), trivial⟩, q3_of g hK ht hW⟩, g.2.2.1.F ht⟩) g.2.2.1.2.2 dX14_about_9
  · obtain rfl : r_1 = 1 := h_3
    have b_5 : bd 0 7 x1_ := eqX rfl (bdT x1_) h_4 (by decide)
    refine lv_if_ne (tgt := 10) hx hb dX14_about_5 (by decide) (fun c_ => ?_) (fun c_ => absurd c_ (by decide))
    refine lv_iload_n hx hb dX14_about_10 rfl (lv_at hl 2 rfl) ?_
    by_cases e_6 : x2_ = 0
    · refine lv_topi (fun z_7 ez_7 => ?_)
      obtain rfl : z_7 = 0 := ez_7.trans e_6
      have kb_0 : bd 0 0 (0 : Int32) := ⟨by decide, by decide⟩
      have b_8 : bd 0 0 x2_ := eqX (eq_f e_6) (bdT x2_) kb_0 (by decide)
      refine lv_tableIn (off := 37) (tgt := 48) hx hb dX14_about_11 (by decide) (by decide) rfl (by decide) ?_
      refine lv_aload_n hx hb dX14_about_48 rfl (lv_at hl 0 rfl) ?_
      refine g_getr (K := 12) (C := RX14) (T := TX14) (N := 67) hx hb hts (mc_ inX14) hown hK g ma0_ ka0_ (by decide) rfl 1 (by decide) rfl (hts _ (List.mem_cons_of_mem _ t_2147)) (fun _ h9 => h9) rfl dX14_about_49 (fun a_9 ma_9 ka_9 g => ?_)
      refine g_getr (K := 159) (C := RX12) (T := TX12) (N := 60) hx hb hts (mc_ inX12) hown hK g ma_9 ka_9 (by decide) rfl 3 (by decide) rfl (hts _ (List.mem_cons_of_mem _ t_1912)) (fun _ h9 => h9) rfl dX14_about_52 (fun a_10 ma_10 ka_10 g => ?_)
      refine lv_iload_n hx hb dX14_about_55 rfl (lv_at hl 1 rfl) ?_
      refine g_iald hx hb hK g ma_10 ka_10 (by decide) rfl (in_bd b_5 (by decide)) dX14_about_56 (fun x_11 bx_11 cx_11 => ?_)
      subst hQ
      exact W.iret (v := x_11) hx hb hr (fun t ht hW => ⟨⟨_, _, rfl, ⟨(bd_sub bx_11 (by decide)), trivial⟩, q3_of g hK ht hW⟩, g.2.2.1.F ht⟩) g.2.2.1.2.2 dX14_about_57
    by_cases e_12 : x2_ = 1
    · refine lv_topi (fun z_13 ez_13 => ?_)
      obtain rfl : z_13 = 1 := ez_13.trans e_12
      have kb_1 : bd 1 1 (1 : Int32) := ⟨by decide, by decide⟩
      have b_14 : bd 1 1 x2_ := eqX (eq_f e_12) (bdT x2_) kb_1 (by decide)
      refine lv_tableIn (off := 47) (tgt := 58) hx hb dX14_about_11 (by decide) (by decide) rfl (by decide) ?_
      refine lv_aload_n hx hb dX14_about_58 rfl (lv_at hl 0 rfl) ?_
      refine g_getr (K := 12) (C := RX14) (T := TX14) (N := 67) hx hb hts (mc_ inX14) hown hK g ma0_ ka0_ (by decide) rfl 1 (by decide) rfl (hts _ (List.mem_cons_of_mem _ t_2147)) (fun _ h9 => h9) rfl dX14_about_59 (fun a_15 ma_15 ka_15 g => ?_)
      refine g_getr (K := 160) (C := RX12) (T := TX12) (N := 60) hx hb hts (mc_ inX12) hown hK g ma_15 ka_15 (by decide) rfl 4 (by decide) rfl (hts _ (List.mem_cons_of_mem _ t_1914)) (fun _ h9 => h9) rfl dX14_about_62 (fun a_16 ma_16 ka_16 g => ?_)
      refine lv_iload_n hx hb dX14_about_65 rfl (lv_at hl 1 rfl) ?_
      refine g_iald hx hb hK g ma_16 ka_16 (by decide) rfl (in_bd b_5 (by decide)) dX14_about_66 (fun x_17 bx_17 cx_17 => ?_)
      subst hQ
      exact W.iret (v := x_17) hx hb hr (fun t ht hW => ⟨⟨_, _, rfl, ⟨(bd_sub bx_17 (by decide)), trivial⟩, q3_of g hK ht hW⟩, g.2.2.1.F ht⟩) g.2.2.1.2.2 dX14_about_67
    by_cases e_18 : x2_ = 2
    · refine lv_topi (fun z_19 ez_19 => ?_)
      obtain rfl : z_19 = 2 := ez_19.trans e_18
      have kb_2 : bd 2 2 (2 : Int32) := ⟨by decide, by decide⟩
      have b_20 : bd 2 2 x2_ := eqX (eq_f e_18) (bdT x2_) kb_2 (by decide)
      refine lv_tableIn (off := 57) (tgt := 68) hx hb dX14_about_11 (by decide) (by decide) rfl (by decide) ?_
      refine lv_aload_n hx hb dX14_about_68 rfl (lv_at hl 0 rfl) ?_
      refine g_getr (K := 12) (C := RX14) (T := TX14) (N := 67) hx hb hts (mc_ inX14) hown hK g ma0_ ka0_ (by decide) rfl 1 (by decide) rfl (hts _ (List.mem_cons_of_mem _ t_2147)) (fun _ h9 => h9) rfl dX14_about_69 (fun a_21 ma_21 ka_21 g => ?_)
      refine g_getr (K := 161) (C := RX12) (T := TX12) (N := 60) hx hb hts (mc_ inX12) hown hK g ma_21 ka_21 (by decide) rfl 5 (by decide) rfl (hts _ (List.mem_cons_of_mem _ t_1916)) (fun _ h9 => h9) rfl dX14_about_72 (fun a_22 ma_22 ka_22 g => ?_)
      refine lv_iload_n hx hb dX14_about_75 rfl (lv_at hl 1 rfl) ?_
      refine g_iald hx hb hK g ma_22 ka_22 (by decide) rfl (in_bd b_5 (by decide)) dX14_about_76 (fun x_23 bx_23 cx_23 => ?_)
      subst hQ
      exact W.iret (v := x_23) hx hb hr (fun t ht hW => ⟨⟨_, _, rfl, ⟨(bd_sub bx_23 (by decide)), trivial⟩, q3_of g hK ht hW⟩, g.2.2.1.F ht⟩) g.2.2.1.2.2 dX14_about_77
    by_cases e_24 : x2_ = 3
    · refine lv_topi (fun z_25 ez_25 => ?_)
      obtain rfl : z_25 = 3 := ez_25.trans e_24
      have kb_3 : bd 3 3 (3 : Int32) := ⟨by decide, by decide⟩
      have b_26 : bd 3 3 x2_ := eqX (eq_f e_24) (bdT x2_) kb_3 (by decide)
      refine lv_tableIn (off := 67) (tgt := 78) hx hb dX14_about_11 (by decide) (by decide) rfl (by decide) ?_
      refine lv_aload_n hx hb dX14_about_78 rfl (lv_at hl 0 rfl) ?_
      refine g_getr (K := 12) (C := RX14) (T := TX14) (N := 67) hx hb hts (mc_ inX14) hown hK g ma0_ ka0_ (by decide) rfl 1 (by decide) rfl (hts _ (List.mem_cons_of_mem _ t_2147)) (fun _ h9 => h9) rfl dX14_about_79 (fun a_27 ma_27 ka_27 g => ?_)
      refine g_getr (K := 171) (C := RX12) (T := TX12) (N := 60) hx hb hts (mc_ inX12) hown hK g ma_27 ka_27 (by decide) rfl 15 (by decide) rfl (hts _ (List.mem_cons_of_mem _ t_1936)) (fun _ h9 => h9) rfl dX14_about_82 (fun a_28 ma_28 ka_28 g => ?_)
      refine lv_iload_n hx hb dX14_about_85 rfl (lv_at hl 1 rfl) ?_
      refine g_iald hx hb hK g ma_28 ka_28 (by decide) rfl (in_bd b_5 (by decide)) dX14_about_86 (fun x_29 bx_29 cx_29 => ?_)
      subst hQ
      exact W.iret (v := x_29) hx hb hr (fun t ht hW => ⟨⟨_, _, rfl, ⟨(bd_sub bx_29 (by decide)), trivial⟩, q3_of g hK ht hW⟩, g.2.2.1.F ht⟩) g.2.2.1.2.2 dX14_about_87
    by_cases e_30 : x2_ = 4
    · refine lv_topi (fun z_31 ez_31 => ?_)
      obtain rfl : z_31 = 4 := ez_31.trans e_30
      have kb_4 : bd 4 4 (4 : Int32) := ⟨by decide, by decide⟩
      have b_32 : bd 4 4 x2_ := eqX (eq_f e_30) (bdT x2_) kb_4 (by decide)
      refine lv_tableIn (off := 77) (tgt := 88) hx hb dX14_about_11 (by decide) (by decide) rfl (by decide) ?_
      refine lv_aload_n hx hb dX14_about_88 rfl (lv_at hl 0 rfl) ?_
      refine g_getr (K := 12) (C := RX14) (T := TX14) (N := 67) hx hb hts (mc_ inX14) hown hK g ma0_ ka0_ (by decide) rfl 1 (by decide) rfl (hts _ (List.mem_cons_of_mem _ t_2147)) (fun _ h9 => h9) rfl dX14_about_89 (fun a_33 ma_33 ka_33 g => ?_)
      refine g_getr (K := 169) (C := RX12) (T := TX12) (N := 60) hx hb hts (mc_ inX12) hown hK g ma_33 ka_33 (by decide) rfl 13 (by decide) rfl (hts _ (List.mem_cons_of_mem _ t_1932)) (fun _ h9 => h9) rfl dX14_about_92 (fun a_34 ma_34 ka_34 g => ?_)
      refine lv_iload_n hx hb dX14_about_95 rfl (lv_at hl 1 rfl) ?_
      refine g_iald hx hb hK g ma_34 ka_34 (by decide) rfl (in_bd b_5 (by decide)) dX14_about_96 (fun x_35 bx_35 cx_35 => ?_)
      subst hQ
      exact W.iret (v := x_35) hx hb hr (fun t ht hW => ⟨⟨_, _, rfl, ⟨(bd_sub bx_35 (by decide)), trivial⟩, q3_of g hK ht hW⟩, g.2.2.1.F ht⟩) g.2.2.1.2.2 dX14_about_97
    by_cases e_36 : x2_ = 5
    · refine lv_topi (fun z_37 ez_37 => ?_)
      obtain rfl : z_37 = 5 := ez_37.trans e_36
      have kb_5 : bd 5 5 (5 : Int32) := ⟨by decide, by decide⟩
      have b_38 : bd 5 5 x2_ := eqX (eq_f e_36) (bdT x2_) kb_5 (by decide)
      refine lv_tableIn (off := 87) (tgt := 98) hx hb dX14_about_11 (by decide) (by decide) rfl (by decide) ?_
      refine lv_aload_n hx hb dX14_about_98 rfl (lv_at hl 0 rfl) ?_
      refine g_getr (K := 12) (C := RX14) (T := TX14) (N := 67) hx hb hts (mc_ inX14) hown hK g ma0_ ka0_ (by decide) rfl 1 (by decide) rfl (hts _ (List.mem_cons_of_mem _ t_2147)) (fun _ h9 => h9) rfl dX14_about_99 (fun a_39 ma_39 ka_39 g => ?_)
      refine g_getr (K := 211) (C := RX12) (T := TX12) (N := 60) hx hb hts (mc_ inX12) hown hK g ma_39 ka_39 (by decide) rfl 59 (by decide) rfl (hts _ (List.mem_cons_of_mem _ t_2020)) (fun _ h9 => h9) rfl dX14_about_102 (fun a_40 ma_40 ka_40 g => ?_)
      refine lv_iload_n hx hb dX14_about_105 rfl (lv_at hl 1 rfl) ?_
      refine g_iald hx hb hK g ma_40 ka_40 (by decide) rfl (in_bd b_5 (by decide)) dX14_about_106 (fun x_41 bx_41 cx_41 => ?_)
      subst hQ
      exact W.iret (v := x_41) hx hb hr (fun t ht hW => ⟨⟨_, _, rfl, ⟨(bd_sub bx_41 (by decide)), trivial⟩, q3_of g hK ht hW⟩, g.2.2.1.F ht⟩) g.2.2.1.2.2 dX14_about_107
    refine lv_tableOut (tgt := 108) hx hb dX14_about_11 (by have a0 : x2_.toInt ≠ 0 := fun h => e_6 (Int32.toInt_inj.mp (h.trans (by decide))); have a1 : x2_.toInt ≠ 1 := fun h => e_12 (Int32.toInt_inj.mp (h.trans (by decide))); have a2 : x2_.toInt ≠ 2 := fun h => e_18 (Int32.toInt_inj.mp (h.trans (by decide))); have a3 : x2_.toInt ≠ 3 := fun h => e_24 (Int32.toInt_inj.mp (h.trans (by decide))); have a4 : x2_.toInt ≠ 4 := fun h => e_30 (Int32.toInt_inj.mp (h.trans (by decide))); have a5 : x2_.toInt ≠ 5 := fun h => e_36 (Int32.toInt_inj.mp (h.trans (by decide))); omega) (by decide) ?_
    refine lv_iconst (v := (-1)) hx hb dX14_about_108 (by decide) ?_
    have kb_m1 : bd (-1) (-1) ((-1) : Int32) := ⟨by decide, by decide⟩
    subst hQ
    exact W.iret (v := (-1)) hx hb hr (fun t ht hW => ⟨⟨_, _, rfl, ⟨(bd_sub kb_m1 (by decide)), trivial⟩, q3_of g hK ht hW⟩, g.2.2.1.F ht⟩) g.2.2.1.2.2 dX14_about_109
set_option maxHeartbeats 4000000 in
set_option maxRecDepth 100000 in
theorem r_X14_member (l : Launch) (dC : Nat → ClassId) (dI : Nat → Nat → Nat) (L : List Nat) (kd : Nat → Nat) (tys : List (ClassId × FieldType)) (f0 : Nat → va_E) (sz : Nat) (hWT : WT L kd tys f0) (a0_ : Nat) (ma0_ : a0_ ∈ L) (ka0_ : kd a0_ = 14) (x1_ : Int32) (x2_ : Int32) (x3_ : Int32) : Met l yX14_member (.code yX14_member cX14_member 7 (some .int) :: lw_g) ({ frames := 2, cells := 0, slots := 0, locals := 46 }) (va_Pc [.ref a0_, .int x1_, .int x2_, .int x3_] (P3 (dC, dI) L tys f0 sz)) (va_Qi (fun (r : Int32) (f : Nat → va_E) => (True)) (Q3 (dC, dI) L kd tys [] [] f0 sz) (pA L sz)) 0 0 (pA L sz) := by
  refine Met.ofW (cc := cX14_member) (maxL := 7) (ret := (some .int)) (by decide) rfl ?_
  intro p e s m args below meth c s₁ B hml hv
  obtain ⟨rfl, hsz, hP, hK, hD0⟩ := hv
  have hx := B.exec
  have hb := B.bytes
  have hr := B.returns
  have hts := atoms_spec (ws := (.code yX14_member cX14_member 7 (some .int) :: lw_g)) B.pre
  have hown : s.vm.findClass RX14 = some m.cls := findClass_of_methodNamed B.named
  have hlocks := B.notSynchronized
  subst hsz
  have g : G3 (dC, dI) L kd tys s f0 [] [] f0 s.heap [] [] := G3.start hP hD0 hWT Fs.nil
  have hl := lv_entry ([.ref a0_, .int x1_, .int x2_, .int x3_]) (n := 7) (Nat.le_of_ble_eq_true rfl)
  rw [lg_entry_eq]
  generalize (lg_sl ([.ref a0_, .int x1_, .int x2_, .int x3_]) ++ List.replicate (7 - (lg_sl ([.ref a0_, .int x1_, .int x2_, .int x3_])).length) Slot.unset).toArray = ls at hl ⊢
  have hl : lv_has ls 7 [(0, .ref a0_), (1, .int x1_), (2, .int x2_), (3, .int x3_)] := hl
  refine W_q (fun Q hQ => ?_)
  refine lv_aload_n hx hb dX14_member_0 rfl (lv_at hl 0 rfl) ?_
  refine lv_iload_n hx hb dX14_member_1 rfl (lv_at hl 1 rfl) ?_
  refine g_calli (va_runV (As := [.int x1_]) (rest := []) ⟨hx, hb, hml, hown, hts⟩ (r_X14_isClass l dC dI L kd tys f0 s.heap.size g.2.2.2.1 a0_ ma0_ ka0_ x1_) (cwV 1 hts (gV_ t_2574 t_2576 t_137 t_198 t_2577) rfl rfl rfl (by decide +kernel) ⟨(Nat.le_of_ble_eq_true rfl), (Nat.le_of_ble_eq_true rfl)⟩) (pre3V g hK ma0_ ka0_ (by decide) (q := (RX14, TX14, 67)) rfl) rfl rfl hl.1 rfl (lv_room (Nat.le_of_ble_eq_true rfl)) dX14_member_2 ⟨(Nat.le_of_ble_eq_true rfl), (Nat.le_of_ble_eq_true rfl)⟩) g hK (by decide) (by decide) (fx' := []) rfl (fun r_1 fr_1 H locs hp hMr_1 g => ?_)
  rcases hp with ⟨h_2, -⟩ | ⟨h_3, h_4, -⟩
  · obtain rfl : r_1 = 0 := h_2
    refine lv_if_eq (tgt := 29) hx hb dX14_member_5 (by decide) (fun c_ => ?_) (fun c_ => absurd (by decide) c_)
    refine lv_iconst (v := (-1)) hx hb dX14_member_29 (by decide) ?_
    subst hQ
    exact W.iret (v := (-1)) hx hb hr (fun t ht hW => ⟨⟨_, _, rfl, trivial, q3_of g hK ht hW⟩, g.2.2.1.F ht⟩) g.2.2.1.2.2 dX14_member_30
  · obtain rfl : r_1 = 1 := h_3
    have b_5 : bd 0 7 x1_ := eqX rfl (bdT x1_) h_4 (by decide)
    refine lv_if_eq (tgt := 29) hx hb dX14_member_5 (by decide) (fun c_ => absurd c_ (by decide)) (fun c_ => ?_)
    refine lv_iload_n hx hb dX14_member_8 rfl (lv_at hl 2 rfl) ?_
    refine lv_i2l hx hb dX14_member_9 rfl ?_
    refine lv_topl (fun y_6 ey_6 => ?_)
    refine lv_lconst (v := 0) hx hb dX14_member_10 (by decide) ?_
    refine lv_aload_n hx hb dX14_member_11 rfl (lv_at hl 0 rfl) ?_
    refine g_getr (K := 12) (C := RX14) (T := TX14) (N := 67) hx hb hts (mc_ inX14) hown hK g ma0_ ka0_ (by decide) rfl 1 (by decide) rfl (hts _ (List.mem_cons_of_mem _ t_2147)) (fun _ h9 => h9) rfl dX14_member_12 (fun a_7 ma_7 ka_7 g => ?_)
    refine g_getr (K := 171) (C := RX12) (T := TX12) (N := 60) hx hb hts (mc_ inX12) hown hK g ma_7 ka_7 (by decide) rfl 15 (by decide) rfl (hts _ (List.mem_cons_of_mem _ t_1936)) (fun _ h9 => h9) rfl dX14_member_15 (fun a_8 ma_8 ka_8 g => ?_)
    refine lv_iload_n hx hb dX14_member_18 rfl (lv_at hl 1 rfl) ?_
    refine g_iald hx hb hK g ma_8 ka_8 (by decide) rfl (in_bd b_5 (by decide)) dX14_member_19 (fun x_9 bx_9 cx_9 => ?_)
    refine lv_iconst (v := 1) hx hb dX14_member_20 (by decide) ?_
    have kb_1 : bd 1 1 (1 : Int32) := ⟨by decide, by decide⟩
    refine lv_isub hx hb dX14_member_21 ?_
    refine lv_topi (fun y_10 ey_10 => ?_)
    have ty_10 := sub_bd ey_10 bx_9 kb_1 (by decide)
    have b_11 : bd (-1) 11 y_10 := sub_rg ty_10 bx_9 kb_1 (by decide)
    refine lv_i2l hx hb dX14_member_22 rfl ?_
    refine lv_topl (fun y_12 ey_12 => ?_)
    refine g_calli (va_runS (As := [.long y_6, .long 0, .long y_12]) (rest := []) ⟨hx, hb, hml, hown, hts⟩ (r_X14_in l dC dI L kd tys fr_1 H.size g.2.2.2.1 y_6 0 y_12) (va_cwS 3 hts (gS_ t_2448 t_2449 t_198 t_2450) rfl rfl rfl (by decide +kernel) ⟨(Nat.le_of_ble_eq_true rfl), (Nat.le_of_ble_eq_true rfl)⟩) (pre3S g hK) rfl rfl hl.1 rfl (lv_room (Nat.le_of_ble_eq_true rfl)) dX14_member_23 ⟨(Nat.le_of_ble_eq_true rfl), (Nat.le_of_ble_eq_true rfl)⟩) g hK (by decide) (by decide) (fx' := [(12, 15, a_7, .ref a_8), (14, 1, a0_, .ref a_7)]) rfl (fun r_13 fr_13 H locs hp hMr_13 g => ?_)
    rcases hp with ⟨hx_14, h_15, -⟩ | ⟨h_16, h_17, -⟩
    · obtain rfl : r_13 = 0 := h_15
      refine lv_if_ne (tgt := 31) hx hb dX14_member_26 (by decide) (fun c_ => absurd c_ (by decide)) (fun c_ => ?_)
      refine lv_iconst (v := (-1)) hx hb dX14_member_29 (by decide) ?_
      subst hQ
      exact W.iret (v := (-1)) hx hb hr (fun t ht hW => ⟨⟨_, _, rfl, trivial, q3_of g hK ht hW⟩, g.2.2.1.F ht⟩) g.2.2.1.2.2 dX14_member_30
    · obtain rfl : r_13 = 1 := h_16
      have f_18 : (0 : Int32).toInt ≤ x2_.toInt := in_le h_17.1 (in_k (k := 0) (by decide) (by decide)) (in_v ey_6)
      have f_19 : x2_.toInt ≤ y_10.toInt := in_le h_17.2 (in_v ey_6) (in_v ey_12)
      have kb_0 : bd 0 0 (0 : Int32) := ⟨by decide, by decide⟩
      have b_20 : bd 0 2147483647 x2_ := leR f_18 kb_0 (bdT x2_) (by decide)
      have b_21 : bd 0 11 x2_ := leL f_19 b_20 b_11 (by decide)
      have b_22 : bd 0 11 y_10 := leR f_19 b_20 b_11 (by decide)
      have b_23 : bd 1 12 x_9 := sub_inv ty_10 b_22 bx_9 kb_1 (by decide)
      refine lv_if_ne (tgt := 31) hx hb dX14_member_26 (by decide) (fun c_ => ?_) (fun c_ => absurd c_ (by decide))
      refine lv_aload_n hx hb dX14_member_31 rfl (lv_at hl 0 rfl) ?_
      refine g_getk (C := RX14) (T := TX14) (N := 67) hx hb hts (mc_ inX14) hown hK g rfl 1 (by decide) rfl (hts _ (List.mem_cons_of_mem _ t_2147)) (fun _ h9 => h9) 1 rfl dX14_member_32 ?_
      refine g_getr (K := 170) (C := RX12) (T := TX12) (N := 60) hx hb hts (mc_ inX12) hown hK g ma_7 ka_7 (by decide) rfl 14 (by decide) rfl (hts _ (List.mem_cons_of_mem _ t_1934)) (fun _ h9 => h9) rfl dX14_member_35 (fun a_24 ma_24 ka_24 g => ?_)
      refine lv_bipush (v := 12) hx hb dX14_member_38 (by decide) ?_
      refine lv_iload_n hx hb dX14_member_40 rfl (lv_at hl 1 rfl) ?_
      refine lv_imul hx hb dX14_member_41 ?_
      refine lv_topi (fun y_25 ey_25 => ?_)
      have ty_25 := cmul_bd ey_25 (c := 12) (by decide) b_5 (by decide)
      have b_26 : bd 0 84 y_25 := mulc_rg ty_25 b_5 (by decide)
      refine lv_iload_n hx hb dX14_member_42 rfl (lv_at hl 2 rfl) ?_
      refine lv_iadd hx hb dX14_member_43 ?_
      refine lv_topi (fun y_27 ey_27 => ?_)
      have ty_27 := add_bd ey_27 b_26 b_21 (by decide)
      have b_28 : bd 0 95 y_27 := add_rg ty_27 b_26 b_21 (by decide)
      refine g_iald hx hb hK g ma_24 ka_24 (by decide) rfl (in_bd b_28 (by decide)) dX14_member_44 (fun x_29 bx_29 cx_29 => ?_)
      refine lv_istore (lv' := [(4, .int x_29), (0, .ref a0_), (1, .int x1_), (2, .int x2_), (3, .int x3_)]) hx hb dX14_member_45 hl (by decide) rfl (fun ls hl => ?_)
      refine lv_iload_n hx hb dX14_member_47 rfl (lv_at hl 4 rfl) ?_
      by_cases e_30 : x3_ = 0
      · refine lv_topi (fun z_31 ez_31 => ?_)
        obtain rfl : z_31 = 0 := ez_31.trans e_30
        have b_32 : bd 0 0 x3_ := eqX (eq_f e_30) (bdT x3_) kb_0 (by decide)
        refine lv_tableIn (off := 40) (tgt := 88) hx hb dX14_member_48 (by decide) (by decide) rfl (by decide) ?_
        refine lv_aload_n hx hb dX14_member_88 rfl (lv_at hl 1 rfl) ?_
        refine g_getk (C := RX14) (T := TX14) (N := 67) hx hb hts (mc_ inX14) hown hK g rfl 1 (by decide) rfl (hts _ (List.mem_cons_of_mem _ t_2147)) (fun _ h9 => h9) 2 rfl dX14_member_89 ?_
        refine g_getr (K := 174) (C := RX12) (T := TX12) (N := 60) hx hb hts (mc_ inX12) hown hK g ma_7 ka_7 (by decide) rfl 18 (by decide) rfl (hts _ (List.mem_cons_of_mem _ t_1942)) (fun _ h9 => h9) rfl dX14_member_92 (fun a_33 ma_33 ka_33 g => ?_)
        refine lv_iload hx hb dX14_member_95 (lv_at hl 0 rfl) ?_
        refine g_iald hx hb hK g ma_33 ka_33 (by decide) rfl (in_bd bx_29 (by decide)) dX14_member_97 (fun x_34 bx_34 cx_34 => ?_)
        subst hQ
        exact W.iret (v := x_34) hx hb hr (fun t ht hW => ⟨⟨_, _, rfl, trivial, q3_of g hK ht hW⟩, g.2.2.1.F ht⟩) g.2.2.1.2.2 dX14_member_98
      by_cases e_35 : x3_ = 1
      · refine lv_topi (fun z_36 ez_36 => ?_)
        obtain rfl : z_36 = 1 := ez_36.trans e_35
        have b_37 : bd 1 1 x3_ := eqX (eq_f e_35) (bdT x3_) kb_1 (by decide)
        refine lv_tableIn (off := 51) (tgt := 99) hx hb dX14_member_48 (by decide) (by decide) rfl (by decide) ?_
        refine lv_aload_n hx hb dX14_member_99 rfl (lv_at hl 1 rfl) ?_
        refine g_getk (C := RX14) (T := TX14) (N := 67) hx hb hts (mc_ inX14) hown hK g rfl 1 (by decide) rfl (hts _ (List.mem_cons_of_mem _ t_2147)) (fun _ h9 => h9) 2 rfl dX14_member_100 ?_
        refine g_getr (K := 175) (C := RX12) (T := TX12) (N := 60) hx hb hts (mc_ inX12) hown hK g ma_7 ka_7 (by decide) rfl 19 (by decide) rfl (hts _ (List.mem_cons_of_mem _ t_1944)) (fun _ h9 => h9) rfl dX14_member_103 (fun a_38 ma_38 ka_38 g => ?_)
        refine lv_iload hx hb dX14_member_106 (lv_at hl 0 rfl) ?_
        refine g_iald hx hb hK g ma_38 ka_38 (by decide) rfl (in_bd bx_29 (by decide)) dX14_member_108 (fun x_39 bx_39 cx_39 => ?_)
        subst hQ
        exact W.iret (v := x_39) hx hb hr (fun t ht hW => ⟨⟨_, _, rfl, trivial, q3_of g hK ht hW⟩, g.2.2.1.F ht⟩) g.2.2.1.2.2 dX14_member_109
      by_cases e_40 : x3_ = 2
      · refine lv_topi (fun z_41 ez_41 => ?_)
        obtain rfl : z_41 = 2 := ez_41.trans e_40
        have kb_2 : bd 2 2 (2 : Int32) := ⟨by decide, by decide⟩
        have b_42 : bd 2 2 x3_ := eqX (eq_f e_40) (bdT x3_) kb_2 (by decide)
        refine lv_tableIn (off := 62) (tgt := 110) hx hb dX14_member_48 (by decide) (by decide) rfl (by decide) ?_
        refine lv_aload_n hx hb dX14_member_110 rfl (lv_at hl 1 rfl) ?_
        refine g_getk (C := RX14) (T := TX14) (N := 67) hx hb hts (mc_ inX14) hown hK g rfl 1 (by decide) rfl (hts _ (List.mem_cons_of_mem _ t_2147)) (fun _ h9 => h9) 2 rfl dX14_member_111 ?_
        refine g_getr (K := 180) (C := RX12) (T := TX12) (N := 60) hx hb hts (mc_ inX12) hown hK g ma_7 ka_7 (by decide) rfl 24 (by decide) rfl (hts _ (List.mem_cons_of_mem _ t_1954)) (fun _ h9 => h9) rfl dX14_member_114 (fun a_43 ma_43 ka_43 g => ?_)
        refine lv_iload hx hb dX14_member_117 (lv_at hl 0 rfl) ?_
        refine g_iald hx hb hK g ma_43 ka_43 (by decide) rfl (in_bd bx_29 (by decide)) dX14_member_119 (fun x_44 bx_44 cx_44 => ?_)
        subst hQ
        exact W.iret (v := x_44) hx hb hr (fun t ht hW => ⟨⟨_, _, rfl, trivial, q3_of g hK ht hW⟩, g.2.2.1.F ht⟩) g.2.2.1.2.2 dX14_member_120
      by_cases e_45 : x3_ = 3
      · refine lv_topi (fun z_46 ez_46 => ?_)
        obtain rfl : z_46 = 3 := ez_46.trans e_45
        have kb_3 : bd 3 3 (3 : Int32) := ⟨by decide, by decide⟩
        have b_47 : bd 3 3 x3_ := eqX (eq_f e_45) (bdT x3_) kb_3 (by decide)
        refine lv_tableIn (off := 73) (tgt := 121) hx hb dX14_member_48 (by decide) (by decide) rfl (by decide) ?_
        refine lv_iconst (v := 0) hx hb dX14_member_121 (by decide) ?_
        refine lv_istore (lv' := [(5, .int 0), (4, .int x_29), (0, .ref a0_), (1, .int x1_), (2, .int x2_), (3, .int x3_)]) hx hb dX14_member_122 hl (by decide) rfl (fun ls hl => ?_)
        refine lv_iconst (v := 0) hx hb dX14_member_124 (by decide) ?_
        refine lv_istore (lv' := [(6, .int 0), (5, .int 0), (4, .int x_29), (0, .ref a0_), (1, .int x1_), (2, .int x2_), (3, .int x3_)]) hx hb dX14_member_125 hl (by decide) rfl (fun ls hl => ?_)
        have loop_48 : ∀ (n : Nat) (v127_6 : Int32) (v127_5 : Int32), bd 0 700 v127_6 → (700 - v127_6.toInt < (n : Int)) → ∀ (f : Nat → va_E) (H : Heap) (locs : List Loc) (ls : Array Slot), G3 (dC, dI) L kd tys s f0 [] [] f H locs [(12, 14, a_7, .ref a_24), (12, 15, a_7, .ref a_8), (14, 1, a0_, .ref a_7)] → lv_has ls 7 [(6, .int v127_6), (5, .int v127_5), (4, .int x_29), (0, .ref a0_), (1, .int x1_), (2, .int x2_), (3, .int x3_)] → W p l e ({ frames := 2, cells := 0, slots := 0, locals := 46 } : Room) s m [.ref a0_, .int x1_, .int x2_, .int x3_].toArray below meth c H locs 0 0 Q (F0 m 127 ls []) := by
          intro n127
          induction n127 with
          | zero =>
            intro v127_6 v127_5 bv127_6  hm127 f H locs ls g  hl
            exact absurd hm127 (by have h9_v127_6 := bv127_6; unfold bd at h9_v127_6; have h9_v127_5 := bdT v127_5; unfold bd at h9_v127_5; omega)
          | succ n127 ih127 =>
            intro v127_6 v127_5 bv127_6  hm127 f H locs ls g  hl
            refine lv_iload hx hb dX14_member_127 (lv_at hl 0 rfl) ?_
            refine lv_aload_n hx hb dX14_member_129 rfl (lv_at hl 3 rfl) ?_
            refine g_getk (C := RX14) (T := TX14) (N := 67) hx hb hts (mc_ inX14) hown hK g rfl 1 (by decide) rfl (hts _ (List.mem_cons_of_mem _ t_2147)) (fun _ h9 => h9) 2 rfl dX14_member_130 ?_
            refine g_geti (C := RX12) (T := TX12) (N := 60) hx hb hts (mc_ inX12) hown hK g ma_7 ka_7 (by decide) rfl 46 (by decide) rfl (hts _ (List.mem_cons_of_mem _ t_1996)) (fun _ h9 => h9) rfl dX14_member_133 (fun x_49 bx_49 g => ?_)
            refine lv_icmp_ge (tgt := 183) hx hb dX14_member_136 (by decide) (fun c_50 => ?_) (fun c_50 => ?_)
            · have fc_50 := le_f c_50
              refine lv_iload hx hb dX14_member_183 (lv_at hl 1 rfl) ?_
              subst hQ
              exact W.iret (v := v127_5) hx hb hr (fun t ht hW => ⟨⟨_, _, rfl, trivial, q3_of g hK ht hW⟩, g.2.2.1.F ht⟩) g.2.2.1.2.2 dX14_member_185
            · have fc_50 := nle_f c_50
              have b_51 : bd 0 699 v127_6 := ltL fc_50 bv127_6 bx_49 (by decide)
              have b_52 : bd 1 700 x_49 := ltR fc_50 bv127_6 bx_49 (by decide)
              refine lv_iload hx hb dX14_member_139 (lv_at hl 1 rfl) ?_
              refine lv_aload_n hx hb dX14_member_141 rfl (lv_at hl 3 rfl) ?_
              refine g_getk (C := RX14) (T := TX14) (N := 67) hx hb hts (mc_ inX14) hown hK g rfl 1 (by decide) rfl (hts _ (List.mem_cons_of_mem _ t_2147)) (fun _ h9 => h9) 3 rfl dX14_member_142 ?_
              refine g_getr (K := 197) (C := RX12) (T := TX12) (N := 60) hx hb hts (mc_ inX12) hown hK g ma_7 ka_7 (by decide) rfl 42 (by decide) rfl (hts _ (List.mem_cons_of_mem _ t_1989)) (fun _ h9 => h9) rfl dX14_member_145 (fun a_53 ma_53 ka_53 g => ?_)
              refine lv_iload hx hb dX14_member_148 (lv_at hl 0 rfl) ?_
              refine g_iald hx hb hK g ma_53 ka_53 (by decide) rfl (in_bd b_51 (by decide)) dX14_member_150 (fun x_54 bx_54 cx_54 => ?_)
              refine lv_iload hx hb dX14_member_151 (lv_at hl 2 rfl) ?_
              refine lv_icmp_ne (tgt := 173) hx hb dX14_member_153 (by decide) (fun c_55 => ?_) (fun c_55 => ?_)
              · have fc_55 := neq_f c_55
                refine lv_iconst (v := 0) hx hb dX14_member_173 (by decide) ?_
                refine lv_iadd hx hb dX14_member_174 ?_
                refine lv_topi (fun y_56 ey_56 => ?_)
                have ty_56 := add_bd ey_56 (bdT v127_5) kb_0 (by decide)
                have b_57 : bd (-2147483648) 2147483647 y_56 := add_rg ty_56 (bdT v127_5) kb_0 (by decide)
                refine lv_istore (lv' := [(5, .int y_56), (6, .int v127_6), (4, .int x_29), (0, .ref a0_), (1, .int x1_), (2, .int x2_), (3, .int x3_)]) hx hb dX14_member_175 hl (by decide) rfl (fun ls hl => ?_)
                obtain ⟨y_58, ey_58⟩ : ∃ z : Int32, z = v127_6 + 1 := ⟨_, rfl⟩
                refine lv_iinc (v := y_58) (lv' := [(6, .int y_58), (5, .int y_56), (4, .int x_29), (0, .ref a0_), (1, .int x1_), (2, .int x2_), (3, .int x3_)]) hx hb dX14_member_177 hl (k := 1) rfl (by rw [ey_58]; rfl) (by decide) rfl (fun ls hl => ?_)
                have ty_58 := add_bd ey_58 b_51 kb_1 (by decide)
                have b_59 : bd 1 700 y_58 := add_rg ty_58 b_51 kb_1 (by decide)
                refine lv_goto (tgt := 127) hx hb dX14_member_180 (by decide) ?_
                have hl9 := lv_sub hl [0, 1, 2, 3, 4, 5, 6] (by rfl : lv_pick [(6, .int y_58), (5, .int y_56), (4, .int x_29), (0, .ref a0_), (1, .int x1_), (2, .int x2_), (3, .int x3_)] [0, 1, 2, 3, 4, 5, 6] = [(6, .int y_58), (5, .int y_56), (4, .int x_29), (0, .ref a0_), (1, .int x1_), (2, .int x2_), (3, .int x3_)])
                have g9 := g.sub (fx' := [(12, 14, a_7, .ref a_24), (12, 15, a_7, .ref a_8), (14, 1, a0_, .ref a_7)]) [2, 3, 4] rfl
                exact ih127  y_58 y_56 (bd_sub b_59 (by decide)) (by have h9_0 := b_57; unfold bd at h9_0; have h9_1 := b_59; unfold bd at h9_1; have h9_2 := bdT v127_5; unfold bd at h9_2; have h9_3 := bv127_6; unfold bd at h9_3; have h9_4 := kb_0; unfold bd at h9_4; have h9_5 := kb_1; unfold bd at h9_5; have h9_6 := kb_3; unfold bd at h9_6; omega) _ _ _ _ g9  hl9
              · have fc_55 := eq_f c_55
                refine lv_aload_n hx hb dX14_member_156 rfl (lv_at hl 3 rfl) ?_
                refine g_getk (C := RX14) (T := TX14) (N := 67) hx hb hts (mc_ inX14) hown hK g rfl 1 (by decide) rfl (hts _ (List.mem_cons_of_mem _ t_2147)) (fun _ h9 => h9) 4 rfl dX14_member_157 ?_
                refine g_getr (K := 200) (C := RX12) (T := TX12) (N := 60) hx hb hts (mc_ inX12) hown hK g ma_7 ka_7 (by decide) rfl 45 (by decide) rfl (hts _ (List.mem_cons_of_mem _ t_1995)) (fun _ h9 => h9) rfl dX14_member_160 (fun a_60 ma_60 ka_60 g => ?_)
                refine lv_iload hx hb dX14_member_163 (lv_at hl 0 rfl) ?_
                refine g_zald hx hb hK g ma_60 ka_60 (by decide) rfl (in_bd b_51 (by decide)) dX14_member_165 (fun x_61 bx_61 => ?_)
                refine lv_if_eq (tgt := 173) hx hb dX14_member_166 (by decide) (fun c_62 => ?_) (fun c_62 => ?_)
                · have fc_62 := eq_f c_62
                  have b_63 : bd 0 0 x_61 := eqX fc_62 bx_61 kb_0 (by decide)
                  refine lv_iconst (v := 0) hx hb dX14_member_173 (by decide) ?_
                  refine lv_iadd hx hb dX14_member_174 ?_
                  refine lv_topi (fun y_64 ey_64 => ?_)
                  have ty_64 := add_bd ey_64 (bdT v127_5) kb_0 (by decide)
                  have b_65 : bd (-2147483648) 2147483647 y_64 := add_rg ty_64 (bdT v127_5) kb_0 (by decide)
                  refine lv_istore (lv' := [(5, .int y_64), (6, .int v127_6), (4, .int x_29), (0, .ref a0_), (1, .int x1_), (2, .int x2_), (3, .int x3_)]) hx hb dX14_member_175 hl (by decide) rfl (fun ls hl => ?_)
                  obtain ⟨y_66, ey_66⟩ : ∃ z : Int32, z = v127_6 + 1 := ⟨_, rfl⟩
                  refine lv_iinc (v := y_66) (lv' := [(6, .int y_66), (5, .int y_64), (4, .int x_29), (0, .ref a0_), (1, .int x1_), (2, .int x2_), (3, .int x3_)]) hx hb dX14_member_177 hl (k := 1) rfl (by rw [ey_66]; rfl) (by decide) rfl (fun ls hl => ?_)
                  have ty_66 := add_bd ey_66 b_51 kb_1 (by decide)
                  have b_67 : bd 1 700 y_66 := add_rg ty_66 b_51 kb_1 (by decide)
                  refine lv_goto (tgt := 127) hx hb dX14_member_180 (by decide) ?_
                  have hl9 := lv_sub hl [0, 1, 2, 3, 4, 5, 6] (by rfl : lv_pick [(6, .int y_66), (5, .int y_64), (4, .int x_29), (0, .ref a0_), (1, .int x1_), (2, .int x2_), (3, .int x3_)] [0, 1, 2, 3, 4, 5, 6] = [(6, .int y_66), (5, .int y_64), (4, .int x_29), (0, .ref a0_), (1, .int x1_), (2, .int x2_), (3, .int x3_)])
                  have g9 := g.sub (fx' := [(12, 14, a_7, .ref a_24), (12, 15, a_7, .ref a_8), (14, 1, a0_, .ref a_7)]) [3, 4, 5] rfl
                  exact ih127  y_66 y_64 (bd_sub b_67 (by decide)) (by have h9_0 := b_65; unfold bd at h9_0; have h9_1 := b_67; unfold bd at h9_1; have h9_2 := bdT v127_5; unfold bd at h9_2; have h9_3 := bv127_6; unfold bd at h9_3; have h9_4 := kb_0; unfold bd at h9_4; have h9_5 := kb_1; unfold bd at h9_5; have h9_6 := kb_3; unfold bd at h9_6; omega) _ _ _ _ g9  hl9
                · have fc_62 := neq_f c_62
                  have b_68 : bd 1 1 x_61 := neX fc_62 bx_61 kb_0 (by decide)
                  refine lv_iconst (v := 1) hx hb dX14_member_169 (by decide) ?_
                  refine lv_goto (tgt := 174) hx hb dX14_member_170 (by decide) ?_
                  refine lv_iadd hx hb dX14_member_174 ?_
                  refine lv_topi (fun y_69 ey_69 => ?_)
                  refine lv_istore (lv' := [(5, .int y_69), (6, .int v127_6), (4, .int x_29), (0, .ref a0_), (1, .int x1_), (2, .int x2_), (3, .int x3_)]) hx hb dX14_member_175 hl (by decide) rfl (fun ls hl => ?_)
                  obtain ⟨y_70, ey_70⟩ : ∃ z : Int32, z = v127_6 + 1 := ⟨_, rfl⟩
                  refine lv_iinc (v := y_70) (lv' := [(6, .int y_70), (5, .int y_69), (4, .int x_29), (0, .ref a0_), (1, .int x1_), (2, .int x2_), (3, .int x3_)]) hx hb dX14_member_177 hl (k := 1) rfl (by rw [ey_70]; rfl) (by decide) rfl (fun ls hl => ?_)
                  have ty_70 := add_bd ey_70 b_51 kb_1 (by decide)
                  have b_71 : bd 1 700 y_70 := add_rg ty_70 b_51 kb_1 (by decide)
                  refine lv_goto (tgt := 127) hx hb dX14_member_180 (by decide) ?_
                  have hl9 := lv_sub hl [0, 1, 2, 3, 4, 5, 6] (by rfl : lv_pick [(6, .int y_70), (5, .int y_69), (4, .int x_29), (0, .ref a0_), (1, .int x1_), (2, .int x2_), (3, .int x3_)] [0, 1, 2, 3, 4, 5, 6] = [(6, .int y_70), (5, .int y_69), (4, .int x_29), (0, .ref a0_), (1, .int x1_), (2, .int x2_), (3, .int x3_)])
                  have g9 := g.sub (fx' := [(12, 14, a_7, .ref a_24), (12, 15, a_7, .ref a_8), (14, 1, a0_, .ref a_7)]) [3, 4, 5] rfl
                  exact ih127  y_70 y_69 (bd_sub b_71 (by decide)) (by have h9_0 := b_71; unfold bd at h9_0; have h9_1 := bdT v127_5; unfold bd at h9_1; have h9_2 := bdT y_69; unfold bd at h9_2; have h9_3 := bv127_6; unfold bd at h9_3; have h9_4 := kb_0; unfold bd at h9_4; have h9_5 := kb_1; unfold bd at h9_5; have h9_6 := kb_3; unfold bd at h9_6; omega) _ _ _ _ g9  hl9
        have hl9 := lv_sub hl [0, 1, 2, 3, 4, 5, 6] (by rfl : lv_pick [(6, .int 0), (5, .int 0), (4, .int x_29), (0, .ref a0_), (1, .int x1_), (2, .int x2_), (3, .int x3_)] [0, 1, 2, 3, 4, 5, 6] = [(6, .int 0), (5, .int 0), (4, .int x_29), (0, .ref a0_), (1, .int x1_), (2, .int x2_), (3, .int x3_)])
        have g9 := g.sub (fx' := [(12, 14, a_7, .ref a_24), (12, 15, a_7, .ref a_8), (14, 1, a0_, .ref a_7)]) [0, 1, 2] rfl
        exact loop_48 (1403) 0 0 (bd_sub kb_0 (by decide)) (by have h9_0 := kb_0; unfold bd at h9_0; have h9_1 := kb_1; unfold bd at h9_1; have h9_2 := kb_3; unfold bd at h9_2; omega) _ _ _ _ g9  hl9
      by_cases e_72 : x3_ = 4
      · refine lv_topi (fun z_73 ez_73 => ?_)
        obtain rfl : z_73 = 4 := ez_73.trans e_72
        have kb_4 : bd 4 4 (4 : Int32) := ⟨by decide, by decide⟩
        have b_74 : bd 4 4 x3_ := eqX (eq_f e_72) (bdT x3_) kb_4 (by decide)
        refine lv_tableIn (off := 138) (tgt := 186) hx hb dX14_member_48 (by decide) (by decide) rfl (by decide) ?_
        refine lv_aload_n hx hb dX14_member_186 rfl (lv_at hl 1 rfl) ?_
        refine g_getk (C := RX14) (T := TX14) (N := 67) hx hb hts (mc_ inX14) hown hK g rfl 1 (by decide) rfl (hts _ (List.mem_cons_of_mem _ t_2147)) (fun _ h9 => h9) 2 rfl dX14_member_187 ?_
        refine g_getr (K := 182) (C := RX12) (T := TX12) (N := 60) hx hb hts (mc_ inX12) hown hK g ma_7 ka_7 (by decide) rfl 26 (by decide) rfl (hts _ (List.mem_cons_of_mem _ t_1958)) (fun _ h9 => h9) rfl dX14_member_190 (fun a_75 ma_75 ka_75 g => ?_)
        refine lv_iload hx hb dX14_member_193 (lv_at hl 0 rfl) ?_
        refine g_zald hx hb hK g ma_75 ka_75 (by decide) rfl (in_bd bx_29 (by decide)) dX14_member_195 (fun x_76 bx_76 => ?_)
        refine lv_if_eq (tgt := 203) hx hb dX14_member_196 (by decide) (fun c_77 => ?_) (fun c_77 => ?_)
        · have fc_77 := eq_f c_77
          have b_78 : bd 0 0 x_76 := eqX fc_77 bx_76 kb_0 (by decide)
          refine lv_iconst (v := 0) hx hb dX14_member_203 (by decide) ?_
          subst hQ
          exact W.iret (v := 0) hx hb hr (fun t ht hW => ⟨⟨_, _, rfl, trivial, q3_of g hK ht hW⟩, g.2.2.1.F ht⟩) g.2.2.1.2.2 dX14_member_204
        · have fc_77 := neq_f c_77
          have b_79 : bd 1 1 x_76 := neX fc_77 bx_76 kb_0 (by decide)
          refine lv_iconst (v := 1) hx hb dX14_member_199 (by decide) ?_
          refine lv_goto (tgt := 204) hx hb dX14_member_200 (by decide) ?_
          subst hQ
          exact W.iret (v := 1) hx hb hr (fun t ht hW => ⟨⟨_, _, rfl, trivial, q3_of g hK ht hW⟩, g.2.2.1.F ht⟩) g.2.2.1.2.2 dX14_member_204
      by_cases e_80 : x3_ = 5
      · refine lv_topi (fun z_81 ez_81 => ?_)
        obtain rfl : z_81 = 5 := ez_81.trans e_80
        have kb_5 : bd 5 5 (5 : Int32) := ⟨by decide, by decide⟩
        have b_82 : bd 5 5 x3_ := eqX (eq_f e_80) (bdT x3_) kb_5 (by decide)
        refine lv_tableIn (off := 157) (tgt := 205) hx hb dX14_member_48 (by decide) (by decide) rfl (by decide) ?_
        refine lv_aload_n hx hb dX14_member_205 rfl (lv_at hl 1 rfl) ?_
        refine g_getk (C := RX14) (T := TX14) (N := 67) hx hb hts (mc_ inX14) hown hK g rfl 1 (by decide) rfl (hts _ (List.mem_cons_of_mem _ t_2147)) (fun _ h9 => h9) 2 rfl dX14_member_206 ?_
        refine g_getr (K := 181) (C := RX12) (T := TX12) (N := 60) hx hb hts (mc_ inX12) hown hK g ma_7 ka_7 (by decide) rfl 25 (by decide) rfl (hts _ (List.mem_cons_of_mem _ t_1956)) (fun _ h9 => h9) rfl dX14_member_209 (fun a_83 ma_83 ka_83 g => ?_)
        refine lv_iload hx hb dX14_member_212 (lv_at hl 0 rfl) ?_
        refine g_iald hx hb hK g ma_83 ka_83 (by decide) rfl (in_bd bx_29 (by decide)) dX14_member_214 (fun x_84 bx_84 cx_84 => ?_)
        subst hQ
        exact W.iret (v := x_84) hx hb hr (fun t ht hW => ⟨⟨_, _, rfl, trivial, q3_of g hK ht hW⟩, g.2.2.1.F ht⟩) g.2.2.1.2.2 dX14_member_215
      refine lv_tableOut (tgt := 216) hx hb dX14_member_48 (by have a0 : x3_.toInt ≠ 0 := fun h => e_30 (Int32.toInt_inj.mp (h.trans (by decide))); have a1 : x3_.toInt ≠ 1 := fun h => e_35 (Int32.toInt_inj.mp (h.trans (by decide))); have a2 : x3_.toInt ≠ 2 := fun h => e_40 (Int32.toInt_inj.mp (h.trans (by decide))); have a3 : x3_.toInt ≠ 3 := fun h => e_45 (Int32.toInt_inj.mp (h.trans (by decide))); have a4 : x3_.toInt ≠ 4 := fun h => e_72 (Int32.toInt_inj.mp (h.trans (by decide))); have a5 : x3_.toInt ≠ 5 := fun h => e_80 (Int32.toInt_inj.mp (h.trans (by decide))); omega) (by decide) ?_
      refine lv_iconst (v := (-1)) hx hb dX14_member_216 (by decide) ?_
      subst hQ
      exact W.iret (v := (-1)) hx hb hr (fun t ht hW => ⟨⟨_, _, rfl, trivial, q3_of g hK ht hW⟩, g.2.2.1.F ht⟩) g.2.2.1.2.2 dX14_member_217
set_option maxHeartbeats 4000000 in
set_option maxRecDepth 100000 in
theorem r_X14_ends (l : Launch) (dC : Nat → ClassId) (dI : Nat → Nat → Nat) (L : List Nat) (kd : Nat → Nat) (tys : List (ClassId × FieldType)) (f0 : Nat → va_E) (sz : Nat) (hWT : WT L kd tys f0) (a0_ : Nat) (ma0_ : a0_ ∈ L) (ka0_ : kd a0_ = 14) (x1_ : Int32) : MetE l yX14_ends (.code yX14_ends cX14_ends 2 none :: lw_g) ({ frames := 0, cells := 0, slots := 0, locals := 0 }) (va_Pc [.ref a0_, .int x1_] (P3 (dC, dI) L tys f0 sz)) (q3E (dC, dI) L kd tys [(14, 31)] [] f0 sz (pRv (fun (f : Nat → va_E) => False)) (fun (f : Nat → va_E) => True)) 0 0 (pA L sz) := by
  refine MetE.ofW (cc := cX14_ends) (maxL := 2) (ret := none) (by decide) rfl ?_
  intro p e s m args below meth c s₁ B hml hempty hv
  obtain ⟨rfl, hsz, hP, hK, hD0⟩ := hv
  have hx := B.exec
  have hb := B.bytes
  have hr := B.returns
  have hts := atoms_spec (ws := (.code yX14_ends cX14_ends 2 none :: lw_g)) B.pre
  have hown : s.vm.findClass RX14 = some m.cls := findClass_of_methodNamed B.named
  have hlocks := B.notSynchronized
  subst hsz
  have g : G3 (dC, dI) L kd tys s f0 [(14, 31)] [] f0 s.heap [] [] := G3.start hP hD0 hWT Fs.nil
  have hl := lv_entry ([.ref a0_, .int x1_]) (n := 2) (Nat.le_of_ble_eq_true rfl)
  rw [lg_entry_eq]
  generalize (lg_sl ([.ref a0_, .int x1_]) ++ List.replicate (2 - (lg_sl ([.ref a0_, .int x1_])).length) Slot.unset).toArray = ls at hl ⊢
  have hl : lv_has ls 2 [(0, .ref a0_), (1, .int x1_)] := hl
  refine W_q (fun Q hQ => ?_)
  refine lv_aload_n hx hb dX14_ends_0 rfl (lv_at hl 0 rfl) ?_
  refine lv_iload_n hx hb dX14_ends_1 rfl (lv_at hl 1 rfl) ?_
  refine g_put (C := RX14) (T := TX14) (N := 67) hx hb hts (mc_ inX14) tyX14 tyX14_ok nmX14 hown hK g ma0_ ka0_ (by decide) rfl 31 (by decide) (hts _ (List.mem_cons_of_mem _ t_2177)) (fun _ h9 => h9) rfl rfl (okV_i (bdT x1_)) rfl rfl (by decide) (Or.inr (Or.inl (by decide))) (fx' := []) rfl dX14_ends_2 (fun f H locs hM_1 g => ?_)
  refine lv_aload_n hx hb dX14_ends_5 rfl (lv_at hl 0 rfl) ?_
  refine g_getr (K := 13) (C := RX14) (T := TX14) (N := 67) hx hb hts (mc_ inX14) hown hK g ma0_ ka0_ (by decide) rfl 0 (by decide) rfl (hts _ (List.mem_cons_of_mem _ t_2146)) (fun _ h9 => h9) rfl dX14_ends_6 (fun a_2 ma_2 ka_2 g => ?_)
  subst hQ
  exact e_athrow hx hb hempty hlocks (fun t ht hW => g_thrE g hK ma_2 ka_2 trivial ht hW) g.2.2.1.2.2 dX14_ends_9
