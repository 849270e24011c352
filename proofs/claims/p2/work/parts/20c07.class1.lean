set_option maxHeartbeats 4000000 in
set_option maxRecDepth 100000 in
theorem r_X1_readyToCall (l : Launch) (dC : Nat → ClassId) (dI : Nat → Nat → Nat) (L : List Nat) (kd : Nat → Nat) (tys : List (ClassId × FieldType)) (f0 : Nat → va_E) (sz : Nat) (hWT : WT L kd tys f0) (a0_ : Nat) (ma0_ : a0_ ∈ L) (ka0_ : kd a0_ = 1) (a1_ : Nat) (ma1_ : a1_ ∈ L) (ka1_ : kd a1_ = 6) : Met l yX1_readyToCall (.code yX1_readyToCall cX1_readyToCall 2 none :: lw_g) ({ frames := 0, cells := 0, slots := 0, locals := 0 }) (va_Pc [.ref a0_, .ref a1_] (P3 (dC, dI) L tys f0 sz)) (va_Qv (fun (f : Nat → va_E) => (Fs L kd f [(1, 12, a0_, .int 1), (1, 6, a0_, .int 0), (1, 5, a0_, .int 0)])) (Q3 (dC, dI) L kd tys [(1, 5), (1, 6), (1, 12), (1, 13)] [] f0 sz) (pA L sz)) 0 0 (pA L sz) := by
  refine Met.ofW (cc := cX1_readyToCall) (maxL := 2) (ret := none) (by decide) rfl ?_
  intro p e s m args below meth c s₁ B hml hv
  obtain ⟨rfl, hsz, hP, hK, hD0⟩ := hv
  have hx := B.exec
  have hb := B.bytes
  have hr := B.returns
  have hts := atoms_spec (ws := (.code yX1_readyToCall cX1_readyToCall 2 none :: lw_g)) B.pre
  have hown : s.vm.findClass RX1 = some m.cls := findClass_of_methodNamed B.named
  have hlocks := B.notSynchronized
  subst hsz
  have g : G3 (dC, dI) L kd tys s f0 [(1, 5), (1, 6), (1, 12), (1, 13)] [] f0 s.heap [] [] := G3.start hP hD0 hWT Fs.nil
  have hl := lv_entry ([.ref a0_, .ref a1_]) (n := 2) (Nat.le_of_ble_eq_true rfl)
  rw [lg_entry_eq]
  generalize (lg_sl ([.ref a0_, .ref a1_]) ++ List.replicate (2 - (lg_sl ([.ref a0_, .ref a1_])).length) Slot.unset).toArray = ls at hl ⊢
  have hl : lv_has ls 2 [(0, .ref a0_), (1, .ref a1_)] := hl
  refine W_q (fun Q hQ => ?_)
  refine lv_aload_n hx hb dX1_readyToCall_0 rfl (lv_at hl 0 rfl) ?_
  refine lv_iconst (v := 0) hx hb dX1_readyToCall_1 (by decide) ?_
  have kb_0 : bd 0 0 (0 : Int32) := ⟨by decide, by decide⟩
  refine g_put (C := RX1) (T := TX1) (N := 18) hx hb hts (mc_ inX1) tyX1 tyX1_ok nmX1 hown hK g ma0_ ka0_ (by decide) rfl 5 (by decide) (hts _ (List.mem_cons_of_mem _ t_740)) (fun _ h9 => h9) rfl rfl (okV_i (bd_sub kb_0 (by decide))) rfl rfl (by decide) (Or.inr (Or.inl (by decide))) (fx' := []) rfl dX1_readyToCall_2 (fun f H locs hM_1 g => ?_)
  refine lv_aload_n hx hb dX1_readyToCall_5 rfl (lv_at hl 0 rfl) ?_
  refine lv_iconst (v := 0) hx hb dX1_readyToCall_6 (by decide) ?_
  refine g_put (C := RX1) (T := TX1) (N := 18) hx hb hts (mc_ inX1) tyX1 tyX1_ok nmX1 hown hK g ma0_ ka0_ (by decide) rfl 6 (by decide) (hts _ (List.mem_cons_of_mem _ t_741)) (fun _ h9 => h9) rfl rfl (okV_i (bd_sub kb_0 (by decide))) rfl rfl (by decide) (Or.inr (Or.inl (by decide))) (fx' := [(1, 5, a0_, .int 0)]) rfl dX1_readyToCall_7 (fun f H locs hM_2 g => ?_)
  refine lv_aload_n hx hb dX1_readyToCall_10 rfl (lv_at hl 0 rfl) ?_
  refine lv_iconst (v := 1) hx hb dX1_readyToCall_11 (by decide) ?_
  have kb_1 : bd 1 1 (1 : Int32) := ⟨by decide, by decide⟩
  refine g_put (C := RX1) (T := TX1) (N := 18) hx hb hts (mc_ inX1) tyX1 tyX1_ok nmX1 hown hK g ma0_ ka0_ (by decide) rfl 12 (by decide) (hts _ (List.mem_cons_of_mem _ t_747)) (fun _ h9 => h9) rfl rfl (okV_i (bd_sub kb_1 (by decide))) rfl rfl (by decide) (Or.inr (Or.inl (by decide))) (fx' := [(1, 6, a0_, .int 0), (1, 5, a0_, .int 0)]) rfl dX1_readyToCall_12 (fun f H locs hM_3 g => ?_)
  refine lv_aload_n hx hb dX1_readyToCall_15 rfl (lv_at hl 0 rfl) ?_
  refine lv_aload_n hx hb dX1_readyToCall_16 rfl (lv_at hl 1 rfl) ?_
  refine g_geti (C := RX6) (T := TX6) (N := 13) hx hb hts (mc_ inX6) hown hK g ma1_ ka1_ (by decide) rfl 8 (by decide) rfl (hts _ (List.mem_cons_of_mem _ t_582)) (fun _ h9 => h9) rfl dX1_readyToCall_17 (fun x_4 bx_4 g => ?_)
  refine g_put (C := RX1) (T := TX1) (N := 18) hx hb hts (mc_ inX1) tyX1 tyX1_ok nmX1 hown hK g ma0_ ka0_ (by decide) rfl 13 (by decide) (hts _ (List.mem_cons_of_mem _ t_748)) (fun _ h9 => h9) rfl rfl (okV_i (bdT x_4)) rfl rfl (by decide) (Or.inr (Or.inl (by decide))) (fx' := [(6, 8, a1_, .int x_4), (1, 12, a0_, .int 1), (1, 6, a0_, .int 0), (1, 5, a0_, .int 0)]) rfl dX1_readyToCall_20 (fun f H locs hM_5 g => ?_)
  subst hQ
  exact W.vret hx hb hr (fun t ht hW => ⟨⟨_, rfl, (g.fcts [2, 3, 4] rfl), q3_of g hK ht hW⟩, g.2.2.1.F ht⟩) g.2.2.1.2.2 dX1_readyToCall_23
set_option maxHeartbeats 4000000 in
set_option maxRecDepth 100000 in
theorem r_X1_begin (l : Launch) (dC : Nat → ClassId) (dI : Nat → Nat → Nat) (L : List Nat) (kd : Nat → Nat) (tys : List (ClassId × FieldType)) (f0 : Nat → va_E) (sz : Nat) (hWT : WT L kd tys f0) (a0_ : Nat) (ma0_ : a0_ ∈ L) (ka0_ : kd a0_ = 1) : Met l yX1_begin (.code yX1_begin cX1_begin 2 none :: lw_g) ({ frames := 0, cells := 0, slots := 0, locals := 0 }) (va_Pc [.ref a0_] (P3 (dC, dI) L tys f0 sz)) (va_Qv (fun (f : Nat → va_E) => (∃ z4_ : Int32, bd 0 1 z4_ ∧ Fs L kd f [(1, 16, a0_, .int 0), (1, 15, a0_, .int 0), (1, 14, a0_, .int 0), (1, 8, a0_, .int 0), (1, 11, a0_, .int z4_)])) (Q3 (dC, dI) L kd tys [(1, 8), (1, 11), (1, 14), (1, 15), (1, 16)] [116] f0 sz) (pA L sz)) 0 0 (pA L sz) := by
  refine Met.ofW (cc := cX1_begin) (maxL := 2) (ret := none) (by decide) rfl ?_
  intro p e s m args below meth c s₁ B hml hv
  obtain ⟨rfl, hsz, hP, hK, hD0⟩ := hv
  have hx := B.exec
  have hb := B.bytes
  have hr := B.returns
  have hts := atoms_spec (ws := (.code yX1_begin cX1_begin 2 none :: lw_g)) B.pre
  have hown : s.vm.findClass RX1 = some m.cls := findClass_of_methodNamed B.named
  have hlocks := B.notSynchronized
  subst hsz
  have g : G3 (dC, dI) L kd tys s f0 [(1, 8), (1, 11), (1, 14), (1, 15), (1, 16)] [116] f0 s.heap [] [] := G3.start hP hD0 hWT Fs.nil
  have hl := lv_entry ([.ref a0_]) (n := 2) (Nat.le_of_ble_eq_true rfl)
  rw [lg_entry_eq]
  generalize (lg_sl ([.ref a0_]) ++ List.replicate (2 - (lg_sl ([.ref a0_])).length) Slot.unset).toArray = ls at hl ⊢
  have hl : lv_has ls 2 [(0, .ref a0_)] := hl
  refine W_q (fun Q hQ => ?_)
  refine lv_aload_n hx hb dX1_begin_0 rfl (lv_at hl 0 rfl) ?_
  refine lv_aload_n hx hb dX1_begin_1 rfl (lv_at hl 0 rfl) ?_
  refine g_geti (C := RX1) (T := TX1) (N := 18) hx hb hts (mc_ inX1) hown hK g ma0_ ka0_ (by decide) rfl 12 (by decide) rfl (hts _ (List.mem_cons_of_mem _ t_747)) (fun _ h9 => h9) rfl dX1_begin_2 (fun x_1 bx_1 g => ?_)
  refine g_put (C := RX1) (T := TX1) (N := 18) hx hb hts (mc_ inX1) tyX1 tyX1_ok nmX1 hown hK g ma0_ ka0_ (by decide) rfl 11 (by decide) (hts _ (List.mem_cons_of_mem _ t_746)) (fun _ h9 => h9) rfl rfl (okV_i (bd_sub bx_1 (by decide))) rfl rfl (by decide) (Or.inr (Or.inl (by decide))) (fx' := [(1, 12, a0_, .int x_1)]) rfl dX1_begin_5 (fun f H locs hM_2 g => ?_)
  refine lv_aload_n hx hb dX1_begin_8 rfl (lv_at hl 0 rfl) ?_
  refine lv_iconst (v := 0) hx hb dX1_begin_9 (by decide) ?_
  have kb_0 : bd 0 0 (0 : Int32) := ⟨by decide, by decide⟩
  refine g_put (C := RX1) (T := TX1) (N := 18) hx hb hts (mc_ inX1) tyX1 tyX1_ok nmX1 hown hK g ma0_ ka0_ (by decide) rfl 8 (by decide) (hts _ (List.mem_cons_of_mem _ t_743)) (fun _ h9 => h9) rfl rfl (okV_i (bd_sub kb_0 (by decide))) rfl rfl (by decide) (Or.inr (Or.inl (by decide))) (fx' := [(1, 11, a0_, .int x_1), (1, 12, a0_, .int x_1)]) rfl dX1_begin_10 (fun f H locs hM_3 g => ?_)
  refine lv_aload_n hx hb dX1_begin_13 rfl (lv_at hl 0 rfl) ?_
  refine lv_iconst (v := 0) hx hb dX1_begin_14 (by decide) ?_
  refine g_put (C := RX1) (T := TX1) (N := 18) hx hb hts (mc_ inX1) tyX1 tyX1_ok nmX1 hown hK g ma0_ ka0_ (by decide) rfl 14 (by decide) (hts _ (List.mem_cons_of_mem _ t_749)) (fun _ h9 => h9) rfl rfl (okV_i (bd_sub kb_0 (by decide))) rfl rfl (by decide) (Or.inr (Or.inl (by decide))) (fx' := [(1, 8, a0_, .int 0), (1, 11, a0_, .int x_1), (1, 12, a0_, .int x_1)]) rfl dX1_begin_15 (fun f H locs hM_4 g => ?_)
  refine lv_aload_n hx hb dX1_begin_18 rfl (lv_at hl 0 rfl) ?_
  refine lv_iconst (v := 0) hx hb dX1_begin_19 (by decide) ?_
  refine g_put (C := RX1) (T := TX1) (N := 18) hx hb hts (mc_ inX1) tyX1 tyX1_ok nmX1 hown hK g ma0_ ka0_ (by decide) rfl 15 (by decide) (hts _ (List.mem_cons_of_mem _ t_750)) (fun _ h9 => h9) rfl rfl (okV_i (bd_sub kb_0 (by decide))) rfl rfl (by decide) (Or.inr (Or.inl (by decide))) (fx' := [(1, 14, a0_, .int 0), (1, 8, a0_, .int 0), (1, 11, a0_, .int x_1), (1, 12, a0_, .int x_1)]) rfl dX1_begin_20 (fun f H locs hM_5 g => ?_)
  refine lv_aload_n hx hb dX1_begin_23 rfl (lv_at hl 0 rfl) ?_
  refine lv_iconst (v := 0) hx hb dX1_begin_24 (by decide) ?_
  refine g_put (C := RX1) (T := TX1) (N := 18) hx hb hts (mc_ inX1) tyX1 tyX1_ok nmX1 hown hK g ma0_ ka0_ (by decide) rfl 16 (by decide) (hts _ (List.mem_cons_of_mem _ t_752)) (fun _ h9 => h9) rfl rfl (okV_i (bd_sub kb_0 (by decide))) rfl rfl (by decide) (Or.inr (Or.inl (by decide))) (fx' := [(1, 15, a0_, .int 0), (1, 14, a0_, .int 0), (1, 8, a0_, .int 0), (1, 11, a0_, .int x_1), (1, 12, a0_, .int x_1)]) rfl dX1_begin_25 (fun f H locs hM_6 g => ?_)
  refine lv_iconst (v := 0) hx hb dX1_begin_28 (by decide) ?_
  refine lv_istore_n (lv' := [(1, .int 0), (0, .ref a0_)]) hx hb dX1_begin_29 rfl hl (by decide) rfl (fun ls hl => ?_)
  have loop_7 : ∀ (n : Nat) (v30_1 : Int32), bd 0 3 v30_1 → (3 - v30_1.toInt < (n : Int)) → ∀ (f : Nat → va_E) (H : Heap) (locs : List Loc) (ls : Array Slot), G3 (dC, dI) L kd tys s f0 [(1, 8), (1, 11), (1, 14), (1, 15), (1, 16)] [116] f H locs [(1, 16, a0_, .int 0), (1, 15, a0_, .int 0), (1, 14, a0_, .int 0), (1, 8, a0_, .int 0), (1, 11, a0_, .int x_1), (1, 12, a0_, .int x_1)] → lv_has ls 2 [(1, .int v30_1), (0, .ref a0_)] → W p l e ({ frames := 0, cells := 0, slots := 0, locals := 0 } : Room) s m [.ref a0_].toArray below meth c H locs 0 0 Q (F0 m 30 ls []) := by
    intro n30
    induction n30 with
    | zero =>
      intro v30_1 bv30_1 hm30 f H locs ls g  hl
      exact absurd hm30 (by have h9_v30_1 := bv30_1; unfold bd at h9_v30_1; omega)
    | succ n30 ih30 =>
      intro v30_1 bv30_1 hm30 f H locs ls g  hl
      refine lv_iload_n hx hb dX1_begin_30 rfl (lv_at hl 0 rfl) ?_
      refine lv_iconst (v := 3) hx hb dX1_begin_31 (by decide) ?_
      have kb_3 : bd 3 3 (3 : Int32) := ⟨by decide, by decide⟩
      refine lv_icmp_ge (tgt := 70) hx hb dX1_begin_32 (by decide) (fun c_8 => ?_) (fun c_8 => ?_)
      · have fc_8 := le_f c_8
        have b_9 : bd 3 3 v30_1 := leR fc_8 kb_3 bv30_1 (by decide)
        subst hQ
        exact W.vret hx hb hr (fun t ht hW => ⟨⟨_, rfl, ⟨x_1, bx_1, (g.fcts [0, 1, 2, 3, 4] rfl)⟩, q3_of g hK ht hW⟩, g.2.2.1.F ht⟩) g.2.2.1.2.2 dX1_begin_70
      · have fc_8 := nle_f c_8
        have b_10 : bd 0 2 v30_1 := ltL fc_8 bv30_1 kb_3 (by decide)
        refine lv_iload_n hx hb dX1_begin_35 rfl (lv_at hl 0 rfl) ?_
        refine lv_aload_n hx hb dX1_begin_36 rfl (lv_at hl 1 rfl) ?_
        refine g_getu (lo := 100) (hi := 103) (C := RX1) (T := TX1) (N := 18) hx hb hts (mc_ inX1) hown hK g ma0_ ka0_ (by decide) rfl 4 (by decide) rfl (hts _ (List.mem_cons_of_mem _ t_739)) (fun _ h9 => h9) rfl dX1_begin_37 (fun a_11 ma_11 ka_11 g => ?_)
        refine g_alenU hx hb hK g ma_11 ka_11 dX1_begin_40 (fun x_12 ex_12 bx_12 => ?_)
        refine lv_icmp_ge (tgt := 70) hx hb dX1_begin_41 (by decide) (fun c_13 => ?_) (fun c_13 => ?_)
        · have fc_13 := le_f c_13
          have b_14 : bd 3 2 x_12 := leL fc_13 bx_12 b_10 (by decide)
          exact bd_no b_14 (by decide)
        · have fc_13 := nle_f c_13
          refine lv_aload_n hx hb dX1_begin_44 rfl (lv_at hl 1 rfl) ?_
          refine g_getr (K := 116) (C := RX1) (T := TX1) (N := 18) hx hb hts (mc_ inX1) hown hK g ma0_ ka0_ (by decide) rfl 9 (by decide) rfl (hts _ (List.mem_cons_of_mem _ t_744)) (fun _ h9 => h9) rfl dX1_begin_45 (fun a_15 ma_15 ka_15 g => ?_)
          refine lv_aload_n hx hb dX1_begin_48 rfl (lv_at hl 1 rfl) ?_
          refine g_getk (C := RX1) (T := TX1) (N := 18) hx hb hts (mc_ inX1) hown hK g rfl 11 (by decide) rfl (hts _ (List.mem_cons_of_mem _ t_746)) (fun _ h9 => h9) 6 rfl dX1_begin_49 ?_
          refine lv_bipush (v := 11) hx hb dX1_begin_52 (by decide) ?_
          refine lv_imul hx hb dX1_begin_54 ?_
          refine lv_topi (fun y_16 ey_16 => ?_)
          have ty_16 := mulc_bd ey_16 (c := 11) (by decide) bx_1 (by decide)
          have b_17 : bd 0 11 y_16 := mulc_rg ty_16 bx_1 (by decide)
          refine lv_iload_n hx hb dX1_begin_55 rfl (lv_at hl 0 rfl) ?_
          refine lv_iadd hx hb dX1_begin_56 ?_
          refine lv_topi (fun y_18 ey_18 => ?_)
          have ty_18 := add_bd ey_18 b_17 b_10 (by decide)
          have b_19 : bd 0 13 y_18 := add_rg ty_18 b_17 b_10 (by decide)
          refine lv_aload_n hx hb dX1_begin_57 rfl (lv_at hl 1 rfl) ?_
          refine g_getk (C := RX1) (T := TX1) (N := 18) hx hb hts (mc_ inX1) hown hK g rfl 4 (by decide) rfl (hts _ (List.mem_cons_of_mem _ t_739)) (fun _ h9 => h9) 1 rfl dX1_begin_58 ?_
          refine lv_iload_n hx hb dX1_begin_61 rfl (lv_at hl 0 rfl) ?_
          refine g_ialdU hx hb hK g ma_11 ka_11 (in_ok (by have h9 := b_10; unfold bd at h9; omega) (by omega)) dX1_begin_62 (fun x_20 => ?_)
          refine g_iast hx hb hK g ma_15 ka_15 (by decide) rfl (in_bd b_19 (by decide)) (bdT x_20) (by decide) dX1_begin_63 (fun f H locs hM_21 g => ?_)
          have kb_1 : bd 1 1 (1 : Int32) := ⟨by decide, by decide⟩
          obtain ⟨y_22, ey_22⟩ : ∃ z : Int32, z = v30_1 + 1 := ⟨_, rfl⟩
          refine lv_iinc (v := y_22) (lv' := [(1, .int y_22), (0, .ref a0_)]) hx hb dX1_begin_64 hl (k := 0) rfl (by rw [ey_22]; rfl) (by decide) rfl (fun ls hl => ?_)
          have ty_22 := add_bd ey_22 b_10 kb_1 (by decide)
          have b_23 : bd 1 3 y_22 := add_rg ty_22 b_10 kb_1 (by decide)
          refine lv_goto (tgt := 30) hx hb dX1_begin_67 (by decide) ?_
          have hl9 := lv_sub hl [0, 1] (by rfl : lv_pick [(1, .int y_22), (0, .ref a0_)] [0, 1] = [(1, .int y_22), (0, .ref a0_)])
          have g9 := g.sub (fx' := [(1, 16, a0_, .int 0), (1, 15, a0_, .int 0), (1, 14, a0_, .int 0), (1, 8, a0_, .int 0), (1, 11, a0_, .int x_1), (1, 12, a0_, .int x_1)]) [2, 3, 4, 5, 6, 7] rfl
          exact ih30  y_22 (bd_sub b_23 (by decide)) (by have h9_0 := b_23; unfold bd at h9_0; have h9_1 := bv30_1; unfold bd at h9_1; have h9_2 := kb_0; unfold bd at h9_2; have h9_3 := kb_1; unfold bd at h9_3; have h9_4 := kb_3; unfold bd at h9_4; omega) _ _ _ _ g9  hl9
  have hl9 := lv_sub hl [0, 1] (by rfl : lv_pick [(1, .int 0), (0, .ref a0_)] [0, 1] = [(1, .int 0), (0, .ref a0_)])
  have g9 := g.sub (fx' := [(1, 16, a0_, .int 0), (1, 15, a0_, .int 0), (1, 14, a0_, .int 0), (1, 8, a0_, .int 0), (1, 11, a0_, .int x_1), (1, 12, a0_, .int x_1)]) [0, 1, 2, 3, 4, 5] rfl
  exact loop_7 (9) 0 (bd_sub kb_0 (by decide)) (by have h9_0 := kb_0; unfold bd at h9_0; omega) _ _ _ _ g9  hl9
set_option maxHeartbeats 4000000 in
set_option maxRecDepth 100000 in
theorem r_X1_push (l : Launch) (dC : Nat → ClassId) (dI : Nat → Nat → Nat) (L : List Nat) (kd : Nat → Nat) (tys : List (ClassId × FieldType)) (f0 : Nat → va_E) (sz : Nat) (hWT : WT L kd tys f0) (a0_ : Nat) (ma0_ : a0_ ∈ L) (ka0_ : kd a0_ = 1) (x1_ : Int32) : Met l yX1_push (.code yX1_push cX1_push 2 none :: lw_g) ({ frames := 0, cells := 0, slots := 0, locals := 0 }) (va_Pc [.ref a0_, .int x1_] (P3 (dC, dI) L tys f0 sz)) (va_Qv (fun (f : Nat → va_E) => (∃ z0_ : Int32, bd 1 700 z0_ ∧ Fs L kd f [(1, 8, a0_, .int z0_)])) (Q3 (dC, dI) L kd tys [(1, 8)] [100] f0 sz) (pA L sz)) 0 0 (pA L sz) := by
  refine Met.ofW (cc := cX1_push) (maxL := 2) (ret := none) (by decide) rfl ?_
  intro p e s m args below meth c s₁ B hml hv
  obtain ⟨rfl, hsz, hP, hK, hD0⟩ := hv
  have hx := B.exec
  have hb := B.bytes
  have hr := B.returns
  have hts := atoms_spec (ws := (.code yX1_push cX1_push 2 none :: lw_g)) B.pre
  have hown : s.vm.findClass RX1 = some m.cls := findClass_of_methodNamed B.named
  have hlocks := B.notSynchronized
  subst hsz
  have g : G3 (dC, dI) L kd tys s f0 [(1, 8)] [100] f0 s.heap [] [] := G3.start hP hD0 hWT Fs.nil
  have hl := lv_entry ([.ref a0_, .int x1_]) (n := 2) (Nat.le_of_ble_eq_true rfl)
  rw [lg_entry_eq]
  generalize (lg_sl ([.ref a0_, .int x1_]) ++ List.replicate (2 - (lg_sl ([.ref a0_, .int x1_])).length) Slot.unset).toArray = ls at hl ⊢
  have hl : lv_has ls 2 [(0, .ref a0_), (1, .int x1_)] := hl
  refine W_q (fun Q hQ => ?_)
  refine lv_aload_n hx hb dX1_push_0 rfl (lv_at hl 0 rfl) ?_
  refine g_geti (C := RX1) (T := TX1) (N := 18) hx hb hts (mc_ inX1) hown hK g ma0_ ka0_ (by decide) rfl 8 (by decide) rfl (hts _ (List.mem_cons_of_mem _ t_743)) (fun _ h9 => h9) rfl dX1_push_1 (fun x_1 bx_1 g => ?_)
  refine lv_sipush (v := 700) hx hb dX1_push_4 (by decide) ?_
  have kb_700 : bd 700 700 (700 : Int32) := ⟨by decide, by decide⟩
  refine lv_icmp_ge (tgt := 30) hx hb dX1_push_7 (by decide) (fun c_2 => ?_) (fun c_2 => ?_)
  · have fc_2 := le_f c_2
    have b_3 : bd 700 700 x_1 := leR fc_2 kb_700 bx_1 (by decide)
    subst hQ
    exact W.vret hx hb hr (fun t ht hW => ⟨⟨_, rfl, ⟨x_1, (bd_sub b_3 (by decide)), (g.fcts [0] rfl)⟩, q3_of g hK ht hW⟩, g.2.2.1.F ht⟩) g.2.2.1.2.2 dX1_push_30
  · have fc_2 := nle_f c_2
    have b_4 : bd 0 699 x_1 := ltL fc_2 bx_1 kb_700 (by decide)
    refine lv_aload_n hx hb dX1_push_10 rfl (lv_at hl 0 rfl) ?_
    refine g_getr (K := 100) (C := RX1) (T := TX1) (N := 18) hx hb hts (mc_ inX1) hown hK g ma0_ ka0_ (by decide) rfl 7 (by decide) rfl (hts _ (List.mem_cons_of_mem _ t_742)) (fun _ h9 => h9) rfl dX1_push_11 (fun a_5 ma_5 ka_5 g => ?_)
    refine lv_aload_n hx hb dX1_push_14 rfl (lv_at hl 0 rfl) ?_
    refine g_getk (C := RX1) (T := TX1) (N := 18) hx hb hts (mc_ inX1) hown hK g rfl 8 (by decide) rfl (hts _ (List.mem_cons_of_mem _ t_743)) (fun _ h9 => h9) 1 rfl dX1_push_15 ?_
    refine lv_iload_n hx hb dX1_push_18 rfl (lv_at hl 1 rfl) ?_
    refine g_iast hx hb hK g ma_5 ka_5 (by decide) rfl (in_bd b_4 (by decide)) (bdT x1_) (by decide) dX1_push_19 (fun f H locs hM_6 g => ?_)
    refine lv_aload_n hx hb dX1_push_20 rfl (lv_at hl 0 rfl) ?_
    refine lv_dup hx hb dX1_push_21 rfl ?_
    refine g_getk (C := RX1) (T := TX1) (N := 18) hx hb hts (mc_ inX1) hown hK g rfl 8 (by decide) rfl (hts _ (List.mem_cons_of_mem _ t_743)) (fun _ h9 => h9) 1 rfl dX1_push_22 ?_
    refine lv_iconst (v := 1) hx hb dX1_push_25 (by decide) ?_
    have kb_1 : bd 1 1 (1 : Int32) := ⟨by decide, by decide⟩
    refine lv_iadd hx hb dX1_push_26 ?_
    refine lv_topi (fun y_7 ey_7 => ?_)
    have ty_7 := add_bd ey_7 b_4 kb_1 (by decide)
    have b_8 : bd 1 700 y_7 := add_rg ty_7 b_4 kb_1 (by decide)
    refine g_put (C := RX1) (T := TX1) (N := 18) hx hb hts (mc_ inX1) tyX1 tyX1_ok nmX1 hown hK g ma0_ ka0_ (by decide) rfl 8 (by decide) (hts _ (List.mem_cons_of_mem _ t_743)) (fun _ h9 => h9) rfl rfl (okV_i (bd_sub b_8 (by decide))) rfl rfl (by decide) (Or.inr (Or.inl (by decide))) (fx' := [(1, 7, a0_, .ref a_5)]) rfl dX1_push_27 (fun f H locs hM_9 g => ?_)
    subst hQ
    exact W.vret hx hb hr (fun t ht hW => ⟨⟨_, rfl, ⟨y_7, b_8, (g.fcts [0] rfl)⟩, q3_of g hK ht hW⟩, g.2.2.1.F ht⟩) g.2.2.1.2.2 dX1_push_30
set_option maxHeartbeats 4000000 in
set_option maxRecDepth 100000 in
theorem r_X1_pop (l : Launch) (dC : Nat → ClassId) (dI : Nat → Nat → Nat) (L : List Nat) (kd : Nat → Nat) (tys : List (ClassId × FieldType)) (f0 : Nat → va_E) (sz : Nat) (hWT : WT L kd tys f0) (a0_ : Nat) (ma0_ : a0_ ∈ L) (ka0_ : kd a0_ = 1) : Met l yX1_pop (.code yX1_pop cX1_pop 1 (some .int) :: lw_g) ({ frames := 0, cells := 0, slots := 0, locals := 0 }) (va_Pc [.ref a0_] (P3 (dC, dI) L tys f0 sz)) (va_Qi (fun (r : Int32) (f : Nat → va_E) => (∃ z0_ : Int32, bd 0 699 z0_ ∧ Fs L kd f [(1, 8, a0_, .int z0_)])) (Q3 (dC, dI) L kd tys [(1, 8)] [] f0 sz) (pA L sz)) 0 0 (pA L sz) := by
  refine Met.ofW (cc := cX1_pop) (maxL := 1) (ret := (some .int)) (by decide) rfl ?_
  intro p e s m args below meth c s₁ B hml hv
  obtain ⟨rfl, hsz, hP, hK, hD0⟩ := hv
  have hx := B.exec
  have hb := B.bytes
  have hr := B.returns
  have hts := atoms_spec (ws := (.code yX1_pop cX1_pop 1 (some .int) :: lw_g)) B.pre
  have hown : s.vm.findClass RX1 = some m.cls := findClass_of_methodNamed B.named
  have hlocks := B.notSynchronized
  subst hsz
  have g : G3 (dC, dI) L kd tys s f0 [(1, 8)] [] f0 s.heap [] [] := G3.start hP hD0 hWT Fs.nil
  have hl := lv_entry ([.ref a0_]) (n := 1) (Nat.le_of_ble_eq_true rfl)
  rw [lg_entry_eq]
  generalize (lg_sl ([.ref a0_]) ++ List.replicate (1 - (lg_sl ([.ref a0_])).length) Slot.unset).toArray = ls at hl ⊢
  have hl : lv_has ls 1 [(0, .ref a0_)] := hl
  refine W_q (fun Q hQ => ?_)
  refine lv_aload_n hx hb dX1_pop_0 rfl (lv_at hl 0 rfl) ?_
  refine g_geti (C := RX1) (T := TX1) (N := 18) hx hb hts (mc_ inX1) hown hK g ma0_ ka0_ (by decide) rfl 8 (by decide) rfl (hts _ (List.mem_cons_of_mem _ t_743)) (fun _ h9 => h9) rfl dX1_pop_1 (fun x_1 bx_1 g => ?_)
  have kb_0 : bd 0 0 (0 : Int32) := ⟨by decide, by decide⟩
  refine lv_if_ne (tgt := 9) hx hb dX1_pop_4 (by decide) (fun c_2 => ?_) (fun c_2 => ?_)
  · have fc_2 := neq_f c_2
    have b_3 : bd 1 700 x_1 := neX fc_2 bx_1 kb_0 (by decide)
    refine lv_aload_n hx hb dX1_pop_9 rfl (lv_at hl 0 rfl) ?_
    refine lv_dup hx hb dX1_pop_10 rfl ?_
    refine g_getk (C := RX1) (T := TX1) (N := 18) hx hb hts (mc_ inX1) hown hK g rfl 8 (by decide) rfl (hts _ (List.mem_cons_of_mem _ t_743)) (fun _ h9 => h9) 0 rfl dX1_pop_11 ?_
    refine lv_iconst (v := 1) hx hb dX1_pop_14 (by decide) ?_
    have kb_1 : bd 1 1 (1 : Int32) := ⟨by decide, by decide⟩
    refine lv_isub hx hb dX1_pop_15 ?_
    refine lv_topi (fun y_4 ey_4 => ?_)
    have ty_4 := sub_bd ey_4 b_3 kb_1 (by decide)
    have b_5 : bd 0 699 y_4 := sub_rg ty_4 b_3 kb_1 (by decide)
    refine g_put (C := RX1) (T := TX1) (N := 18) hx hb hts (mc_ inX1) tyX1 tyX1_ok nmX1 hown hK g ma0_ ka0_ (by decide) rfl 8 (by decide) (hts _ (List.mem_cons_of_mem _ t_743)) (fun _ h9 => h9) rfl rfl (okV_i (bd_sub b_5 (by decide))) rfl rfl (by decide) (Or.inr (Or.inl (by decide))) (fx' := []) rfl dX1_pop_16 (fun f H locs hM_6 g => ?_)
    refine lv_aload_n hx hb dX1_pop_19 rfl (lv_at hl 0 rfl) ?_
    refine g_getr (K := 100) (C := RX1) (T := TX1) (N := 18) hx hb hts (mc_ inX1) hown hK g ma0_ ka0_ (by decide) rfl 7 (by decide) rfl (hts _ (List.mem_cons_of_mem _ t_742)) (fun _ h9 => h9) rfl dX1_pop_20 (fun a_7 ma_7 ka_7 g => ?_)
    refine lv_aload_n hx hb dX1_pop_23 rfl (lv_at hl 0 rfl) ?_
    refine g_getk (C := RX1) (T := TX1) (N := 18) hx hb hts (mc_ inX1) hown hK g rfl 8 (by decide) rfl (hts _ (List.mem_cons_of_mem _ t_743)) (fun _ h9 => h9) 1 rfl dX1_pop_24 ?_
    refine g_iald hx hb hK g ma_7 ka_7 (by decide) rfl (in_bd b_5 (by decide)) dX1_pop_27 (fun x_8 bx_8 cx_8 => ?_)
    subst hQ
    exact W.iret (v := x_8) hx hb hr (fun t ht hW => ⟨⟨_, _, rfl, ⟨y_4, b_5, (g.fcts [1] rfl)⟩, q3_of g hK ht hW⟩, g.2.2.1.F ht⟩) g.2.2.1.2.2 dX1_pop_28
  · have fc_2 := eq_f c_2
    have b_9 : bd 0 0 x_1 := eqX fc_2 bx_1 kb_0 (by decide)
    refine lv_iconst (v := 0) hx hb dX1_pop_7 (by decide) ?_
    subst hQ
    exact W.iret (v := 0) hx hb hr (fun t ht hW => ⟨⟨_, _, rfl, ⟨x_1, (bd_sub b_9 (by decide)), (g.fcts [0] rfl)⟩, q3_of g hK ht hW⟩, g.2.2.1.F ht⟩) g.2.2.1.2.2 dX1_pop_8
set_option maxHeartbeats 4000000 in
set_option maxRecDepth 100000 in
theorem r_X1_reckon (l : Launch) (dC : Nat → ClassId) (dI : Nat → Nat → Nat) (L : List Nat) (kd : Nat → Nat) (tys : List (ClassId × FieldType)) (f0 : Nat → va_E) (sz : Nat) (hWT : WT L kd tys f0) (a0_ : Nat) (ma0_ : a0_ ∈ L) (ka0_ : kd a0_ = 1) (x1_ : Int32) (x2_ : Int32) (x3_ : Int32) : Met l yX1_reckon (.code yX1_reckon cX1_reckon 4 (some .int) :: lw_g) ({ frames := 0, cells := 0, slots := 0, locals := 0 }) (va_Pc [.ref a0_, .int x1_, .int x2_, .int x3_] (P3 (dC, dI) L tys f0 sz)) (va_Qi (fun (r : Int32) (f : Nat → va_E) => (True)) (Q3 (dC, dI) L kd tys [(1, 15), (1, 17)] [] f0 sz) (pA L sz)) 0 0 (pA L sz) := by
  refine Met.ofW (cc := cX1_reckon) (maxL := 4) (ret := (some .int)) (by decide) rfl ?_
  intro p e s m args below meth c s₁ B hml hv
  obtain ⟨rfl, hsz, hP, hK, hD0⟩ := hv
  have hx := B.exec
  have hb := B.bytes
  have hr := B.returns
  have hts := atoms_spec (ws := (.code yX1_reckon cX1_reckon 4 (some .int) :: lw_g)) B.pre
  have hown : s.vm.findClass RX1 = some m.cls := findClass_of_methodNamed B.named
  have hlocks := B.notSynchronized
  subst hsz
  have g : G3 (dC, dI) L kd tys s f0 [(1, 15), (1, 17)] [] f0 s.heap [] [] := G3.start hP hD0 hWT Fs.nil
  have hl := lv_entry ([.ref a0_, .int x1_, .int x2_, .int x3_]) (n := 4) (Nat.le_of_ble_eq_true rfl)
  rw [lg_entry_eq]
  generalize (lg_sl ([.ref a0_, .int x1_, .int x2_, .int x3_]) ++ List.replicate (4 - (lg_sl ([.ref a0_, .int x1_, .int x2_, .int x3_])).length) Slot.unset).toArray = ls at hl ⊢
  have hl : lv_has ls 4 [(0, .ref a0_), (1, .int x1_), (2, .int x2_), (3, .int x3_)] := hl
  refine W_q (fun Q hQ => ?_)
  refine lv_iload_n hx hb dX1_reckon_0 rfl (lv_at hl 1 rfl) ?_
  by_cases e_1 : x1_ = 42
  · refine lv_topi (fun z_2 ez_2 => ?_)
    obtain rfl : z_2 = 42 := ez_2.trans e_1
    have kb_42 : bd 42 42 (42 : Int32) := ⟨by decide, by decide⟩
    have b_3 : bd 42 42 x1_ := eqX (eq_f e_1) (bdT x1_) kb_42 (by decide)
    refine lv_lookup (off := 91) (tgt := 92) hx hb dX1_reckon_1 (by decide) (by decide) (by decide) ?_
    refine lv_iload_n hx hb dX1_reckon_92 rfl (lv_at hl 2 rfl) ?_
    refine lv_iload_n hx hb dX1_reckon_93 rfl (lv_at hl 3 rfl) ?_
    refine lv_imul hx hb dX1_reckon_94 ?_
    refine lv_topi (fun y_4 ey_4 => ?_)
    subst hQ
    exact W.iret (v := y_4) hx hb hr (fun t ht hW => ⟨⟨_, _, rfl, trivial, q3_of g hK ht hW⟩, g.2.2.1.F ht⟩) g.2.2.1.2.2 dX1_reckon_95
  by_cases e_5 : x1_ = 43
  · refine lv_topi (fun z_6 ez_6 => ?_)
    obtain rfl : z_6 = 43 := ez_6.trans e_5
    have kb_43 : bd 43 43 (43 : Int32) := ⟨by decide, by decide⟩
    have b_7 : bd 43 43 x1_ := eqX (eq_f e_5) (bdT x1_) kb_43 (by decide)
    refine lv_lookup (off := 83) (tgt := 84) hx hb dX1_reckon_1 (by decide) (by decide) (by decide) ?_
    refine lv_iload_n hx hb dX1_reckon_84 rfl (lv_at hl 2 rfl) ?_
    refine lv_iload_n hx hb dX1_reckon_85 rfl (lv_at hl 3 rfl) ?_
    refine lv_iadd hx hb dX1_reckon_86 ?_
    refine lv_topi (fun y_8 ey_8 => ?_)
    subst hQ
    exact W.iret (v := y_8) hx hb hr (fun t ht hW => ⟨⟨_, _, rfl, trivial, q3_of g hK ht hW⟩, g.2.2.1.F ht⟩) g.2.2.1.2.2 dX1_reckon_87
  by_cases e_9 : x1_ = 45
  · refine lv_topi (fun z_10 ez_10 => ?_)
    obtain rfl : z_10 = 45 := ez_10.trans e_9
    have kb_45 : bd 45 45 (45 : Int32) := ⟨by decide, by decide⟩
    have b_11 : bd 45 45 x1_ := eqX (eq_f e_9) (bdT x1_) kb_45 (by decide)
    refine lv_lookup (off := 87) (tgt := 88) hx hb dX1_reckon_1 (by decide) (by decide) (by decide) ?_
    refine lv_iload_n hx hb dX1_reckon_88 rfl (lv_at hl 2 rfl) ?_
    refine lv_iload_n hx hb dX1_reckon_89 rfl (lv_at hl 3 rfl) ?_
    refine lv_isub hx hb dX1_reckon_90 ?_
    refine lv_topi (fun y_12 ey_12 => ?_)
    subst hQ
    exact W.iret (v := y_12) hx hb hr (fun t ht hW => ⟨⟨_, _, rfl, trivial, q3_of g hK ht hW⟩, g.2.2.1.F ht⟩) g.2.2.1.2.2 dX1_reckon_91
  by_cases e_13 : x1_ = 60
  · refine lv_topi (fun z_14 ez_14 => ?_)
    obtain rfl : z_14 = 60 := ez_14.trans e_13
    have kb_60 : bd 60 60 (60 : Int32) := ⟨by decide, by decide⟩
    have b_15 : bd 60 60 x1_ := eqX (eq_f e_13) (bdT x1_) kb_60 (by decide)
    refine lv_lookup (off := 95) (tgt := 96) hx hb dX1_reckon_1 (by decide) (by decide) (by decide) ?_
    refine lv_iload_n hx hb dX1_reckon_96 rfl (lv_at hl 2 rfl) ?_
    refine lv_iload_n hx hb dX1_reckon_97 rfl (lv_at hl 3 rfl) ?_
    refine lv_icmp_ge (tgt := 105) hx hb dX1_reckon_98 (by decide) (fun c_16 => ?_) (fun c_16 => ?_)
    · have fc_16 := le_f c_16
      refine lv_iconst (v := 0) hx hb dX1_reckon_105 (by decide) ?_
      subst hQ
      exact W.iret (v := 0) hx hb hr (fun t ht hW => ⟨⟨_, _, rfl, trivial, q3_of g hK ht hW⟩, g.2.2.1.F ht⟩) g.2.2.1.2.2 dX1_reckon_106
    · have fc_16 := nle_f c_16
      have b_17 : bd (-2147483648) 2147483646 x2_ := ltL fc_16 (bdT x2_) (bdT x3_) (by decide)
      have b_18 : bd (-2147483647) 2147483647 x3_ := ltR fc_16 (bdT x2_) (bdT x3_) (by decide)
      refine lv_iconst (v := 1) hx hb dX1_reckon_101 (by decide) ?_
      refine lv_goto (tgt := 106) hx hb dX1_reckon_102 (by decide) ?_
      subst hQ
      exact W.iret (v := 1) hx hb hr (fun t ht hW => ⟨⟨_, _, rfl, trivial, q3_of g hK ht hW⟩, g.2.2.1.F ht⟩) g.2.2.1.2.2 dX1_reckon_106
  by_cases e_19 : x1_ = 62
  · refine lv_topi (fun z_20 ez_20 => ?_)
    obtain rfl : z_20 = 62 := ez_20.trans e_19
    have kb_62 : bd 62 62 (62 : Int32) := ⟨by decide, by decide⟩
    have b_21 : bd 62 62 x1_ := eqX (eq_f e_19) (bdT x1_) kb_62 (by decide)
    refine lv_lookup (off := 106) (tgt := 107) hx hb dX1_reckon_1 (by decide) (by decide) (by decide) ?_
    refine lv_iload_n hx hb dX1_reckon_107 rfl (lv_at hl 2 rfl) ?_
    refine lv_iload_n hx hb dX1_reckon_108 rfl (lv_at hl 3 rfl) ?_
    refine lv_icmp_le (tgt := 116) hx hb dX1_reckon_109 (by decide) (fun c_22 => ?_) (fun c_22 => ?_)
    · have fc_22 := le_f c_22
      refine lv_iconst (v := 0) hx hb dX1_reckon_116 (by decide) ?_
      subst hQ
      exact W.iret (v := 0) hx hb hr (fun t ht hW => ⟨⟨_, _, rfl, trivial, q3_of g hK ht hW⟩, g.2.2.1.F ht⟩) g.2.2.1.2.2 dX1_reckon_117
    · have fc_22 := nle_f c_22
      have b_23 : bd (-2147483648) 2147483646 x3_ := ltL fc_22 (bdT x3_) (bdT x2_) (by decide)
      have b_24 : bd (-2147483647) 2147483647 x2_ := ltR fc_22 (bdT x3_) (bdT x2_) (by decide)
      refine lv_iconst (v := 1) hx hb dX1_reckon_112 (by decide) ?_
      refine lv_goto (tgt := 117) hx hb dX1_reckon_113 (by decide) ?_
      subst hQ
      exact W.iret (v := 1) hx hb hr (fun t ht hW => ⟨⟨_, _, rfl, trivial, q3_of g hK ht hW⟩, g.2.2.1.F ht⟩) g.2.2.1.2.2 dX1_reckon_117
  by_cases e_25 : x1_ = 201
  · refine lv_topi (fun z_26 ez_26 => ?_)
    obtain rfl : z_26 = 201 := ez_26.trans e_25
    have kb_201 : bd 201 201 (201 : Int32) := ⟨by decide, by decide⟩
    have b_27 : bd 201 201 x1_ := eqX (eq_f e_25) (bdT x1_) kb_201 (by decide)
    refine lv_lookup (off := 117) (tgt := 118) hx hb dX1_reckon_1 (by decide) (by decide) (by decide) ?_
    refine lv_iload_n hx hb dX1_reckon_118 rfl (lv_at hl 2 rfl) ?_
    refine lv_iload_n hx hb dX1_reckon_119 rfl (lv_at hl 3 rfl) ?_
    refine lv_icmp_ne (tgt := 127) hx hb dX1_reckon_120 (by decide) (fun c_28 => ?_) (fun c_28 => ?_)
    · have fc_28 := neq_f c_28
      refine lv_iconst (v := 0) hx hb dX1_reckon_127 (by decide) ?_
      subst hQ
      exact W.iret (v := 0) hx hb hr (fun t ht hW => ⟨⟨_, _, rfl, trivial, q3_of g hK ht hW⟩, g.2.2.1.F ht⟩) g.2.2.1.2.2 dX1_reckon_128
    · have fc_28 := eq_f c_28
      refine lv_iconst (v := 1) hx hb dX1_reckon_123 (by decide) ?_
      refine lv_goto (tgt := 128) hx hb dX1_reckon_124 (by decide) ?_
      subst hQ
      exact W.iret (v := 1) hx hb hr (fun t ht hW => ⟨⟨_, _, rfl, trivial, q3_of g hK ht hW⟩, g.2.2.1.F ht⟩) g.2.2.1.2.2 dX1_reckon_128
  by_cases e_29 : x1_ = 202
  · refine lv_topi (fun z_30 ez_30 => ?_)
    obtain rfl : z_30 = 202 := ez_30.trans e_29
    have kb_202 : bd 202 202 (202 : Int32) := ⟨by decide, by decide⟩
    have b_31 : bd 202 202 x1_ := eqX (eq_f e_29) (bdT x1_) kb_202 (by decide)
    refine lv_lookup (off := 128) (tgt := 129) hx hb dX1_reckon_1 (by decide) (by decide) (by decide) ?_
    refine lv_iload_n hx hb dX1_reckon_129 rfl (lv_at hl 2 rfl) ?_
    refine lv_iload_n hx hb dX1_reckon_130 rfl (lv_at hl 3 rfl) ?_
    refine lv_icmp_eq (tgt := 138) hx hb dX1_reckon_131 (by decide) (fun c_32 => ?_) (fun c_32 => ?_)
    · have fc_32 := eq_f c_32
      refine lv_iconst (v := 0) hx hb dX1_reckon_138 (by decide) ?_
      subst hQ
      exact W.iret (v := 0) hx hb hr (fun t ht hW => ⟨⟨_, _, rfl, trivial, q3_of g hK ht hW⟩, g.2.2.1.F ht⟩) g.2.2.1.2.2 dX1_reckon_139
    · have fc_32 := neq_f c_32
      refine lv_iconst (v := 1) hx hb dX1_reckon_134 (by decide) ?_
      refine lv_goto (tgt := 139) hx hb dX1_reckon_135 (by decide) ?_
      subst hQ
      exact W.iret (v := 1) hx hb hr (fun t ht hW => ⟨⟨_, _, rfl, trivial, q3_of g hK ht hW⟩, g.2.2.1.F ht⟩) g.2.2.1.2.2 dX1_reckon_139
  by_cases e_33 : x1_ = 203
  · refine lv_topi (fun z_34 ez_34 => ?_)
    obtain rfl : z_34 = 203 := ez_34.trans e_33
    have kb_203 : bd 203 203 (203 : Int32) := ⟨by decide, by decide⟩
    have b_35 : bd 203 203 x1_ := eqX (eq_f e_33) (bdT x1_) kb_203 (by decide)
    refine lv_lookup (off := 139) (tgt := 140) hx hb dX1_reckon_1 (by decide) (by decide) (by decide) ?_
    refine lv_iload_n hx hb dX1_reckon_140 rfl (lv_at hl 2 rfl) ?_
    refine lv_iload_n hx hb dX1_reckon_141 rfl (lv_at hl 3 rfl) ?_
    refine lv_icmp_gt (tgt := 149) hx hb dX1_reckon_142 (by decide) (fun c_36 => ?_) (fun c_36 => ?_)
    · have fc_36 := lt_f c_36
      have b_37 : bd (-2147483648) 2147483646 x3_ := ltL fc_36 (bdT x3_) (bdT x2_) (by decide)
      have b_38 : bd (-2147483647) 2147483647 x2_ := ltR fc_36 (bdT x3_) (bdT x2_) (by decide)
      refine lv_iconst (v := 0) hx hb dX1_reckon_149 (by decide) ?_
      subst hQ
      exact W.iret (v := 0) hx hb hr (fun t ht hW => ⟨⟨_, _, rfl, trivial, q3_of g hK ht hW⟩, g.2.2.1.F ht⟩) g.2.2.1.2.2 dX1_reckon_150
    · have fc_36 := nlt_f c_36
      refine lv_iconst (v := 1) hx hb dX1_reckon_145 (by decide) ?_
      refine lv_goto (tgt := 150) hx hb dX1_reckon_146 (by decide) ?_
      subst hQ
      exact W.iret (v := 1) hx hb hr (fun t ht hW => ⟨⟨_, _, rfl, trivial, q3_of g hK ht hW⟩, g.2.2.1.F ht⟩) g.2.2.1.2.2 dX1_reckon_150
  by_cases e_39 : x1_ = 204
  · refine lv_topi (fun z_40 ez_40 => ?_)
    obtain rfl : z_40 = 204 := ez_40.trans e_39
    have kb_204 : bd 204 204 (204 : Int32) := ⟨by decide, by decide⟩
    have b_41 : bd 204 204 x1_ := eqX (eq_f e_39) (bdT x1_) kb_204 (by decide)
    refine lv_lookup (off := 150) (tgt := 151) hx hb dX1_reckon_1 (by decide) (by decide) (by decide) ?_
    refine lv_iload_n hx hb dX1_reckon_151 rfl (lv_at hl 2 rfl) ?_
    refine lv_iload_n hx hb dX1_reckon_152 rfl (lv_at hl 3 rfl) ?_
    refine lv_icmp_lt (tgt := 160) hx hb dX1_reckon_153 (by decide) (fun c_42 => ?_) (fun c_42 => ?_)
    · have fc_42 := lt_f c_42
      have b_43 : bd (-2147483648) 2147483646 x2_ := ltL fc_42 (bdT x2_) (bdT x3_) (by decide)
      have b_44 : bd (-2147483647) 2147483647 x3_ := ltR fc_42 (bdT x2_) (bdT x3_) (by decide)
      refine lv_iconst (v := 0) hx hb dX1_reckon_160 (by decide) ?_
      subst hQ
      exact W.iret (v := 0) hx hb hr (fun t ht hW => ⟨⟨_, _, rfl, trivial, q3_of g hK ht hW⟩, g.2.2.1.F ht⟩) g.2.2.1.2.2 dX1_reckon_161
    · have fc_42 := nlt_f c_42
      refine lv_iconst (v := 1) hx hb dX1_reckon_156 (by decide) ?_
      refine lv_goto (tgt := 161) hx hb dX1_reckon_157 (by decide) ?_
      subst hQ
      exact W.iret (v := 1) hx hb hr (fun t ht hW => ⟨⟨_, _, rfl, trivial, q3_of g hK ht hW⟩, g.2.2.1.F ht⟩) g.2.2.1.2.2 dX1_reckon_161
  refine lv_lookup (off := 161) (tgt := 162) hx hb dX1_reckon_1 (by decide) (by have a0 : x1_.toInt ≠ 42 := fun h => e_1 (Int32.toInt_inj.mp (h.trans (by decide))); have a1 : x1_.toInt ≠ 43 := fun h => e_5 (Int32.toInt_inj.mp (h.trans (by decide))); have a2 : x1_.toInt ≠ 45 := fun h => e_9 (Int32.toInt_inj.mp (h.trans (by decide))); have a3 : x1_.toInt ≠ 60 := fun h => e_13 (Int32.toInt_inj.mp (h.trans (by decide))); have a4 : x1_.toInt ≠ 62 := fun h => e_19 (Int32.toInt_inj.mp (h.trans (by decide))); have a5 : x1_.toInt ≠ 201 := fun h => e_25 (Int32.toInt_inj.mp (h.trans (by decide))); have a6 : x1_.toInt ≠ 202 := fun h => e_29 (Int32.toInt_inj.mp (h.trans (by decide))); have a7 : x1_.toInt ≠ 203 := fun h => e_33 (Int32.toInt_inj.mp (h.trans (by decide))); have a8 : x1_.toInt ≠ 204 := fun h => e_39 (Int32.toInt_inj.mp (h.trans (by decide))); simp [Op.lookupswitch.offset, a0, a1, a2, a3, a4, a5, a6, a7, a8, Ne.symm]) (by decide) ?_
  refine lv_iload_n hx hb dX1_reckon_162 rfl (lv_at hl 3 rfl) ?_
  have kb_0 : bd 0 0 (0 : Int32) := ⟨by decide, by decide⟩
  refine lv_if_ne (tgt := 180) hx hb dX1_reckon_163 (by decide) (fun c_45 => ?_) (fun c_45 => ?_)
  · have fc_45 := neq_f c_45
    refine lv_iload_n hx hb dX1_reckon_180 rfl (lv_at hl 1 rfl) ?_
    refine lv_bipush (v := 47) hx hb dX1_reckon_181 (by decide) ?_
    have kb_47 : bd 47 47 (47 : Int32) := ⟨by decide, by decide⟩
    refine lv_icmp_ne (tgt := 192) hx hb dX1_reckon_183 (by decide) (fun c_46 => ?_) (fun c_46 => ?_)
    · have fc_46 := neq_f c_46
      refine lv_iload_n hx hb dX1_reckon_192 rfl (lv_at hl 2 rfl) ?_
      refine lv_iload_n hx hb dX1_reckon_193 rfl (lv_at hl 3 rfl) ?_
      refine lv_irem hx hb dX1_reckon_194 c_45 ?_
      refine lv_topi (fun y_47 ey_47 => ?_)
      subst hQ
      exact W.iret (v := y_47) hx hb hr (fun t ht hW => ⟨⟨_, _, rfl, trivial, q3_of g hK ht hW⟩, g.2.2.1.F ht⟩) g.2.2.1.2.2 dX1_reckon_195
    · have fc_46 := eq_f c_46
      have b_48 : bd 47 47 x1_ := eqX fc_46 (bdT x1_) kb_47 (by decide)
      refine lv_iload_n hx hb dX1_reckon_186 rfl (lv_at hl 2 rfl) ?_
      refine lv_iload_n hx hb dX1_reckon_187 rfl (lv_at hl 3 rfl) ?_
      refine lv_idiv hx hb dX1_reckon_188 c_45 ?_
      refine lv_topi (fun y_49 ey_49 => ?_)
      refine lv_goto (tgt := 195) hx hb dX1_reckon_189 (by decide) ?_
      subst hQ
      exact W.iret (v := y_49) hx hb hr (fun t ht hW => ⟨⟨_, _, rfl, trivial, q3_of g hK ht hW⟩, g.2.2.1.F ht⟩) g.2.2.1.2.2 dX1_reckon_195
  · have fc_45 := eq_f c_45
    have b_50 : bd 0 0 x3_ := eqX fc_45 (bdT x3_) kb_0 (by decide)
    refine lv_aload_n hx hb dX1_reckon_166 rfl (lv_at hl 0 rfl) ?_
    refine lv_iconst (v := 2) hx hb dX1_reckon_167 (by decide) ?_
    have kb_2 : bd 2 2 (2 : Int32) := ⟨by decide, by decide⟩
    refine g_put (C := RX1) (T := TX1) (N := 18) hx hb hts (mc_ inX1) tyX1 tyX1_ok nmX1 hown hK g ma0_ ka0_ (by decide) rfl 15 (by decide) (hts _ (List.mem_cons_of_mem _ t_750)) (fun _ h9 => h9) rfl rfl (okV_i (bd_sub kb_2 (by decide))) rfl rfl (by decide) (Or.inr (Or.inl (by decide))) (fx' := []) rfl dX1_reckon_168 (fun f H locs hM_51 g => ?_)
    refine lv_aload_n hx hb dX1_reckon_171 rfl (lv_at hl 0 rfl) ?_
    refine lv_ldc2 (v := 1434591) hx hb hown (hts _ (List.mem_cons_of_mem _ t_1605)) dX1_reckon_172 ?_
    refine g_put (C := RX1) (T := TX1) (N := 18) hx hb hts (mc_ inX1) tyX1 tyX1_ok nmX1 hown hK g ma0_ ka0_ (by decide) rfl 17 (by decide) (hts _ (List.mem_cons_of_mem _ t_754)) (fun _ h9 => h9) rfl rfl okV_l rfl rfl (by decide) (Or.inr (Or.inl (by decide))) (fx' := [(1, 15, a0_, .int 2)]) rfl dX1_reckon_175 (fun f H locs hM_52 g => ?_)
    refine lv_iconst (v := 0) hx hb dX1_reckon_178 (by decide) ?_
    subst hQ
    exact W.iret (v := 0) hx hb hr (fun t ht hW => ⟨⟨_, _, rfl, trivial, q3_of g hK ht hW⟩, g.2.2.1.F ht⟩) g.2.2.1.2.2 dX1_reckon_179
set_option maxHeartbeats 4000000 in
set_option maxRecDepth 100000 in
theorem r_X1_enter (l : Launch) (dC : Nat → ClassId) (dI : Nat → Nat → Nat) (L : List Nat) (kd : Nat → Nat) (tys : List (ClassId × FieldType)) (f0 : Nat → va_E) (sz : Nat) (hWT : WT L kd tys f0) (a0_ : Nat) (ma0_ : a0_ ∈ L) (ka0_ : kd a0_ = 1) (x1_ : Int32) (q0_ : Nat) (mq0_ : q0_ ∈ L) (kq0_ : kd q0_ = 7) (hfx : Fs L kd f0 [(1, 0, a0_, .ref q0_)]) : Met l yX1_enter (.code yX1_enter cX1_enter 4 none :: lw_g) ({ frames := 0, cells := 0, slots := 0, locals := 0 }) (va_Pc [.ref a0_, .int x1_] (P3 (dC, dI) L tys f0 sz)) (va_Qv (fun (f : Nat → va_E) => (True)) (Q3 (dC, dI) L kd tys [(1, 8), (1, 11), (1, 13), (1, 15)] [116, 117] f0 sz) (pA L sz)) 0 0 (pA L sz) := by
  refine Met.ofW (cc := cX1_enter) (maxL := 4) (ret := none) (by decide) rfl ?_
  intro p e s m args below meth c s₁ B hml hv
  obtain ⟨rfl, hsz, hP, hK, hD0⟩ := hv
  have hx := B.exec
  have hb := B.bytes
  have hr := B.returns
  have hts := atoms_spec (ws := (.code yX1_enter cX1_enter 4 none :: lw_g)) B.pre
  have hown : s.vm.findClass RX1 = some m.cls := findClass_of_methodNamed B.named
  have hlocks := B.notSynchronized
  subst hsz
  have g : G3 (dC, dI) L kd tys s f0 [(1, 8), (1, 11), (1, 13), (1, 15)] [116, 117] f0 s.heap [] [(1, 0, a0_, .ref q0_)] := G3.start hP hD0 hWT hfx
  have hl := lv_entry ([.ref a0_, .int x1_]) (n := 4) (Nat.le_of_ble_eq_true rfl)
  rw [lg_entry_eq]
  generalize (lg_sl ([.ref a0_, .int x1_]) ++ List.replicate (4 - (lg_sl ([.ref a0_, .int x1_])).length) Slot.unset).toArray = ls at hl ⊢
  have hl : lv_has ls 4 [(0, .ref a0_), (1, .int x1_)] := hl
  refine W_q (fun Q hQ => ?_)
  refine lv_aload_n hx hb dX1_enter_0 rfl (lv_at hl 0 rfl) ?_
  refine g_geti (C := RX1) (T := TX1) (N := 18) hx hb hts (mc_ inX1) hown hK g ma0_ ka0_ (by decide) rfl 11 (by decide) rfl (hts _ (List.mem_cons_of_mem _ t_746)) (fun _ h9 => h9) rfl dX1_enter_1 (fun x_1 bx_1 g => ?_)
  refine lv_bipush (v := 20) hx hb dX1_enter_4 (by decide) ?_
  have kb_20 : bd 20 20 (20 : Int32) := ⟨by decide, by decide⟩
  refine lv_icmp_ge (tgt := 24) hx hb dX1_enter_6 (by decide) (fun c_2 => ?_) (fun c_2 => ?_)
  · have fc_2 := le_f c_2
    have b_3 : bd 20 20 x_1 := leR fc_2 kb_20 bx_1 (by decide)
    refine lv_aload_n hx hb dX1_enter_24 rfl (lv_at hl 0 rfl) ?_
    refine lv_iconst (v := 3) hx hb dX1_enter_25 (by decide) ?_
    have kb_3 : bd 3 3 (3 : Int32) := ⟨by decide, by decide⟩
    refine g_put (C := RX1) (T := TX1) (N := 18) hx hb hts (mc_ inX1) tyX1 tyX1_ok nmX1 hown hK g ma0_ ka0_ (by decide) rfl 15 (by decide) (hts _ (List.mem_cons_of_mem _ t_750)) (fun _ h9 => h9) rfl rfl (okV_i (bd_sub kb_3 (by decide))) rfl rfl (by decide) (Or.inr (Or.inl (by decide))) (fx' := [(1, 11, a0_, .int x_1), (1, 0, a0_, .ref q0_)]) rfl dX1_enter_26 (fun f H locs hM_4 g => ?_)
    subst hQ
    exact W.vret hx hb hr (fun t ht hW => ⟨⟨_, rfl, trivial, q3_of g hK ht hW⟩, g.2.2.1.F ht⟩) g.2.2.1.2.2 dX1_enter_29
  · have fc_2 := nle_f c_2
    have b_5 : bd 0 19 x_1 := ltL fc_2 bx_1 kb_20 (by decide)
    refine lv_iload_n hx hb dX1_enter_9 rfl (lv_at hl 1 rfl) ?_
    have kb_0 : bd 0 0 (0 : Int32) := ⟨by decide, by decide⟩
    refine lv_if_lt (tgt := 24) hx hb dX1_enter_10 (by decide) (fun c_6 => ?_) (fun c_6 => ?_)
    · have fc_6 := lt_f c_6
      have b_7 : bd (-2147483648) (-1) x1_ := ltL fc_6 (bdT x1_) kb_0 (by decide)
      refine lv_aload_n hx hb dX1_enter_24 rfl (lv_at hl 0 rfl) ?_
      refine lv_iconst (v := 3) hx hb dX1_enter_25 (by decide) ?_
      have kb_3 : bd 3 3 (3 : Int32) := ⟨by decide, by decide⟩
      refine g_put (C := RX1) (T := TX1) (N := 18) hx hb hts (mc_ inX1) tyX1 tyX1_ok nmX1 hown hK g ma0_ ka0_ (by decide) rfl 15 (by decide) (hts _ (List.mem_cons_of_mem _ t_750)) (fun _ h9 => h9) rfl rfl (okV_i (bd_sub kb_3 (by decide))) rfl rfl (by decide) (Or.inr (Or.inl (by decide))) (fx' := [(1, 11, a0_, .int x_1), (1, 0, a0_, .ref q0_)]) rfl dX1_enter_26 (fun f H locs hM_8 g => ?_)
      subst hQ
      exact W.vret hx hb hr (fun t ht hW => ⟨⟨_, rfl, trivial, q3_of g hK ht hW⟩, g.2.2.1.F ht⟩) g.2.2.1.2.2 dX1_enter_29
    · have fc_6 := nlt_f c_6
      have b_9 : bd 0 2147483647 x1_ := leR fc_6 kb_0 (bdT x1_) (by decide)
      refine lv_iload_n hx hb dX1_enter_13 rfl (lv_at hl 1 rfl) ?_
      refine lv_aload_n hx hb dX1_enter_14 rfl (lv_at hl 0 rfl) ?_
      refine g_getk (C := RX1) (T := TX1) (N := 18) hx hb hts (mc_ inX1) hown hK g rfl 0 (by decide) rfl (hts _ (List.mem_cons_of_mem _ t_735)) (fun _ h9 => h9) 1 rfl dX1_enter_15 ?_
      refine g_geti (C := RX7) (T := TX7) (N := 19) hx hb hts (mc_ inX7) hown hK g mq0_ kq0_ (by decide) rfl 3 (by decide) rfl (hts _ (List.mem_cons_of_mem _ t_637)) (fun _ h9 => h9) rfl dX1_enter_18 (fun x_10 bx_10 g => ?_)
      refine lv_icmp_lt (tgt := 30) hx hb dX1_enter_21 (by decide) (fun c_11 => ?_) (fun c_11 => ?_)
      · have fc_11 := lt_f c_11
        have b_12 : bd 0 95 x1_ := ltL fc_11 b_9 bx_10 (by decide)
        have b_13 : bd 1 96 x_10 := ltR fc_11 b_9 bx_10 (by decide)
        refine lv_aload_n hx hb dX1_enter_30 rfl (lv_at hl 0 rfl) ?_
        refine g_getk (C := RX1) (T := TX1) (N := 18) hx hb hts (mc_ inX1) hown hK g rfl 0 (by decide) rfl (hts _ (List.mem_cons_of_mem _ t_735)) (fun _ h9 => h9) 2 rfl dX1_enter_31 ?_
        refine g_getr (K := 137) (C := RX7) (T := TX7) (N := 19) hx hb hts (mc_ inX7) hown hK g mq0_ kq0_ (by decide) rfl 2 (by decide) rfl (hts _ (List.mem_cons_of_mem _ t_635)) (fun _ h9 => h9) rfl dX1_enter_34 (fun a_14 ma_14 ka_14 g => ?_)
        refine lv_iload_n hx hb dX1_enter_37 rfl (lv_at hl 1 rfl) ?_
        refine g_aald hx hb hK g ma_14 ka_14 (by decide) rfl (by decide) (in_bd b_12 (by decide)) dX1_enter_38 (fun a_15 ma_15 ua_15 wa_15 => ?_)
        have ka_15 : kd a_15 = 6 := by omega
        refine lv_astore_n (lv' := [(2, .ref a_15), (0, .ref a0_), (1, .int x1_)]) hx hb dX1_enter_39 rfl hl (by decide) rfl (fun ls hl => ?_)
        refine lv_aload_n hx hb dX1_enter_40 rfl (lv_at hl 1 rfl) ?_
        refine lv_dup hx hb dX1_enter_41 rfl ?_
        refine g_getk (C := RX1) (T := TX1) (N := 18) hx hb hts (mc_ inX1) hown hK g rfl 11 (by decide) rfl (hts _ (List.mem_cons_of_mem _ t_746)) (fun _ h9 => h9) 2 rfl dX1_enter_42 ?_
        refine lv_iconst (v := 1) hx hb dX1_enter_45 (by decide) ?_
        have kb_1 : bd 1 1 (1 : Int32) := ⟨by decide, by decide⟩
        refine lv_iadd hx hb dX1_enter_46 ?_
        refine lv_topi (fun y_16 ey_16 => ?_)
        have ty_16 := add_bd ey_16 b_5 kb_1 (by decide)
        have b_17 : bd 1 20 y_16 := add_rg ty_16 b_5 kb_1 (by decide)
        refine g_put (C := RX1) (T := TX1) (N := 18) hx hb hts (mc_ inX1) tyX1 tyX1_ok nmX1 hown hK g ma0_ ka0_ (by decide) rfl 11 (by decide) (hts _ (List.mem_cons_of_mem _ t_746)) (fun _ h9 => h9) rfl rfl (okV_i (bd_sub b_17 (by decide))) rfl rfl (by decide) (Or.inr (Or.inl (by decide))) (fx' := [(7, 2, q0_, .ref a_14), (7, 3, q0_, .int x_10), (1, 0, a0_, .ref q0_)]) rfl dX1_enter_47 (fun f H locs hM_18 g => ?_)
        refine lv_aload_n hx hb dX1_enter_50 rfl (lv_at hl 1 rfl) ?_
        refine g_getr (K := 117) (C := RX1) (T := TX1) (N := 18) hx hb hts (mc_ inX1) hown hK g ma0_ ka0_ (by decide) rfl 10 (by decide) rfl (hts _ (List.mem_cons_of_mem _ t_745)) (fun _ h9 => h9) rfl dX1_enter_51 (fun a_19 ma_19 ka_19 g => ?_)
        refine lv_aload_n hx hb dX1_enter_54 rfl (lv_at hl 1 rfl) ?_
        refine g_getk (C := RX1) (T := TX1) (N := 18) hx hb hts (mc_ inX1) hown hK g rfl 11 (by decide) rfl (hts _ (List.mem_cons_of_mem _ t_746)) (fun _ h9 => h9) 1 rfl dX1_enter_55 ?_
        refine lv_aload_n hx hb dX1_enter_58 rfl (lv_at hl 1 rfl) ?_
        refine g_geti (C := RX1) (T := TX1) (N := 18) hx hb hts (mc_ inX1) hown hK g ma0_ ka0_ (by decide) rfl 13 (by decide) rfl (hts _ (List.mem_cons_of_mem _ t_748)) (fun _ h9 => h9) rfl dX1_enter_59 (fun x_20 bx_20 g => ?_)
        refine g_iast hx hb hK g ma_19 ka_19 (by decide) rfl (in_bd b_17 (by decide)) (bdT x_20) (by decide) dX1_enter_62 (fun f H locs hM_21 g => ?_)
        refine lv_aload_n hx hb dX1_enter_63 rfl (lv_at hl 1 rfl) ?_
        refine lv_aload_n hx hb dX1_enter_64 rfl (lv_at hl 0 rfl) ?_
        refine g_geti (C := RX6) (T := TX6) (N := 13) hx hb hts (mc_ inX6) hown hK g ma_15 ka_15 (by decide) rfl 8 (by decide) rfl (hts _ (List.mem_cons_of_mem _ t_582)) (fun _ h9 => h9) rfl dX1_enter_65 (fun x_22 bx_22 g => ?_)
        refine g_put (C := RX1) (T := TX1) (N := 18) hx hb hts (mc_ inX1) tyX1 tyX1_ok nmX1 hown hK g ma0_ ka0_ (by decide) rfl 13 (by decide) (hts _ (List.mem_cons_of_mem _ t_748)) (fun _ h9 => h9) rfl rfl (okV_i (bdT x_22)) rfl rfl (by decide) (Or.inr (Or.inl (by decide))) (fx' := [(6, 8, a_15, .int x_22), (1, 10, a0_, .ref a_19), (1, 11, a0_, .int y_16), (7, 2, q0_, .ref a_14), (7, 3, q0_, .int x_10), (1, 0, a0_, .ref q0_)]) rfl dX1_enter_68 (fun f H locs hM_23 g => ?_)
        refine lv_aload_n hx hb dX1_enter_71 rfl (lv_at hl 1 rfl) ?_
        refine lv_aload_n hx hb dX1_enter_72 rfl (lv_at hl 1 rfl) ?_
        refine g_geti (C := RX1) (T := TX1) (N := 18) hx hb hts (mc_ inX1) hown hK g ma0_ ka0_ (by decide) rfl 8 (by decide) rfl (hts _ (List.mem_cons_of_mem _ t_743)) (fun _ h9 => h9) rfl dX1_enter_73 (fun x_24 bx_24 g => ?_)
        refine lv_aload_n hx hb dX1_enter_76 rfl (lv_at hl 0 rfl) ?_
        refine g_geti (C := RX6) (T := TX6) (N := 13) hx hb hts (mc_ inX6) hown hK g ma_15 ka_15 (by decide) rfl 3 (by decide) rfl (hts _ (List.mem_cons_of_mem _ t_567)) (fun _ h9 => h9) rfl dX1_enter_77 (fun x_25 bx_25 g => ?_)
        refine lv_icmp_le (tgt := 95) hx hb dX1_enter_80 (by decide) (fun c_26 => ?_) (fun c_26 => ?_)
        · have fc_26 := le_f c_26
          have b_27 : bd 0 3 x_24 := leL fc_26 bx_24 bx_25 (by decide)
          refine lv_iconst (v := 0) hx hb dX1_enter_95 (by decide) ?_
          refine g_put (C := RX1) (T := TX1) (N := 18) hx hb hts (mc_ inX1) tyX1 tyX1_ok nmX1 hown hK g ma0_ ka0_ (by decide) rfl 8 (by decide) (hts _ (List.mem_cons_of_mem _ t_743)) (fun _ h9 => h9) rfl rfl (okV_i (bd_sub kb_0 (by decide))) rfl rfl (by decide) (Or.inr (Or.inl (by decide))) (fx' := [(6, 3, a_15, .int x_25), (1, 13, a0_, .int x_22), (6, 8, a_15, .int x_22), (1, 10, a0_, .ref a_19), (1, 11, a0_, .int y_16), (7, 2, q0_, .ref a_14), (7, 3, q0_, .int x_10), (1, 0, a0_, .ref q0_)]) rfl dX1_enter_96 (fun f H locs hM_28 g => ?_)
          refine lv_iconst (v := 0) hx hb dX1_enter_99 (by decide) ?_
          refine lv_istore_n (lv' := [(3, .int 0), (2, .ref a_15), (0, .ref a0_), (1, .int x1_)]) hx hb dX1_enter_100 rfl hl (by decide) rfl (fun ls hl => ?_)
          have loop_29 : ∀ (n : Nat) (v101_3 : Int32), bd 0 3 v101_3 → (3 - v101_3.toInt < (n : Int)) → ∀ (f : Nat → va_E) (H : Heap) (locs : List Loc) (ls : Array Slot), G3 (dC, dI) L kd tys s f0 [(1, 8), (1, 11), (1, 13), (1, 15)] [116, 117] f H locs [(1, 8, a0_, .int 0), (6, 3, a_15, .int x_25), (1, 13, a0_, .int x_22), (6, 8, a_15, .int x_22), (1, 10, a0_, .ref a_19), (1, 11, a0_, .int y_16), (7, 2, q0_, .ref a_14), (7, 3, q0_, .int x_10), (1, 0, a0_, .ref q0_)] → lv_has ls 4 [(3, .int v101_3), (2, .ref a_15), (0, .ref a0_), (1, .int x1_)] → W p l e ({ frames := 0, cells := 0, slots := 0, locals := 0 } : Room) s m [.ref a0_, .int x1_].toArray below meth c H locs 0 0 Q (F0 m 101 ls []) := by
            intro n101
            induction n101 with
            | zero =>
              intro v101_3 bv101_3 hm101 f H locs ls g  hl
              exact absurd hm101 (by have h9_v101_3 := bv101_3; unfold bd at h9_v101_3; omega)
            | succ n101 ih101 =>
              intro v101_3 bv101_3 hm101 f H locs ls g  hl
              refine lv_iload_n hx hb dX1_enter_101 rfl (lv_at hl 0 rfl) ?_
              refine lv_aload_n hx hb dX1_enter_102 rfl (lv_at hl 1 rfl) ?_
              refine g_getk (C := RX6) (T := TX6) (N := 13) hx hb hts (mc_ inX6) hown hK g rfl 3 (by decide) rfl (hts _ (List.mem_cons_of_mem _ t_567)) (fun _ h9 => h9) 1 rfl dX1_enter_103 ?_
              refine lv_icmp_ge (tgt := 140) hx hb dX1_enter_106 (by decide) (fun c_30 => ?_) (fun c_30 => ?_)
              · have fc_30 := le_f c_30
                subst hQ
                exact W.vret hx hb hr (fun t ht hW => ⟨⟨_, rfl, trivial, q3_of g hK ht hW⟩, g.2.2.1.F ht⟩) g.2.2.1.2.2 dX1_enter_140
              · have fc_30 := nle_f c_30
                have b_31 : bd 0 2 v101_3 := ltL fc_30 bv101_3 bx_25 (by decide)
                have b_32 : bd 1 3 x_25 := ltR fc_30 bv101_3 bx_25 (by decide)
                refine lv_aload_n hx hb dX1_enter_109 rfl (lv_at hl 2 rfl) ?_
                refine g_getr (K := 116) (C := RX1) (T := TX1) (N := 18) hx hb hts (mc_ inX1) hown hK g ma0_ ka0_ (by decide) rfl 9 (by decide) rfl (hts _ (List.mem_cons_of_mem _ t_744)) (fun _ h9 => h9) rfl dX1_enter_110 (fun a_33 ma_33 ka_33 g => ?_)
                refine lv_aload_n hx hb dX1_enter_113 rfl (lv_at hl 2 rfl) ?_
                refine g_getk (C := RX1) (T := TX1) (N := 18) hx hb hts (mc_ inX1) hown hK g rfl 11 (by decide) rfl (hts _ (List.mem_cons_of_mem _ t_746)) (fun _ h9 => h9) 6 rfl dX1_enter_114 ?_
                refine lv_bipush (v := 11) hx hb dX1_enter_117 (by decide) ?_
                refine lv_imul hx hb dX1_enter_119 ?_
                refine lv_topi (fun y_34 ey_34 => ?_)
                have ty_34 := mulc_bd ey_34 (c := 11) (by decide) b_17 (by decide)
                have b_35 : bd 11 220 y_34 := mulc_rg ty_34 b_17 (by decide)
                refine lv_iload_n hx hb dX1_enter_120 rfl (lv_at hl 0 rfl) ?_
                refine lv_iadd hx hb dX1_enter_121 ?_
                refine lv_topi (fun y_36 ey_36 => ?_)
                have ty_36 := add_bd ey_36 b_35 b_31 (by decide)
                have b_37 : bd 11 222 y_36 := add_rg ty_36 b_35 b_31 (by decide)
                refine lv_aload_n hx hb dX1_enter_122 rfl (lv_at hl 2 rfl) ?_
                refine g_getr (K := 100) (C := RX1) (T := TX1) (N := 18) hx hb hts (mc_ inX1) hown hK g ma0_ ka0_ (by decide) rfl 7 (by decide) rfl (hts _ (List.mem_cons_of_mem _ t_742)) (fun _ h9 => h9) rfl dX1_enter_123 (fun a_38 ma_38 ka_38 g => ?_)
                refine lv_aload_n hx hb dX1_enter_126 rfl (lv_at hl 2 rfl) ?_
                refine g_getk (C := RX1) (T := TX1) (N := 18) hx hb hts (mc_ inX1) hown hK g rfl 8 (by decide) rfl (hts _ (List.mem_cons_of_mem _ t_743)) (fun _ h9 => h9) 2 rfl dX1_enter_127 ?_
                refine lv_iload_n hx hb dX1_enter_130 rfl (lv_at hl 0 rfl) ?_
                refine lv_iadd hx hb dX1_enter_131 ?_
                refine lv_topi (fun y_39 ey_39 => ?_)
                have ty_39 := add_bd ey_39 kb_0 b_31 (by decide)
                have b_40 : bd 0 2 y_39 := add_rg ty_39 kb_0 b_31 (by decide)
                refine g_iald hx hb hK g ma_38 ka_38 (by decide) rfl (in_bd b_40 (by decide)) dX1_enter_132 (fun x_41 bx_41 cx_41 => ?_)
                refine g_iast hx hb hK g ma_33 ka_33 (by decide) rfl (in_bd b_37 (by decide)) (bdT x_41) (by decide) dX1_enter_133 (fun f H locs hM_42 g => ?_)
                obtain ⟨y_43, ey_43⟩ : ∃ z : Int32, z = v101_3 + 1 := ⟨_, rfl⟩
                refine lv_iinc (v := y_43) (lv' := [(3, .int y_43), (2, .ref a_15), (0, .ref a0_), (1, .int x1_)]) hx hb dX1_enter_134 hl (k := 0) rfl (by rw [ey_43]; rfl) (by decide) rfl (fun ls hl => ?_)
                have ty_43 := add_bd ey_43 b_31 kb_1 (by decide)
                have b_44 : bd 1 3 y_43 := add_rg ty_43 b_31 kb_1 (by decide)
                refine lv_goto (tgt := 101) hx hb dX1_enter_137 (by decide) ?_
                have hl9 := lv_sub hl [0, 1, 2, 3] (by rfl : lv_pick [(3, .int y_43), (2, .ref a_15), (0, .ref a0_), (1, .int x1_)] [0, 1, 2, 3] = [(3, .int y_43), (2, .ref a_15), (0, .ref a0_), (1, .int x1_)])
                have g9 := g.sub (fx' := [(1, 8, a0_, .int 0), (6, 3, a_15, .int x_25), (1, 13, a0_, .int x_22), (6, 8, a_15, .int x_22), (1, 10, a0_, .ref a_19), (1, 11, a0_, .int y_16), (7, 2, q0_, .ref a_14), (7, 3, q0_, .int x_10), (1, 0, a0_, .ref q0_)]) [2, 3, 4, 5, 6, 7, 8, 9, 10] rfl
                exact ih101  y_43 (bd_sub b_44 (by decide)) (by have h9_0 := b_44; unfold bd at h9_0; have h9_1 := bv101_3; unfold bd at h9_1; have h9_2 := kb_0; unfold bd at h9_2; have h9_3 := kb_1; unfold bd at h9_3; have h9_4 := kb_20; unfold bd at h9_4; omega) _ _ _ _ g9  hl9
          have hl9 := lv_sub hl [0, 1, 2, 3] (by rfl : lv_pick [(3, .int 0), (2, .ref a_15), (0, .ref a0_), (1, .int x1_)] [0, 1, 2, 3] = [(3, .int 0), (2, .ref a_15), (0, .ref a0_), (1, .int x1_)])
          have g9 := g.sub (fx' := [(1, 8, a0_, .int 0), (6, 3, a_15, .int x_25), (1, 13, a0_, .int x_22), (6, 8, a_15, .int x_22), (1, 10, a0_, .ref a_19), (1, 11, a0_, .int y_16), (7, 2, q0_, .ref a_14), (7, 3, q0_, .int x_10), (1, 0, a0_, .ref q0_)]) [0, 1, 2, 3, 4, 5, 6, 7, 8] rfl
          exact loop_29 (9) 0 (bd_sub kb_0 (by decide)) (by have h9_0 := kb_0; unfold bd at h9_0; have h9_1 := kb_1; unfold bd at h9_1; have h9_2 := kb_20; unfold bd at h9_2; omega) _ _ _ _ g9  hl9
        · have fc_26 := nle_f c_26
          have b_45 : bd 1 700 x_24 := ltR fc_26 bx_25 bx_24 (by decide)
          refine lv_aload_n hx hb dX1_enter_83 rfl (lv_at hl 1 rfl) ?_
          refine g_getk (C := RX1) (T := TX1) (N := 18) hx hb hts (mc_ inX1) hown hK g rfl 8 (by decide) rfl (hts _ (List.mem_cons_of_mem _ t_743)) (fun _ h9 => h9) 1 rfl dX1_enter_84 ?_
          refine lv_aload_n hx hb dX1_enter_87 rfl (lv_at hl 0 rfl) ?_
          refine g_getk (C := RX6) (T := TX6) (N := 13) hx hb hts (mc_ inX6) hown hK g rfl 3 (by decide) rfl (hts _ (List.mem_cons_of_mem _ t_567)) (fun _ h9 => h9) 0 rfl dX1_enter_88 ?_
          refine lv_isub hx hb dX1_enter_91 ?_
          refine lv_topi (fun y_46 ey_46 => ?_)
          have ty_46 := sub_bd ey_46 b_45 bx_25 (by decide)
          have b_47 : bd 1 700 y_46 := sub_rel1 ty_46 fc_26 b_45 bx_25 (by decide)
          refine lv_goto (tgt := 96) hx hb dX1_enter_92 (by decide) ?_
          refine g_put (C := RX1) (T := TX1) (N := 18) hx hb hts (mc_ inX1) tyX1 tyX1_ok nmX1 hown hK g ma0_ ka0_ (by decide) rfl 8 (by decide) (hts _ (List.mem_cons_of_mem _ t_743)) (fun _ h9 => h9) rfl rfl (okV_i (bd_sub b_47 (by decide))) rfl rfl (by decide) (Or.inr (Or.inl (by decide))) (fx' := [(6, 3, a_15, .int x_25), (1, 13, a0_, .int x_22), (6, 8, a_15, .int x_22), (1, 10, a0_, .ref a_19), (1, 11, a0_, .int y_16), (7, 2, q0_, .ref a_14), (7, 3, q0_, .int x_10), (1, 0, a0_, .ref q0_)]) rfl dX1_enter_96 (fun f H locs hM_48 g => ?_)
          refine lv_iconst (v := 0) hx hb dX1_enter_99 (by decide) ?_
          refine lv_istore_n (lv' := [(3, .int 0), (2, .ref a_15), (0, .ref a0_), (1, .int x1_)]) hx hb dX1_enter_100 rfl hl (by decide) rfl (fun ls hl => ?_)
          have loop_49 : ∀ (n : Nat) (v101_3 : Int32), bd 0 3 v101_3 → (3 - v101_3.toInt < (n : Int)) → ∀ (f : Nat → va_E) (H : Heap) (locs : List Loc) (ls : Array Slot), G3 (dC, dI) L kd tys s f0 [(1, 8), (1, 11), (1, 13), (1, 15)] [116, 117] f H locs [(1, 8, a0_, .int y_46), (6, 3, a_15, .int x_25), (1, 13, a0_, .int x_22), (6, 8, a_15, .int x_22), (1, 10, a0_, .ref a_19), (1, 11, a0_, .int y_16), (7, 2, q0_, .ref a_14), (7, 3, q0_, .int x_10), (1, 0, a0_, .ref q0_)] → lv_has ls 4 [(3, .int v101_3), (2, .ref a_15), (0, .ref a0_), (1, .int x1_)] → W p l e ({ frames := 0, cells := 0, slots := 0, locals := 0 } : Room) s m [.ref a0_, .int x1_].toArray below meth c H locs 0 0 Q (F0 m 101 ls []) := by
            intro n101
            induction n101 with
            | zero =>
              intro v101_3 bv101_3 hm101 f H locs ls g  hl
              exact absurd hm101 (by have h9_v101_3 := bv101_3; unfold bd at h9_v101_3; omega)
            | succ n101 ih101 =>
              intro v101_3 bv101_3 hm101 f H locs ls g  hl
              refine lv_iload_n hx hb dX1_enter_101 rfl (lv_at hl 0 rfl) ?_
              refine lv_aload_n hx hb dX1_enter_102 rfl (lv_at hl 1 rfl) ?_
              refine g_getk (C := RX6) (T := TX6) (N := 13) hx hb hts (mc_ inX6) hown hK g rfl 3 (by decide) rfl (hts _ (List.mem_cons_of_mem _ t_567)) (fun _ h9 => h9) 1 rfl dX1_enter_103 ?_
              refine lv_icmp_ge (tgt := 140) hx hb dX1_enter_106 (by decide) (fun c_50 => ?_) (fun c_50 => ?_)
              · have fc_50 := le_f c_50
                subst hQ
                exact W.vret hx hb hr (fun t ht hW => ⟨⟨_, rfl, trivial, q3_of g hK ht hW⟩, g.2.2.1.F ht⟩) g.2.2.1.2.2 dX1_enter_140
              · have fc_50 := nle_f c_50
                have b_51 : bd 0 2 v101_3 := ltL fc_50 bv101_3 bx_25 (by decide)
                have b_52 : bd 1 3 x_25 := ltR fc_50 bv101_3 bx_25 (by decide)
                refine lv_aload_n hx hb dX1_enter_109 rfl (lv_at hl 2 rfl) ?_
                refine g_getr (K := 116) (C := RX1) (T := TX1) (N := 18) hx hb hts (mc_ inX1) hown hK g ma0_ ka0_ (by decide) rfl 9 (by decide) rfl (hts _ (List.mem_cons_of_mem _ t_744)) (fun _ h9 => h9) rfl dX1_enter_110 (fun a_53 ma_53 ka_53 g => ?_)
                refine lv_aload_n hx hb dX1_enter_113 rfl (lv_at hl 2 rfl) ?_
                refine g_getk (C := RX1) (T := TX1) (N := 18) hx hb hts (mc_ inX1) hown hK g rfl 11 (by decide) rfl (hts _ (List.mem_cons_of_mem _ t_746)) (fun _ h9 => h9) 6 rfl dX1_enter_114 ?_
                refine lv_bipush (v := 11) hx hb dX1_enter_117 (by decide) ?_
                refine lv_imul hx hb dX1_enter_119 ?_
                refine lv_topi (fun y_54 ey_54 => ?_)
                have ty_54 := mulc_bd ey_54 (c := 11) (by decide) b_17 (by decide)
                have b_55 : bd 11 220 y_54 := mulc_rg ty_54 b_17 (by decide)
                refine lv_iload_n hx hb dX1_enter_120 rfl (lv_at hl 0 rfl) ?_
                refine lv_iadd hx hb dX1_enter_121 ?_
                refine lv_topi (fun y_56 ey_56 => ?_)
                have ty_56 := add_bd ey_56 b_55 b_51 (by decide)
                have b_57 : bd 11 222 y_56 := add_rg ty_56 b_55 b_51 (by decide)
                refine lv_aload_n hx hb dX1_enter_122 rfl (lv_at hl 2 rfl) ?_
                refine g_getr (K := 100) (C := RX1) (T := TX1) (N := 18) hx hb hts (mc_ inX1) hown hK g ma0_ ka0_ (by decide) rfl 7 (by decide) rfl (hts _ (List.mem_cons_of_mem _ t_742)) (fun _ h9 => h9) rfl dX1_enter_123 (fun a_58 ma_58 ka_58 g => ?_)
                refine lv_aload_n hx hb dX1_enter_126 rfl (lv_at hl 2 rfl) ?_
                refine g_getk (C := RX1) (T := TX1) (N := 18) hx hb hts (mc_ inX1) hown hK g rfl 8 (by decide) rfl (hts _ (List.mem_cons_of_mem _ t_743)) (fun _ h9 => h9) 2 rfl dX1_enter_127 ?_
                refine lv_iload_n hx hb dX1_enter_130 rfl (lv_at hl 0 rfl) ?_
                refine lv_iadd hx hb dX1_enter_131 ?_
                refine lv_topi (fun y_59 ey_59 => ?_)
                have ty_59 := add_bd ey_59 b_47 b_51 (by decide)
                have b_60 : bd 1 702 y_59 := add_rg ty_59 b_47 b_51 (by decide)
                refine g_iald hx hb hK g ma_58 ka_58 (by decide) rfl (in_ok (by have h9_0 := b_51; unfold bd at h9_0; have h9_1 := b_12; unfold bd at h9_1; have h9_2 := b_5; unfold bd at h9_2; have h9_3 := b_13; unfold bd at h9_3; have h9_4 := b_45; unfold bd at h9_4; have h9_5 := b_52; unfold bd at h9_5; have h9_6 := b_17; unfold bd at h9_6; have h9_7 := b_47; unfold bd at h9_7; have h9_8 := b_55; unfold bd at h9_8; have h9_9 := b_57; unfold bd at h9_9; have h9_10 := b_60; unfold bd at h9_10; omega) (by have h9_0 := b_51; unfold bd at h9_0; have h9_1 := b_12; unfold bd at h9_1; have h9_2 := b_5; unfold bd at h9_2; have h9_3 := b_13; unfold bd at h9_3; have h9_4 := b_45; unfold bd at h9_4; have h9_5 := b_52; unfold bd at h9_5; have h9_6 := b_17; unfold bd at h9_6; have h9_7 := b_47; unfold bd at h9_7; have h9_8 := b_55; unfold bd at h9_8; have h9_9 := b_57; unfold bd at h9_9; have h9_10 := b_60; unfold bd at h9_10; omega)) dX1_enter_132 (fun x_61 bx_61 cx_61 => ?_)
                refine g_iast hx hb hK g ma_53 ka_53 (by decide) rfl (in_bd b_57 (by decide)) (bdT x_61) (by decide) dX1_enter_133 (fun f H locs hM_62 g => ?_)
                obtain ⟨y_63, ey_63⟩ : ∃ z : Int32, z = v101_3 + 1 := ⟨_, rfl⟩
                refine lv_iinc (v := y_63) (lv' := [(3, .int y_63), (2, .ref a_15), (0, .ref a0_), (1, .int x1_)]) hx hb dX1_enter_134 hl (k := 0) rfl (by rw [ey_63]; rfl) (by decide) rfl (fun ls hl => ?_)
                have ty_63 := add_bd ey_63 b_51 kb_1 (by decide)
                have b_64 : bd 1 3 y_63 := add_rg ty_63 b_51 kb_1 (by decide)
                refine lv_goto (tgt := 101) hx hb dX1_enter_137 (by decide) ?_
                have hl9 := lv_sub hl [0, 1, 2, 3] (by rfl : lv_pick [(3, .int y_63), (2, .ref a_15), (0, .ref a0_), (1, .int x1_)] [0, 1, 2, 3] = [(3, .int y_63), (2, .ref a_15), (0, .ref a0_), (1, .int x1_)])
                have g9 := g.sub (fx' := [(1, 8, a0_, .int y_46), (6, 3, a_15, .int x_25), (1, 13, a0_, .int x_22), (6, 8, a_15, .int x_22), (1, 10, a0_, .ref a_19), (1, 11, a0_, .int y_16), (7, 2, q0_, .ref a_14), (7, 3, q0_, .int x_10), (1, 0, a0_, .ref q0_)]) [2, 3, 4, 5, 6, 7, 8, 9, 10] rfl
                exact ih101  y_63 (bd_sub b_64 (by decide)) (by have h9_0 := b_64; unfold bd at h9_0; have h9_1 := bv101_3; unfold bd at h9_1; have h9_2 := kb_0; unfold bd at h9_2; have h9_3 := kb_1; unfold bd at h9_3; have h9_4 := kb_20; unfold bd at h9_4; omega) _ _ _ _ g9  hl9
          have hl9 := lv_sub hl [0, 1, 2, 3] (by rfl : lv_pick [(3, .int 0), (2, .ref a_15), (0, .ref a0_), (1, .int x1_)] [0, 1, 2, 3] = [(3, .int 0), (2, .ref a_15), (0, .ref a0_), (1, .int x1_)])
          have g9 := g.sub (fx' := [(1, 8, a0_, .int y_46), (6, 3, a_15, .int x_25), (1, 13, a0_, .int x_22), (6, 8, a_15, .int x_22), (1, 10, a0_, .ref a_19), (1, 11, a0_, .int y_16), (7, 2, q0_, .ref a_14), (7, 3, q0_, .int x_10), (1, 0, a0_, .ref q0_)]) [0, 1, 2, 3, 4, 5, 6, 7, 8] rfl
          exact loop_49 (9) 0 (bd_sub kb_0 (by decide)) (by have h9_0 := kb_0; unfold bd at h9_0; have h9_1 := kb_1; unfold bd at h9_1; have h9_2 := kb_20; unfold bd at h9_2; omega) _ _ _ _ g9  hl9
      · have fc_11 := nlt_f c_11
        refine lv_aload_n hx hb dX1_enter_24 rfl (lv_at hl 0 rfl) ?_
        refine lv_iconst (v := 3) hx hb dX1_enter_25 (by decide) ?_
        have kb_3 : bd 3 3 (3 : Int32) := ⟨by decide, by decide⟩
        refine g_put (C := RX1) (T := TX1) (N := 18) hx hb hts (mc_ inX1) tyX1 tyX1_ok nmX1 hown hK g ma0_ ka0_ (by decide) rfl 15 (by decide) (hts _ (List.mem_cons_of_mem _ t_750)) (fun _ h9 => h9) rfl rfl (okV_i (bd_sub kb_3 (by decide))) rfl rfl (by decide) (Or.inr (Or.inl (by decide))) (fx' := [(7, 3, q0_, .int x_10), (1, 11, a0_, .int x_1), (1, 0, a0_, .ref q0_)]) rfl dX1_enter_26 (fun f H locs hM_65 g => ?_)
        subst hQ
        exact W.vret hx hb hr (fun t ht hW => ⟨⟨_, rfl, trivial, q3_of g hK ht hW⟩, g.2.2.1.F ht⟩) g.2.2.1.2.2 dX1_enter_29
set_option maxHeartbeats 4000000 in
set_option maxRecDepth 100000 in
theorem r_X2_atClass (l : Launch) (dC : Nat → ClassId) (dI : Nat → Nat → Nat) (L : List Nat) (kd : Nat → Nat) (tys : List (ClassId × FieldType)) (f0 : Nat → va_E) (sz : Nat) (hWT : WT L kd tys f0) (a0_ : Nat) (ma0_ : a0_ ∈ L) (ka0_ : kd a0_ = 2) (q0_ : Nat) (mq0_ : q0_ ∈ L) (kq0_ : kd q0_ = 8) (hfx : Fs L kd f0 [(2, 0, a0_, .ref q0_)]) : Met l yX2_atClass (.code yX2_atClass cX2_atClass 1 (some .boolean) :: lw_g) ({ frames := 1, cells := 0, slots := 0, locals := 20 }) (va_Pc [.ref a0_] (P3 (dC, dI) L tys f0 sz)) (va_Qi (fun (r : Int32) (f : Nat → va_E) => (r = 0 ∧ True) ∨ (r = 1 ∧ True)) (Q3 (dC, dI) L kd tys [] [] f0 sz) (pA L sz)) 0 0 (pA L sz) := by
  refine Met.ofW (cc := cX2_atClass) (maxL := 1) (ret := (some .boolean)) (by decide) rfl ?_
  intro p e s m args below meth c s₁ B hml hv
  obtain ⟨rfl, hsz, hP, hK, hD0⟩ := hv
  have hx := B.exec
  have hb := B.bytes
  have hr := B.returns
  have hts := atoms_spec (ws := (.code yX2_atClass cX2_atClass 1 (some .boolean) :: lw_g)) B.pre
  have hown : s.vm.findClass RX2 = some m.cls := findClass_of_methodNamed B.named
  have hlocks := B.notSynchronized
  subst hsz
  have g : G3 (dC, dI) L kd tys s f0 [] [] f0 s.heap [] [(2, 0, a0_, .ref q0_)] := G3.start hP hD0 hWT hfx
  have hl := lv_entry ([.ref a0_]) (n := 1) (Nat.le_of_ble_eq_true rfl)
  rw [lg_entry_eq]
  generalize (lg_sl ([.ref a0_]) ++ List.replicate (1 - (lg_sl ([.ref a0_])).length) Slot.unset).toArray = ls at hl ⊢
  have hl : lv_has ls 1 [(0, .ref a0_)] := hl
  refine W_q (fun Q hQ => ?_)
  refine lv_aload_n hx hb dX2_atClass_0 rfl (lv_at hl 0 rfl) ?_
  refine g_getk (C := RX2) (T := TX2) (N := 16) hx hb hts (mc_ inX2) hown hK g rfl 0 (by decide) rfl (hts _ (List.mem_cons_of_mem _ t_416)) (fun _ h9 => h9) 0 rfl dX2_atClass_1 ?_
  refine g_calli (va_runV (As := []) (rest := []) ⟨hx, hb, hml, hown, hts⟩ (r_X8_kind l dC dI L kd tys f0 s.heap.size g.2.2.2.1 q0_ mq0_ kq0_) (cwV 0 hts (gV_ t_1118 t_1119 t_1120 t_184 t_1121) rfl rfl rfl (by decide +kernel) ⟨(Nat.le_of_ble_eq_true rfl), (Nat.le_of_ble_eq_true rfl)⟩) (pre3V g hK mq0_ kq0_ (by decide) (q := (RX8, TX8, 10)) rfl) rfl rfl hl.1 rfl (lv_room (Nat.le_of_ble_eq_true rfl)) dX2_atClass_4 ⟨(Nat.le_of_ble_eq_true rfl), (Nat.le_of_ble_eq_true rfl)⟩) g hK (by decide) (by decide) (fx' := [(2, 0, a0_, .ref q0_)]) rfl (fun r_1 fr_1 H locs hp hMr_1 g => ?_)
  refine lv_bipush (v := 10) hx hb dX2_atClass_7 (by decide) ?_
  have kb_10 : bd 10 10 (10 : Int32) := ⟨by decide, by decide⟩
  refine lv_icmp_ne (tgt := 16) hx hb dX2_atClass_9 (by decide) (fun c_2 => ?_) (fun c_2 => ?_)
  · have fc_2 := neq_f c_2
    refine lv_iconst (v := 0) hx hb dX2_atClass_16 (by decide) ?_
    subst hQ
    have kb_0 : bd 0 0 (0 : Int32) := ⟨by decide, by decide⟩
    exact W.zret (v := 0) hx hb hr (nar_z (bd_sub kb_0 (by decide) : bd 0 1 _).1 (bd_sub kb_0 (by decide) : bd 0 1 _).2) (fun t ht hW => ⟨⟨_, _, rfl, Or.inl ⟨rfl, trivial⟩, q3_of g hK ht hW⟩, g.2.2.1.F ht⟩) g.2.2.1.2.2 dX2_atClass_17
  · have fc_2 := eq_f c_2
    have b_3 : bd 10 10 r_1 := eqX fc_2 (bdT r_1) kb_10 (by decide)
    refine lv_iconst (v := 1) hx hb dX2_atClass_12 (by decide) ?_
    refine lv_goto (tgt := 17) hx hb dX2_atClass_13 (by decide) ?_
    subst hQ
    have kb_1 : bd 1 1 (1 : Int32) := ⟨by decide, by decide⟩
    exact W.zret (v := 1) hx hb hr (nar_z (bd_sub kb_1 (by decide) : bd 0 1 _).1 (bd_sub kb_1 (by decide) : bd 0 1 _).2) (fun t ht hW => ⟨⟨_, _, rfl, Or.inr (⟨rfl, trivial⟩), q3_of g hK ht hW⟩, g.2.2.1.F ht⟩) g.2.2.1.2.2 dX2_atClass_17
set_option maxHeartbeats 4000000 in
set_option maxRecDepth 100000 in
theorem r_X2_finish (l : Launch) (dC : Nat → ClassId) (dI : Nat → Nat → Nat) (L : List Nat) (kd : Nat → Nat) (tys : List (ClassId × FieldType)) (f0 : Nat → va_E) (sz : Nat) (hWT : WT L kd tys f0) (a0_ : Nat) (ma0_ : a0_ ∈ L) (ka0_ : kd a0_ = 2) (q0_ : Nat) (mq0_ : q0_ ∈ L) (kq0_ : kd q0_ = 8) (hfx : Fs L kd f0 [(2, 0, a0_, .ref q0_)]) : Met l yX2_finish (.code yX2_finish cX2_finish 1 none :: lw_g) ({ frames := 2, cells := 0, slots := 0, locals := 44 }) (va_Pc [.ref a0_] (P3 (dC, dI) L tys f0 sz)) (va_Qv (fun (f : Nat → va_E) => (∃ z1_ : Int32, bd 1 7 z1_ ∧ Fs L kd f [(8, 6, q0_, .int 1201), (8, 8, q0_, .int z1_)]) ∨ (∃ z0_ : Int32, bd 1 1201 z0_ ∧ Fs L kd f [(8, 6, q0_, .int z0_)])) (Q3 (dC, dI) L kd tys [(8, 6), (8, 8), (8, 9)] [] f0 sz) (pA L sz)) 0 0 (pA L sz) := by
  refine Met.ofW (cc := cX2_finish) (maxL := 1) (ret := none) (by decide) rfl ?_
  intro p e s m args below meth c s₁ B hml hv
  obtain ⟨rfl, hsz, hP, hK, hD0⟩ := hv
  have hx := B.exec
  have hb := B.bytes
  have hr := B.returns
  have hts := atoms_spec (ws := (.code yX2_finish cX2_finish 1 none :: lw_g)) B.pre
  have hown : s.vm.findClass RX2 = some m.cls := findClass_of_methodNamed B.named
  have hlocks := B.notSynchronized
  subst hsz
  have g : G3 (dC, dI) L kd tys s f0 [(8, 6), (8, 8), (8, 9)] [] f0 s.heap [] [(2, 0, a0_, .ref q0_)] := G3.start hP hD0 hWT hfx
  have hl := lv_entry ([.ref a0_]) (n := 1) (Nat.le_of_ble_eq_true rfl)
  rw [lg_entry_eq]
  generalize (lg_sl ([.ref a0_]) ++ List.replicate (1 - (lg_sl ([.ref a0_])).length) Slot.unset).toArray = ls at hl ⊢
  have hl : lv_has ls 1 [(0, .ref a0_)] := hl
  refine W_q (fun Q hQ => ?_)
  refine lv_aload_n hx hb dX2_finish_0 rfl (lv_at hl 0 rfl) ?_
  refine g_getk (C := RX2) (T := TX2) (N := 16) hx hb hts (mc_ inX2) hown hK g rfl 0 (by decide) rfl (hts _ (List.mem_cons_of_mem _ t_416)) (fun _ h9 => h9) 0 rfl dX2_finish_1 ?_
  refine lv_iconst (v := 1) hx hb dX2_finish_4 (by decide) ?_
  refine g_callv (va_runV (As := [.int 1]) (rest := []) ⟨hx, hb, hml, hown, hts⟩ (r_X8_take l dC dI L kd tys f0 s.heap.size g.2.2.2.1 q0_ mq0_ kq0_ 1) (cwV 1 hts (gV_ t_1098 t_1099 t_1100 t_184 t_1101) rfl rfl rfl (by decide +kernel) ⟨(Nat.le_of_ble_eq_true rfl), (Nat.le_of_ble_eq_true rfl)⟩) (pre3V g hK mq0_ kq0_ (by decide) (q := (RX8, TX8, 10)) rfl) rfl rfl hl.1 rfl (lv_room (Nat.le_of_ble_eq_true rfl)) dX2_finish_5 ⟨(Nat.le_of_ble_eq_true rfl), (Nat.le_of_ble_eq_true rfl)⟩) g hK (by decide) (by decide) (fx' := [(2, 0, a0_, .ref q0_)]) rfl (fun fr_1 H locs hp hMr_1 g => ?_)
  rcases hp with ⟨x_2, h_3, hF_4⟩ | ⟨x_5, h_6, hF_7⟩
  · have g := g.more hF_4
    subst hQ
    exact W.vret hx hb hr (fun t ht hW => ⟨⟨_, rfl, Or.inl ⟨x_2, h_3, (g.fcts [0, 1] rfl)⟩, q3_of g hK ht hW⟩, g.2.2.1.F ht⟩) g.2.2.1.2.2 dX2_finish_8
  · have g := g.more hF_7
    subst hQ
    exact W.vret hx hb hr (fun t ht hW => ⟨⟨_, rfl, Or.inr (⟨x_5, h_6, (g.fcts [0] rfl)⟩), q3_of g hK ht hW⟩, g.2.2.1.F ht⟩) g.2.2.1.2.2 dX2_finish_8
set_option maxHeartbeats 4000000 in
set_option maxRecDepth 100000 in
theorem r_X2_faultKind (l : Launch) (dC : Nat → ClassId) (dI : Nat → Nat → Nat) (L : List Nat) (kd : Nat → Nat) (tys : List (ClassId × FieldType)) (f0 : Nat → va_E) (sz : Nat) (hWT : WT L kd tys f0) (a0_ : Nat) (ma0_ : a0_ ∈ L) (ka0_ : kd a0_ = 2) (q0_ : Nat) (mq0_ : q0_ ∈ L) (kq0_ : kd q0_ = 8) (hfx : Fs L kd f0 [(2, 0, a0_, .ref q0_)]) : Met l yX2_faultKind (.code yX2_faultKind cX2_faultKind 1 (some .int) :: lw_g) ({ frames := 0, cells := 0, slots := 0, locals := 0 }) (va_Pc [.ref a0_] (P3 (dC, dI) L tys f0 sz)) (va_Qi (fun (r : Int32) (f : Nat → va_E) => (bd 0 7 r ∧ True)) (Q3 (dC, dI) L kd tys [] [] f0 sz) (pA L sz)) 0 0 (pA L sz) := by
  refine Met.ofW (cc := cX2_faultKind) (maxL := 1) (ret := (some .int)) (by decide) rfl ?_
  intro p e s m args below meth c s₁ B hml hv
  obtain ⟨rfl, hsz, hP, hK, hD0⟩ := hv
  have hx := B.exec
  have hb := B.bytes
  have hr := B.returns
  have hts := atoms_spec (ws := (.code yX2_faultKind cX2_faultKind 1 (some .int) :: lw_g)) B.pre
  have hown : s.vm.findClass RX2 = some m.cls := findClass_of_methodNamed B.named
  have hlocks := B.notSynchronized
  subst hsz
  have g : G3 (dC, dI) L kd tys s f0 [] [] f0 s.heap [] [(2, 0, a0_, .ref q0_)] := G3.start hP hD0 hWT hfx
  have hl := lv_entry ([.ref a0_]) (n := 1) (Nat.le_of_ble_eq_true rfl)
  rw [lg_entry_eq]
  generalize (lg_sl ([.ref a0_]) ++ List.replicate (1 - (lg_sl ([.ref a0_])).length) Slot.unset).toArray = ls at hl ⊢
  have hl : lv_has ls 1 [(0, .ref a0_)] := hl
  refine W_q (fun Q hQ => ?_)
  refine lv_aload_n hx hb dX2_faultKind_0 rfl (lv_at hl 0 rfl) ?_
  refine g_getk (C := RX2) (T := TX2) (N := 16) hx hb hts (mc_ inX2) hown hK g rfl 0 (by decide) rfl (hts _ (List.mem_cons_of_mem _ t_416)) (fun _ h9 => h9) 0 rfl dX2_faultKind_1 ?_
  refine g_geti (C := RX8) (T := TX8) (N := 10) hx hb hts (mc_ inX8) hown hK g mq0_ kq0_ (by decide) rfl 8 (by decide) rfl (hts _ (List.mem_cons_of_mem _ t_294)) (fun _ h9 => h9) rfl dX2_faultKind_4 (fun x_1 bx_1 g => ?_)
  subst hQ
  exact W.iret (v := x_1) hx hb hr (fun t ht hW => ⟨⟨_, _, rfl, ⟨bx_1, trivial⟩, q3_of g hK ht hW⟩, g.2.2.1.F ht⟩) g.2.2.1.2.2 dX2_faultKind_7
set_option maxHeartbeats 4000000 in
set_option maxRecDepth 100000 in
theorem r_X2_faultPlace (l : Launch) (dC : Nat → ClassId) (dI : Nat → Nat → Nat) (L : List Nat) (kd : Nat → Nat) (tys : List (ClassId × FieldType)) (f0 : Nat → va_E) (sz : Nat) (hWT : WT L kd tys f0) (a0_ : Nat) (ma0_ : a0_ ∈ L) (ka0_ : kd a0_ = 2) (q0_ : Nat) (mq0_ : q0_ ∈ L) (kq0_ : kd q0_ = 8) (hfx : Fs L kd f0 [(2, 0, a0_, .ref q0_)]) : Met l yX2_faultPlace (.code yX2_faultPlace cX2_faultPlace 1 (some .int) :: lw_g) ({ frames := 0, cells := 0, slots := 0, locals := 0 }) (va_Pc [.ref a0_] (P3 (dC, dI) L tys f0 sz)) (va_Qi (fun (r : Int32) (f : Nat → va_E) => (True)) (Q3 (dC, dI) L kd tys [] [] f0 sz) (pA L sz)) 0 0 (pA L sz) := by
  refine Met.ofW (cc := cX2_faultPlace) (maxL := 1) (ret := (some .int)) (by decide) rfl ?_
  intro p e s m args below meth c s₁ B hml hv
  obtain ⟨rfl, hsz, hP, hK, hD0⟩ := hv
  have hx := B.exec
  have hb := B.bytes
  have hr := B.returns
  have hts := atoms_spec (ws := (.code yX2_faultPlace cX2_faultPlace 1 (some .int) :: lw_g)) B.pre
  have hown : s.vm.findClass RX2 = some m.cls := findClass_of_methodNamed B.named
  have hlocks := B.notSynchronized
  subst hsz
  have g : G3 (dC, dI) L kd tys s f0 [] [] f0 s.heap [] [(2, 0, a0_, .ref q0_)] := G3.start hP hD0 hWT hfx
  have hl := lv_entry ([.ref a0_]) (n := 1) (Nat.le_of_ble_eq_true rfl)
  rw [lg_entry_eq]
  generalize (lg_sl ([.ref a0_]) ++ List.replicate (1 - (lg_sl ([.ref a0_])).length) Slot.unset).toArray = ls at hl ⊢
  have hl : lv_has ls 1 [(0, .ref a0_)] := hl
  refine W_q (fun Q hQ => ?_)
  refine lv_aload_n hx hb dX2_faultPlace_0 rfl (lv_at hl 0 rfl) ?_
  refine g_getk (C := RX2) (T := TX2) (N := 16) hx hb hts (mc_ inX2) hown hK g rfl 0 (by decide) rfl (hts _ (List.mem_cons_of_mem _ t_416)) (fun _ h9 => h9) 0 rfl dX2_faultPlace_1 ?_
  refine g_geti (C := RX8) (T := TX8) (N := 10) hx hb hts (mc_ inX8) hown hK g mq0_ kq0_ (by decide) rfl 9 (by decide) rfl (hts _ (List.mem_cons_of_mem _ t_297)) (fun _ h9 => h9) rfl dX2_faultPlace_4 (fun x_1 bx_1 g => ?_)
  subst hQ
  exact W.iret (v := x_1) hx hb hr (fun t ht hW => ⟨⟨_, _, rfl, trivial, q3_of g hK ht hW⟩, g.2.2.1.F ht⟩) g.2.2.1.2.2 dX2_faultPlace_7
set_option maxHeartbeats 4000000 in
set_option maxRecDepth 100000 in
theorem r_X7_classNamed (l : Launch) (dC : Nat → ClassId) (dI : Nat → Nat → Nat) (L : List Nat) (kd : Nat → Nat) (tys : List (ClassId × FieldType)) (f0 : Nat → va_E) (sz : Nat) (hWT : WT L kd tys f0) (a0_ : Nat) (ma0_ : a0_ ∈ L) (ka0_ : kd a0_ = 7) (x1_ : Int64) : Met l yX7_classNamed (.code yX7_classNamed cX7_classNamed 4 (some .int) :: lw_g) ({ frames := 0, cells := 0, slots := 0, locals := 0 }) (va_Pc [.ref a0_, .long x1_] (P3 (dC, dI) L tys f0 sz)) (va_Qi (fun (r : Int32) (f : Nat → va_E) => (bd (-1) 7 r ∧ True)) (Q3 (dC, dI) L kd tys [] [] f0 sz) (pA L sz)) 0 0 (pA L sz) := by
  refine Met.ofW (cc := cX7_classNamed) (maxL := 4) (ret := (some .int)) (by decide) rfl ?_
  intro p e s m args below meth c s₁ B hml hv
  obtain ⟨rfl, hsz, hP, hK, hD0⟩ := hv
  have hx := B.exec
  have hb := B.bytes
  have hr := B.returns
  have hts := atoms_spec (ws := (.code yX7_classNamed cX7_classNamed 4 (some .int) :: lw_g)) B.pre
  have hown : s.vm.findClass RX7 = some m.cls := findClass_of_methodNamed B.named
  have hlocks := B.notSynchronized
  subst hsz
  have g : G3 (dC, dI) L kd tys s f0 [] [] f0 s.heap [] [] := G3.start hP hD0 hWT Fs.nil
  have hl := lv_entry ([.ref a0_, .long x1_]) (n := 4) (Nat.le_of_ble_eq_true rfl)
  rw [lg_entry_eq]
  generalize (lg_sl ([.ref a0_, .long x1_]) ++ List.replicate (4 - (lg_sl ([.ref a0_, .long x1_])).length) Slot.unset).toArray = ls at hl ⊢
  have hl : lv_has ls 4 [(0, .ref a0_), (1, .long x1_)] := hl
  refine W_q (fun Q hQ => ?_)
  refine lv_iconst (v := 0) hx hb dX7_classNamed_0 (by decide) ?_
  refine lv_istore_n (lv' := [(3, .int 0), (0, .ref a0_), (1, .long x1_)]) hx hb dX7_classNamed_1 rfl hl (by decide) rfl (fun ls hl => ?_)
  have loop_1 : ∀ (n : Nat) (v2_3 : Int32), bd 0 8 v2_3 → (8 - v2_3.toInt < (n : Int)) → ∀ (f : Nat → va_E) (H : Heap) (locs : List Loc) (ls : Array Slot), G3 (dC, dI) L kd tys s f0 [] [] f H locs [] → lv_has ls 4 [(3, .int v2_3), (0, .ref a0_), (1, .long x1_)] → W p l e ({ frames := 0, cells := 0, slots := 0, locals := 0 } : Room) s m [.ref a0_, .long x1_].toArray below meth c H locs 0 0 Q (F0 m 2 ls []) := by
    intro n2
    induction n2 with
    | zero =>
      intro v2_3 bv2_3 hm2 f H locs ls g  hl
      exact absurd hm2 (by have h9_v2_3 := bv2_3; unfold bd at h9_v2_3; omega)
    | succ n2 ih2 =>
      intro v2_3 bv2_3 hm2 f H locs ls g  hl
      refine lv_iload_n hx hb dX7_classNamed_2 rfl (lv_at hl 0 rfl) ?_
      refine lv_aload_n hx hb dX7_classNamed_3 rfl (lv_at hl 1 rfl) ?_
      refine g_geti (C := RX7) (T := TX7) (N := 19) hx hb hts (mc_ inX7) hown hK g ma0_ ka0_ (by decide) rfl 1 (by decide) rfl (hts _ (List.mem_cons_of_mem _ t_626)) (fun _ h9 => h9) rfl dX7_classNamed_4 (fun x_2 bx_2 g => ?_)
      refine lv_icmp_ge (tgt := 32) hx hb dX7_classNamed_7 (by decide) (fun c_3 => ?_) (fun c_3 => ?_)
      · have fc_3 := le_f c_3
        refine lv_iconst (v := (-1)) hx hb dX7_classNamed_32 (by decide) ?_
        have kb_m1 : bd (-1) (-1) ((-1) : Int32) := ⟨by decide, by decide⟩
        subst hQ
        exact W.iret (v := (-1)) hx hb hr (fun t ht hW => ⟨⟨_, _, rfl, ⟨(bd_sub kb_m1 (by decide)), trivial⟩, q3_of g hK ht hW⟩, g.2.2.1.F ht⟩) g.2.2.1.2.2 dX7_classNamed_33
      · have fc_3 := nle_f c_3
        have b_4 : bd 0 7 v2_3 := ltL fc_3 bv2_3 bx_2 (by decide)
        have b_5 : bd 1 8 x_2 := ltR fc_3 bv2_3 bx_2 (by decide)
        refine lv_aload_n hx hb dX7_classNamed_10 rfl (lv_at hl 1 rfl) ?_
        refine g_getr (K := 136) (C := RX7) (T := TX7) (N := 19) hx hb hts (mc_ inX7) hown hK g ma0_ ka0_ (by decide) rfl 0 (by decide) rfl (hts _ (List.mem_cons_of_mem _ t_620)) (fun _ h9 => h9) rfl dX7_classNamed_11 (fun a_6 ma_6 ka_6 g => ?_)
        refine lv_iload_n hx hb dX7_classNamed_14 rfl (lv_at hl 0 rfl) ?_
        refine g_aald hx hb hK g ma_6 ka_6 (by decide) rfl (by decide) (in_bd b_4 (by decide)) dX7_classNamed_15 (fun a_7 ma_7 ua_7 wa_7 => ?_)
        have ka_7 : kd a_7 = 9 := by omega
        refine g_getl (C := RX9) (T := TX9) (N := 13) hx hb hts (mc_ inX9) hown hK g ma_7 ka_7 (by decide) rfl 0 (by decide) rfl (hts _ (List.mem_cons_of_mem _ t_479)) (fun _ h9 => h9) rfl dX7_classNamed_16 (fun x_8 g => ?_)
        refine lv_lload_n hx hb dX7_classNamed_19 rfl (lv_at hl 2 rfl) ?_
        refine W.lcmp hx hb dX7_classNamed_20 ?_
        refine lv_if_ne (tgt := 26) hx hb dX7_classNamed_21 (by decide) (fun c_9 => ?_) (fun c_9 => ?_)
        · have kb_1 : bd 1 1 (1 : Int32) := ⟨by decide, by decide⟩
          obtain ⟨y_10, ey_10⟩ : ∃ z : Int32, z = v2_3 + 1 := ⟨_, rfl⟩
          refine lv_iinc (v := y_10) (lv' := [(3, .int y_10), (0, .ref a0_), (1, .long x1_)]) hx hb dX7_classNamed_26 hl (k := 0) rfl (by rw [ey_10]; rfl) (by decide) rfl (fun ls hl => ?_)
          have ty_10 := add_bd ey_10 b_4 kb_1 (by decide)
          have b_11 : bd 1 8 y_10 := add_rg ty_10 b_4 kb_1 (by decide)
          refine lv_goto (tgt := 2) hx hb dX7_classNamed_29 (by decide) ?_
          have hl9 := lv_sub hl [0, 1, 2] (by rfl : lv_pick [(3, .int y_10), (0, .ref a0_), (1, .long x1_)] [0, 1, 2] = [(3, .int y_10), (0, .ref a0_), (1, .long x1_)])
          have g9 := g.sub (fx' := []) [] rfl
          exact ih2  y_10 (bd_sub b_11 (by decide)) (by have h9_0 := b_11; unfold bd at h9_0; have h9_1 := bv2_3; unfold bd at h9_1; have h9_2 := kb_1; unfold bd at h9_2; omega) _ _ _ _ g9  hl9
        · refine lv_iload_n hx hb dX7_classNamed_24 rfl (lv_at hl 0 rfl) ?_
          subst hQ
          exact W.iret (v := v2_3) hx hb hr (fun t ht hW => ⟨⟨_, _, rfl, ⟨(bd_sub b_4 (by decide)), trivial⟩, q3_of g hK ht hW⟩, g.2.2.1.F ht⟩) g.2.2.1.2.2 dX7_classNamed_25
  have kb_0 : bd 0 0 (0 : Int32) := ⟨by decide, by decide⟩
  have hl9 := lv_sub hl [0, 1, 2] (by rfl : lv_pick [(3, .int 0), (0, .ref a0_), (1, .long x1_)] [0, 1, 2] = [(3, .int 0), (0, .ref a0_), (1, .long x1_)])
  have g9 := g.sub (fx' := []) [] rfl
  exact loop_1 (19) 0 (bd_sub kb_0 (by decide)) (by have h9_0 := kb_0; unfold bd at h9_0; omega) _ _ _ _ g9  hl9
set_option maxHeartbeats 4000000 in
set_option maxRecDepth 100000 in
theorem r_X9_beginAs (l : Launch) (dC : Nat → ClassId) (dI : Nat → Nat → Nat) (L : List Nat) (kd : Nat → Nat) (tys : List (ClassId × FieldType)) (f0 : Nat → va_E) (sz : Nat) (hWT : WT L kd tys f0) (a0_ : Nat) (ma0_ : a0_ ∈ L) (ka0_ : kd a0_ = 9) (x1_ : Int64) : Met l yX9_beginAs (.code yX9_beginAs cX9_beginAs 3 none :: lw_g) ({ frames := 0, cells := 0, slots := 0, locals := 0 }) (va_Pc [.ref a0_, .long x1_] (P3 (dC, dI) L tys f0 sz)) (va_Qv (fun (f : Nat → va_E) => (Fs L kd f [(9, 12, a0_, .int (-1)), (9, 11, a0_, .int 0), (9, 10, a0_, .int 0), (9, 8, a0_, .int 0), (9, 7, a0_, .int 0), (9, 2, a0_, .int 0), (9, 1, a0_, .int (-1))])) (Q3 (dC, dI) L kd tys [(9, 0), (9, 1), (9, 2), (9, 7), (9, 8), (9, 10), (9, 11), (9, 12)] [] f0 sz) (pA L sz)) 0 0 (pA L sz) := by
  refine Met.ofW (cc := cX9_beginAs) (maxL := 3) (ret := none) (by decide) rfl ?_
  intro p e s m args below meth c s₁ B hml hv
  obtain ⟨rfl, hsz, hP, hK, hD0⟩ := hv
  have hx := B.exec
  have hb := B.bytes
  have hr := B.returns
  have hts := atoms_spec (ws := (.code yX9_beginAs cX9_beginAs 3 none :: lw_g)) B.pre
  have hown : s.vm.findClass RX9 = some m.cls := findClass_of_methodNamed B.named
  have hlocks := B.notSynchronized
  subst hsz
  have g : G3 (dC, dI) L kd tys s f0 [(9, 0), (9, 1), (9, 2), (9, 7), (9, 8), (9, 10), (9, 11), (9, 12)] [] f0 s.heap [] [] := G3.start hP hD0 hWT Fs.nil
  have hl := lv_entry ([.ref a0_, .long x1_]) (n := 3) (Nat.le_of_ble_eq_true rfl)
  rw [lg_entry_eq]
  generalize (lg_sl ([.ref a0_, .long x1_]) ++ List.replicate (3 - (lg_sl ([.ref a0_, .long x1_])).length) Slot.unset).toArray = ls at hl ⊢
  have hl : lv_has ls 3 [(0, .ref a0_), (1, .long x1_)] := hl
  refine W_q (fun Q hQ => ?_)
  refine lv_aload_n hx hb dX9_beginAs_0 rfl (lv_at hl 0 rfl) ?_
  refine lv_lload_n hx hb dX9_beginAs_1 rfl (lv_at hl 1 rfl) ?_
  refine g_put (C := RX9) (T := TX9) (N := 13) hx hb hts (mc_ inX9) tyX9 tyX9_ok nmX9 hown hK g ma0_ ka0_ (by decide) rfl 0 (by decide) (hts _ (List.mem_cons_of_mem _ t_478)) (fun _ h9 => h9) rfl rfl okV_l rfl rfl (by decide) (Or.inr (Or.inl (by decide))) (fx' := []) rfl dX9_beginAs_2 (fun f H locs hM_1 g => ?_)
  refine lv_aload_n hx hb dX9_beginAs_5 rfl (lv_at hl 0 rfl) ?_
  refine lv_iconst (v := (-1)) hx hb dX9_beginAs_6 (by decide) ?_
  have kb_m1 : bd (-1) (-1) ((-1) : Int32) := ⟨by decide, by decide⟩
  refine g_put (C := RX9) (T := TX9) (N := 13) hx hb hts (mc_ inX9) tyX9 tyX9_ok nmX9 hown hK g ma0_ ka0_ (by decide) rfl 1 (by decide) (hts _ (List.mem_cons_of_mem _ t_480)) (fun _ h9 => h9) rfl rfl (okV_i (bd_sub kb_m1 (by decide))) rfl rfl (by decide) (Or.inr (Or.inl (by decide))) (fx' := [(9, 0, a0_, .long x1_)]) rfl dX9_beginAs_7 (fun f H locs hM_2 g => ?_)
  refine lv_aload_n hx hb dX9_beginAs_10 rfl (lv_at hl 0 rfl) ?_
  refine lv_iconst (v := 0) hx hb dX9_beginAs_11 (by decide) ?_
  have kb_0 : bd 0 0 (0 : Int32) := ⟨by decide, by decide⟩
  refine g_put (C := RX9) (T := TX9) (N := 13) hx hb hts (mc_ inX9) tyX9 tyX9_ok nmX9 hown hK g ma0_ ka0_ (by decide) rfl 2 (by decide) (hts _ (List.mem_cons_of_mem _ t_485)) (fun _ h9 => h9) rfl rfl (okV_i (bd_sub kb_0 (by decide))) rfl rfl (by decide) (Or.inr (Or.inl (by decide))) (fx' := [(9, 1, a0_, .int (-1)), (9, 0, a0_, .long x1_)]) rfl dX9_beginAs_12 (fun f H locs hM_3 g => ?_)
  refine lv_aload_n hx hb dX9_beginAs_15 rfl (lv_at hl 0 rfl) ?_
  refine lv_iconst (v := 0) hx hb dX9_beginAs_16 (by decide) ?_
  refine g_put (C := RX9) (T := TX9) (N := 13) hx hb hts (mc_ inX9) tyX9 tyX9_ok nmX9 hown hK g ma0_ ka0_ (by decide) rfl 7 (by decide) (hts _ (List.mem_cons_of_mem _ t_493)) (fun _ h9 => h9) rfl rfl (okV_i (bd_sub kb_0 (by decide))) rfl rfl (by decide) (Or.inr (Or.inl (by decide))) (fx' := [(9, 2, a0_, .int 0), (9, 1, a0_, .int (-1)), (9, 0, a0_, .long x1_)]) rfl dX9_beginAs_17 (fun f H locs hM_4 g => ?_)
  refine lv_aload_n hx hb dX9_beginAs_20 rfl (lv_at hl 0 rfl) ?_
  refine lv_iconst (v := 0) hx hb dX9_beginAs_21 (by decide) ?_
  refine g_put (C := RX9) (T := TX9) (N := 13) hx hb hts (mc_ inX9) tyX9 tyX9_ok nmX9 hown hK g ma0_ ka0_ (by decide) rfl 8 (by decide) (hts _ (List.mem_cons_of_mem _ t_497)) (fun _ h9 => h9) rfl rfl (okV_i (bd_sub kb_0 (by decide))) rfl rfl (by decide) (Or.inr (Or.inl (by decide))) (fx' := [(9, 7, a0_, .int 0), (9, 2, a0_, .int 0), (9, 1, a0_, .int (-1)), (9, 0, a0_, .long x1_)]) rfl dX9_beginAs_22 (fun f H locs hM_5 g => ?_)
  refine lv_aload_n hx hb dX9_beginAs_25 rfl (lv_at hl 0 rfl) ?_
  refine lv_iconst (v := 0) hx hb dX9_beginAs_26 (by decide) ?_
  refine g_put (C := RX9) (T := TX9) (N := 13) hx hb hts (mc_ inX9) tyX9 tyX9_ok nmX9 hown hK g ma0_ ka0_ (by decide) rfl 10 (by decide) (hts _ (List.mem_cons_of_mem _ t_511)) (fun _ h9 => h9) rfl rfl (okV_i (bd_sub kb_0 (by decide))) rfl rfl (by decide) (Or.inr (Or.inl (by decide))) (fx' := [(9, 8, a0_, .int 0), (9, 7, a0_, .int 0), (9, 2, a0_, .int 0), (9, 1, a0_, .int (-1)), (9, 0, a0_, .long x1_)]) rfl dX9_beginAs_27 (fun f H locs hM_6 g => ?_)
  refine lv_aload_n hx hb dX9_beginAs_30 rfl (lv_at hl 0 rfl) ?_
  refine lv_iconst (v := 0) hx hb dX9_beginAs_31 (by decide) ?_
  refine g_put (C := RX9) (T := TX9) (N := 13) hx hb hts (mc_ inX9) tyX9 tyX9_ok nmX9 hown hK g ma0_ ka0_ (by decide) rfl 11 (by decide) (hts _ (List.mem_cons_of_mem _ t_514)) (fun _ h9 => h9) rfl rfl (okV_i (bd_sub kb_0 (by decide))) rfl rfl (by decide) (Or.inr (Or.inl (by decide))) (fx' := [(9, 10, a0_, .int 0), (9, 8, a0_, .int 0), (9, 7, a0_, .int 0), (9, 2, a0_, .int 0), (9, 1, a0_, .int (-1)), (9, 0, a0_, .long x1_)]) rfl dX9_beginAs_32 (fun f H locs hM_7 g => ?_)
  refine lv_aload_n hx hb dX9_beginAs_35 rfl (lv_at hl 0 rfl) ?_
  refine lv_iconst (v := (-1)) hx hb dX9_beginAs_36 (by decide) ?_
  refine g_put (C := RX9) (T := TX9) (N := 13) hx hb hts (mc_ inX9) tyX9 tyX9_ok nmX9 hown hK g ma0_ ka0_ (by decide) rfl 12 (by decide) (hts _ (List.mem_cons_of_mem _ t_518)) (fun _ h9 => h9) rfl rfl (okV_i (bd_sub kb_m1 (by decide))) rfl rfl (by decide) (Or.inr (Or.inl (by decide))) (fx' := [(9, 11, a0_, .int 0), (9, 10, a0_, .int 0), (9, 8, a0_, .int 0), (9, 7, a0_, .int 0), (9, 2, a0_, .int 0), (9, 1, a0_, .int (-1)), (9, 0, a0_, .long x1_)]) rfl dX9_beginAs_37 (fun f H locs hM_8 g => ?_)
  subst hQ
  exact W.vret hx hb hr (fun t ht hW => ⟨⟨_, rfl, (g.fcts [0, 1, 2, 3, 4, 5, 6] rfl), q3_of g hK ht hW⟩, g.2.2.1.F ht⟩) g.2.2.1.2.2 dX9_beginAs_40
set_option maxHeartbeats 4000000 in
set_option maxRecDepth 100000 in
theorem r_X9_standBelow (l : Launch) (dC : Nat → ClassId) (dI : Nat → Nat → Nat) (L : List Nat) (kd : Nat → Nat) (tys : List (ClassId × FieldType)) (f0 : Nat → va_E) (sz : Nat) (hWT : WT L kd tys f0) (a0_ : Nat) (ma0_ : a0_ ∈ L) (ka0_ : kd a0_ = 9) (x1_ : Int32) (a2_ : Nat) (ma2_ : a2_ ∈ L) (ka2_ : kd a2_ = 9) : Met l yX9_standBelow (.code yX9_standBelow cX9_standBelow 3 none :: lw_g) ({ frames := 1, cells := 0, slots := 0, locals := 40 }) (va_Pc [.ref a0_, .int x1_, .ref a2_] (P3 (dC, dI) L tys f0 sz)) (va_Qv (fun (f : Nat → va_E) => (True)) (Q3 (dC, dI) L kd tys [(9, 1), (9, 2), (9, 7), (9, 8)] [152, 153, 154, 155, 156] f0 sz) (pA L sz)) 0 0 (pA L sz) := by
  refine Met.ofW (cc := cX9_standBelow) (maxL := 3) (ret := none) (by decide) rfl ?_
  intro p e s m args below meth c s₁ B hml hv
  obtain ⟨rfl, hsz, hP, hK, hD0⟩ := hv
  have hx := B.exec
  have hb := B.bytes
  have hr := B.returns
  have hts := atoms_spec (ws := (.code yX9_standBelow cX9_standBelow 3 none :: lw_g)) B.pre
  have hown : s.vm.findClass RX9 = some m.cls := findClass_of_methodNamed B.named
  have hlocks := B.notSynchronized
  subst hsz
  have g : G3 (dC, dI) L kd tys s f0 [(9, 1), (9, 2), (9, 7), (9, 8)] [152, 153, 154, 155, 156] f0 s.heap [] [] := G3.start hP hD0 hWT Fs.nil
  have hl := lv_entry ([.ref a0_, .int x1_, .ref a2_]) (n := 3) (Nat.le_of_ble_eq_true rfl)
  rw [lg_entry_eq]
  generalize (lg_sl ([.ref a0_, .int x1_, .ref a2_]) ++ List.replicate (3 - (lg_sl ([.ref a0_, .int x1_, .ref a2_])).length) Slot.unset).toArray = ls at hl ⊢
  have hl : lv_has ls 3 [(0, .ref a0_), (1, .int x1_), (2, .ref a2_)] := hl
  refine W_q (fun Q hQ => ?_)
  refine lv_aload_n hx hb dX9_standBelow_0 rfl (lv_at hl 0 rfl) ?_
  refine lv_iload_n hx hb dX9_standBelow_1 rfl (lv_at hl 1 rfl) ?_
  refine g_put (C := RX9) (T := TX9) (N := 13) hx hb hts (mc_ inX9) tyX9 tyX9_ok nmX9 hown hK g ma0_ ka0_ (by decide) rfl 1 (by decide) (hts _ (List.mem_cons_of_mem _ t_480)) (fun _ h9 => h9) rfl rfl (okV_i (bdT x1_)) rfl rfl (by decide) (Or.inr (Or.inl (by decide))) (fx' := []) rfl dX9_standBelow_2 (fun f H locs hM_1 g => ?_)
  refine lv_aload_n hx hb dX9_standBelow_5 rfl (lv_at hl 0 rfl) ?_
  refine lv_aload_n hx hb dX9_standBelow_6 rfl (lv_at hl 2 rfl) ?_
  refine g_geti (C := RX9) (T := TX9) (N := 13) hx hb hts (mc_ inX9) hown hK g ma2_ ka2_ (by decide) rfl 2 (by decide) rfl (hts _ (List.mem_cons_of_mem _ t_485)) (fun _ h9 => h9) rfl dX9_standBelow_7 (fun x_2 bx_2 g => ?_)
  refine g_put (C := RX9) (T := TX9) (N := 13) hx hb hts (mc_ inX9) tyX9 tyX9_ok nmX9 hown hK g ma0_ ka0_ (by decide) rfl 2 (by decide) (hts _ (List.mem_cons_of_mem _ t_485)) (fun _ h9 => h9) rfl rfl (okV_i bx_2) rfl rfl (by decide) (Or.inr (Or.inl (by decide))) (fx' := [(9, 1, a0_, .int x1_)]) rfl dX9_standBelow_10 (fun f H locs hM_3 g => ?_)
  refine lv_aload_n hx hb dX9_standBelow_13 rfl (lv_at hl 2 rfl) ?_
  refine g_getr (K := 152) (C := RX9) (T := TX9) (N := 13) hx hb hts (mc_ inX9) hown hK g ma2_ ka2_ (by decide) rfl 3 (by decide) rfl (hts _ (List.mem_cons_of_mem _ t_488)) (fun _ h9 => h9) rfl dX9_standBelow_14 (fun a_4 ma_4 ka_4 g => ?_)
  refine lv_iconst (v := 0) hx hb dX9_standBelow_17 (by decide) ?_
  refine lv_aload_n hx hb dX9_standBelow_18 rfl (lv_at hl 0 rfl) ?_
  refine g_getr (K := 152) (C := RX9) (T := TX9) (N := 13) hx hb hts (mc_ inX9) hown hK g ma0_ ka0_ (by decide) rfl 3 (by decide) rfl (hts _ (List.mem_cons_of_mem _ t_488)) (fun _ h9 => h9) rfl dX9_standBelow_19 (fun a_5 ma_5 ka_5 g => ?_)
  refine lv_iconst (v := 0) hx hb dX9_standBelow_22 (by decide) ?_
  refine lv_bipush (v := 10) hx hb dX9_standBelow_23 (by decide) ?_
  refine g_copyl hx hb (hml.trans hl.1.symm) hown (hts _ (List.mem_cons_of_mem _ t_1140)) (hts _ (List.mem_cons_of_mem _ t_1142)) (hts _ (List.mem_cons_of_mem _ t_1141)) (hts _ (List.mem_cons_of_mem _ t_206)) hK g ma_4 ka_4 ma_5 ka_5 (by decide) (by decide) rfl rfl (by decide) (by decide) (by decide) (by decide) (Nat.le_of_ble_eq_true rfl) (Nat.le_of_ble_eq_true rfl) dX9_standBelow_25 (fun f H locs hM_6 g => ?_)
  refine lv_aload_n hx hb dX9_standBelow_28 rfl (lv_at hl 2 rfl) ?_
  refine g_getr (K := 153) (C := RX9) (T := TX9) (N := 13) hx hb hts (mc_ inX9) hown hK g ma2_ ka2_ (by decide) rfl 4 (by decide) rfl (hts _ (List.mem_cons_of_mem _ t_489)) (fun _ h9 => h9) rfl dX9_standBelow_29 (fun a_7 ma_7 ka_7 g => ?_)
  refine lv_iconst (v := 0) hx hb dX9_standBelow_32 (by decide) ?_
  refine lv_aload_n hx hb dX9_standBelow_33 rfl (lv_at hl 0 rfl) ?_
  refine g_getr (K := 153) (C := RX9) (T := TX9) (N := 13) hx hb hts (mc_ inX9) hown hK g ma0_ ka0_ (by decide) rfl 4 (by decide) rfl (hts _ (List.mem_cons_of_mem _ t_489)) (fun _ h9 => h9) rfl dX9_standBelow_34 (fun a_8 ma_8 ka_8 g => ?_)
  refine lv_iconst (v := 0) hx hb dX9_standBelow_37 (by decide) ?_
  refine lv_bipush (v := 10) hx hb dX9_standBelow_38 (by decide) ?_
  refine g_copyi hx hb (hml.trans hl.1.symm) hown (hts _ (List.mem_cons_of_mem _ t_1140)) (hts _ (List.mem_cons_of_mem _ t_1142)) (hts _ (List.mem_cons_of_mem _ t_1141)) (hts _ (List.mem_cons_of_mem _ t_206)) hK g ma_7 ka_7 ma_8 ka_8 (by decide) (by decide) rfl rfl (by decide) (by decide) (by decide) (by decide) (by decide) (Nat.le_of_ble_eq_true rfl) (Nat.le_of_ble_eq_true rfl) dX9_standBelow_40 (fun f H locs hM_9 g => ?_)
  refine lv_aload_n hx hb dX9_standBelow_43 rfl (lv_at hl 2 rfl) ?_
  refine g_getr (K := 154) (C := RX9) (T := TX9) (N := 13) hx hb hts (mc_ inX9) hown hK g ma2_ ka2_ (by decide) rfl 5 (by decide) rfl (hts _ (List.mem_cons_of_mem _ t_490)) (fun _ h9 => h9) rfl dX9_standBelow_44 (fun a_10 ma_10 ka_10 g => ?_)
  refine lv_iconst (v := 0) hx hb dX9_standBelow_47 (by decide) ?_
  refine lv_aload_n hx hb dX9_standBelow_48 rfl (lv_at hl 0 rfl) ?_
  refine g_getr (K := 154) (C := RX9) (T := TX9) (N := 13) hx hb hts (mc_ inX9) hown hK g ma0_ ka0_ (by decide) rfl 5 (by decide) rfl (hts _ (List.mem_cons_of_mem _ t_490)) (fun _ h9 => h9) rfl dX9_standBelow_49 (fun a_11 ma_11 ka_11 g => ?_)
  refine lv_iconst (v := 0) hx hb dX9_standBelow_52 (by decide) ?_
  refine lv_bipush (v := 10) hx hb dX9_standBelow_53 (by decide) ?_
  refine g_copyi hx hb (hml.trans hl.1.symm) hown (hts _ (List.mem_cons_of_mem _ t_1140)) (hts _ (List.mem_cons_of_mem _ t_1142)) (hts _ (List.mem_cons_of_mem _ t_1141)) (hts _ (List.mem_cons_of_mem _ t_206)) hK g ma_10 ka_10 ma_11 ka_11 (by decide) (by decide) rfl rfl (by decide) (by decide) (by decide) (by decide) (by decide) (Nat.le_of_ble_eq_true rfl) (Nat.le_of_ble_eq_true rfl) dX9_standBelow_55 (fun f H locs hM_12 g => ?_)
  refine lv_aload_n hx hb dX9_standBelow_58 rfl (lv_at hl 2 rfl) ?_
  refine g_getr (K := 155) (C := RX9) (T := TX9) (N := 13) hx hb hts (mc_ inX9) hown hK g ma2_ ka2_ (by decide) rfl 6 (by decide) rfl (hts _ (List.mem_cons_of_mem _ t_492)) (fun _ h9 => h9) rfl dX9_standBelow_59 (fun a_13 ma_13 ka_13 g => ?_)
  refine lv_iconst (v := 0) hx hb dX9_standBelow_62 (by decide) ?_
  refine lv_aload_n hx hb dX9_standBelow_63 rfl (lv_at hl 0 rfl) ?_
  refine g_getr (K := 155) (C := RX9) (T := TX9) (N := 13) hx hb hts (mc_ inX9) hown hK g ma0_ ka0_ (by decide) rfl 6 (by decide) rfl (hts _ (List.mem_cons_of_mem _ t_492)) (fun _ h9 => h9) rfl dX9_standBelow_64 (fun a_14 ma_14 ka_14 g => ?_)
  refine lv_iconst (v := 0) hx hb dX9_standBelow_67 (by decide) ?_
  refine lv_bipush (v := 10) hx hb dX9_standBelow_68 (by decide) ?_
  refine g_copyi hx hb (hml.trans hl.1.symm) hown (hts _ (List.mem_cons_of_mem _ t_1140)) (hts _ (List.mem_cons_of_mem _ t_1142)) (hts _ (List.mem_cons_of_mem _ t_1141)) (hts _ (List.mem_cons_of_mem _ t_206)) hK g ma_13 ka_13 ma_14 ka_14 (by decide) (by decide) rfl rfl (by decide) (by decide) (by decide) (by decide) (by decide) (Nat.le_of_ble_eq_true rfl) (Nat.le_of_ble_eq_true rfl) dX9_standBelow_70 (fun f H locs hM_15 g => ?_)
  refine lv_aload_n hx hb dX9_standBelow_73 rfl (lv_at hl 0 rfl) ?_
  refine lv_aload_n hx hb dX9_standBelow_74 rfl (lv_at hl 2 rfl) ?_
  refine g_geti (C := RX9) (T := TX9) (N := 13) hx hb hts (mc_ inX9) hown hK g ma2_ ka2_ (by decide) rfl 7 (by decide) rfl (hts _ (List.mem_cons_of_mem _ t_493)) (fun _ h9 => h9) rfl dX9_standBelow_75 (fun x_16 bx_16 g => ?_)
  refine g_put (C := RX9) (T := TX9) (N := 13) hx hb hts (mc_ inX9) tyX9 tyX9_ok nmX9 hown hK g ma0_ ka0_ (by decide) rfl 7 (by decide) (hts _ (List.mem_cons_of_mem _ t_493)) (fun _ h9 => h9) rfl rfl (okV_i bx_16) rfl rfl (by decide) (Or.inr (Or.inl (by decide))) (fx' := [(9, 6, a0_, .ref a_14), (9, 6, a2_, .ref a_13), (9, 5, a0_, .ref a_11), (9, 5, a2_, .ref a_10), (9, 4, a0_, .ref a_8), (9, 4, a2_, .ref a_7), (9, 3, a0_, .ref a_5), (9, 3, a2_, .ref a_4), (9, 2, a0_, .int x_2), (9, 1, a0_, .int x1_)]) rfl dX9_standBelow_78 (fun f H locs hM_17 g => ?_)
  refine lv_aload_n hx hb dX9_standBelow_81 rfl (lv_at hl 0 rfl) ?_
  refine lv_aload_n hx hb dX9_standBelow_82 rfl (lv_at hl 2 rfl) ?_
  refine g_geti (C := RX9) (T := TX9) (N := 13) hx hb hts (mc_ inX9) hown hK g ma2_ ka2_ (by decide) rfl 8 (by decide) rfl (hts _ (List.mem_cons_of_mem _ t_497)) (fun _ h9 => h9) rfl dX9_standBelow_83 (fun x_18 bx_18 g => ?_)
  refine g_put (C := RX9) (T := TX9) (N := 13) hx hb hts (mc_ inX9) tyX9 tyX9_ok nmX9 hown hK g ma0_ ka0_ (by decide) rfl 8 (by decide) (hts _ (List.mem_cons_of_mem _ t_497)) (fun _ h9 => h9) rfl rfl (okV_i bx_18) rfl rfl (by decide) (Or.inr (Or.inl (by decide))) (fx' := [(9, 7, a0_, .int x_16), (9, 6, a0_, .ref a_14), (9, 6, a2_, .ref a_13), (9, 5, a0_, .ref a_11), (9, 5, a2_, .ref a_10), (9, 4, a0_, .ref a_8), (9, 4, a2_, .ref a_7), (9, 3, a0_, .ref a_5), (9, 3, a2_, .ref a_4), (9, 2, a0_, .int x_2), (9, 1, a0_, .int x1_)]) rfl dX9_standBelow_86 (fun f H locs hM_19 g => ?_)
  refine lv_aload_n hx hb dX9_standBelow_89 rfl (lv_at hl 2 rfl) ?_
  refine g_getr (K := 156) (C := RX9) (T := TX9) (N := 13) hx hb hts (mc_ inX9) hown hK g ma2_ ka2_ (by decide) rfl 9 (by decide) rfl (hts _ (List.mem_cons_of_mem _ t_503)) (fun _ h9 => h9) rfl dX9_standBelow_90 (fun a_20 ma_20 ka_20 g => ?_)
  refine lv_iconst (v := 0) hx hb dX9_standBelow_93 (by decide) ?_
  refine lv_aload_n hx hb dX9_standBelow_94 rfl (lv_at hl 0 rfl) ?_
  refine g_getr (K := 156) (C := RX9) (T := TX9) (N := 13) hx hb hts (mc_ inX9) hown hK g ma0_ ka0_ (by decide) rfl 9 (by decide) rfl (hts _ (List.mem_cons_of_mem _ t_503)) (fun _ h9 => h9) rfl dX9_standBelow_95 (fun a_21 ma_21 ka_21 g => ?_)
  refine lv_iconst (v := 0) hx hb dX9_standBelow_98 (by decide) ?_
  refine lv_bipush (v := 12) hx hb dX9_standBelow_99 (by decide) ?_
  refine g_copyi hx hb (hml.trans hl.1.symm) hown (hts _ (List.mem_cons_of_mem _ t_1140)) (hts _ (List.mem_cons_of_mem _ t_1142)) (hts _ (List.mem_cons_of_mem _ t_1141)) (hts _ (List.mem_cons_of_mem _ t_206)) hK g ma_20 ka_20 ma_21 ka_21 (by decide) (by decide) rfl rfl (by decide) (by decide) (by decide) (by decide) (by decide) (Nat.le_of_ble_eq_true rfl) (Nat.le_of_ble_eq_true rfl) dX9_standBelow_101 (fun f H locs hM_22 g => ?_)
  subst hQ
  exact W.vret hx hb hr (fun t ht hW => ⟨⟨_, rfl, trivial, q3_of g hK ht hW⟩, g.2.2.1.F ht⟩) g.2.2.1.2.2 dX9_standBelow_104
set_option maxHeartbeats 4000000 in
set_option maxRecDepth 100000 in
theorem r_X2_readClassAbove (l : Launch) (dC : Nat → ClassId) (dI : Nat → Nat → Nat) (L : List Nat) (kd : Nat → Nat) (tys : List (ClassId × FieldType)) (f0 : Nat → va_E) (sz : Nat) (hWT : WT L kd tys f0) (a0_ : Nat) (ma0_ : a0_ ∈ L) (ka0_ : kd a0_ = 2) (q0_ : Nat) (mq0_ : q0_ ∈ L) (kq0_ : kd q0_ = 8) (q1_ : Nat) (mq1_ : q1_ ∈ L) (kq1_ : kd q1_ = 7) (q2_ : Nat) (mq2_ : q2_ ∈ L) (kq2_ : kd q2_ = 9) (hfx : Fs L kd f0 [(2, 0, a0_, .ref q0_), (2, 3, a0_, .ref q1_), (2, 4, a0_, .ref q2_)]) : Met l yX2_readClassAbove (.code yX2_readClassAbove cX2_readClassAbove 3 none :: lw_g) ({ frames := 2, cells := 0, slots := 0, locals := 62 }) (va_Pc [.ref a0_] (P3 (dC, dI) L tys f0 sz)) (va_Qv (fun (f : Nat → va_E) => (∃ z1_ : Int32, bd 1 7 z1_ ∧ Fs L kd f [(8, 6, q0_, .int 1201), (8, 8, q0_, .int z1_)]) ∨ (∃ z0_ : Int32, bd 1 1201 z0_ ∧ Fs L kd f [(8, 6, q0_, .int z0_)])) (Q3 (dC, dI) L kd tys [(8, 6), (8, 8), (8, 9), (9, 1), (9, 2), (9, 7), (9, 8)] [152, 153, 154, 155, 156] f0 sz) (pA L sz)) 0 0 (pA L sz) := by
  refine Met.ofW (cc := cX2_readClassAbove) (maxL := 3) (ret := none) (by decide) rfl ?_
  intro p e s m args below meth c s₁ B hml hv
  obtain ⟨rfl, hsz, hP, hK, hD0⟩ := hv
  have hx := B.exec
  have hb := B.bytes
  have hr := B.returns
  have hts := atoms_spec (ws := (.code yX2_readClassAbove cX2_readClassAbove 3 none :: lw_g)) B.pre
  have hown : s.vm.findClass RX2 = some m.cls := findClass_of_methodNamed B.named
  have hlocks := B.notSynchronized
  subst hsz
  have g : G3 (dC, dI) L kd tys s f0 [(8, 6), (8, 8), (8, 9), (9, 1), (9, 2), (9, 7), (9, 8)] [152, 153, 154, 155, 156] f0 s.heap [] [(2, 0, a0_, .ref q0_), (2, 3, a0_, .ref q1_), (2, 4, a0_, .ref q2_)] := G3.start hP hD0 hWT hfx
  have hl := lv_entry ([.ref a0_]) (n := 3) (Nat.le_of_ble_eq_true rfl)
  rw [lg_entry_eq]
  generalize (lg_sl ([.ref a0_]) ++ List.replicate (3 - (lg_sl ([.ref a0_])).length) Slot.unset).toArray = ls at hl ⊢
  have hl : lv_has ls 3 [(0, .ref a0_)] := hl
  refine W_q (fun Q hQ => ?_)
  refine lv_aload_n hx hb dX2_readClassAbove_0 rfl (lv_at hl 0 rfl) ?_
  refine g_getk (C := RX2) (T := TX2) (N := 16) hx hb hts (mc_ inX2) hown hK g rfl 0 (by decide) rfl (hts _ (List.mem_cons_of_mem _ t_416)) (fun _ h9 => h9) 0 rfl dX2_readClassAbove_1 ?_
  refine g_callv (va_runV (As := []) (rest := []) ⟨hx, hb, hml, hown, hts⟩ (r_X8_next l dC dI L kd tys f0 s.heap.size g.2.2.2.1 q0_ mq0_ kq0_) (cwV 0 hts (gV_ t_1131 t_1103 t_1104 t_184 t_1105) rfl rfl rfl (by decide +kernel) ⟨(Nat.le_of_ble_eq_true rfl), (Nat.le_of_ble_eq_true rfl)⟩) (pre3V g hK mq0_ kq0_ (by decide) (q := (RX8, TX8, 10)) rfl) rfl rfl hl.1 rfl (lv_room (Nat.le_of_ble_eq_true rfl)) dX2_readClassAbove_4 ⟨(Nat.le_of_ble_eq_true rfl), (Nat.le_of_ble_eq_true rfl)⟩) g hK (by decide) (by decide) (fx' := [(2, 0, a0_, .ref q0_), (2, 3, a0_, .ref q1_), (2, 4, a0_, .ref q2_)]) rfl (fun fr_1 H locs hp hMr_1 g => ?_)
  obtain ⟨x_2, h_3, hF_4⟩ := hp
  have g := g.more hF_4
  refine lv_aload_n hx hb dX2_readClassAbove_7 rfl (lv_at hl 0 rfl) ?_
  refine g_getk (C := RX2) (T := TX2) (N := 16) hx hb hts (mc_ inX2) hown hK g rfl 0 (by decide) rfl (hts _ (List.mem_cons_of_mem _ t_416)) (fun _ h9 => h9) 1 rfl dX2_readClassAbove_8 ?_
  refine g_calli (va_runV (As := []) (rest := []) ⟨hx, hb, hml, hown, hts⟩ (r_X8_place l dC dI L kd tys fr_1 H.size g.2.2.2.1 q0_ mq0_ kq0_) (cwV 0 hts (gV_ t_1110 t_1111 t_1112 t_184 t_1113) rfl rfl rfl (by decide +kernel) ⟨(Nat.le_of_ble_eq_true rfl), (Nat.le_of_ble_eq_true rfl)⟩) (pre3V g hK mq0_ kq0_ (by decide) (q := (RX8, TX8, 10)) rfl) rfl rfl hl.1 rfl (lv_room (Nat.le_of_ble_eq_true rfl)) dX2_readClassAbove_11 ⟨(Nat.le_of_ble_eq_true rfl), (Nat.le_of_ble_eq_true rfl)⟩) g hK (by decide) (by decide) (fx' := [(8, 6, q0_, .int x_2), (2, 0, a0_, .ref q0_), (2, 3, a0_, .ref q1_), (2, 4, a0_, .ref q2_)]) rfl (fun r_5 fr_5 H locs hp hMr_5 g => ?_)
  refine lv_istore_n (lv' := [(1, .int r_5), (0, .ref a0_)]) hx hb dX2_readClassAbove_14 rfl hl (by decide) rfl (fun ls hl => ?_)
  refine lv_aload_n hx hb dX2_readClassAbove_15 rfl (lv_at hl 1 rfl) ?_
  refine g_getk (C := RX2) (T := TX2) (N := 16) hx hb hts (mc_ inX2) hown hK g rfl 3 (by decide) rfl (hts _ (List.mem_cons_of_mem _ t_419)) (fun _ h9 => h9) 2 rfl dX2_readClassAbove_16 ?_
  refine lv_aload_n hx hb dX2_readClassAbove_19 rfl (lv_at hl 1 rfl) ?_
  refine g_getk (C := RX2) (T := TX2) (N := 16) hx hb hts (mc_ inX2) hown hK g rfl 0 (by decide) rfl (hts _ (List.mem_cons_of_mem _ t_416)) (fun _ h9 => h9) 1 rfl dX2_readClassAbove_20 ?_
  refine g_calll (va_runV (As := []) (rest := [.ref q1_]) ⟨hx, hb, hml, hown, hts⟩ (r_X8_value l dC dI L kd tys fr_5 H.size g.2.2.2.1 q0_ mq0_ kq0_) (cwV 0 hts (gV_ t_1114 t_1115 t_1116 t_184 t_1117) rfl rfl rfl (by decide +kernel) ⟨(Nat.le_of_ble_eq_true rfl), (Nat.le_of_ble_eq_true rfl)⟩) (pre3V g hK mq0_ kq0_ (by decide) (q := (RX8, TX8, 10)) rfl) rfl rfl hl.1 rfl (lv_room (Nat.le_of_ble_eq_true rfl)) dX2_readClassAbove_23 ⟨(Nat.le_of_ble_eq_true rfl), (Nat.le_of_ble_eq_true rfl)⟩) g hK (by decide) (by decide) (fx' := [(8, 6, q0_, .int x_2), (2, 0, a0_, .ref q0_), (2, 3, a0_, .ref q1_), (2, 4, a0_, .ref q2_)]) rfl (fun r_6 fr_6 H locs hp hMr_6 g => ?_)
  refine g_calli (va_runV (As := [.long r_6]) (rest := []) ⟨hx, hb, hml, hown, hts⟩ (r_X7_classNamed l dC dI L kd tys fr_6 H.size g.2.2.2.1 q1_ mq1_ kq1_ r_6) (cwV 1 hts (gV_ t_1123 t_1124 t_1125 t_191 t_1126) rfl rfl rfl (by decide +kernel) ⟨(Nat.le_of_ble_eq_true rfl), (Nat.le_of_ble_eq_true rfl)⟩) (pre3V g hK mq1_ kq1_ (by decide) (q := (RX7, TX7, 19)) rfl) rfl rfl hl.1 rfl (lv_room (Nat.le_of_ble_eq_true rfl)) dX2_readClassAbove_26 ⟨(Nat.le_of_ble_eq_true rfl), (Nat.le_of_ble_eq_true rfl)⟩) g hK (by decide) (by decide) (fx' := [(8, 6, q0_, .int x_2), (2, 0, a0_, .ref q0_), (2, 3, a0_, .ref q1_), (2, 4, a0_, .ref q2_)]) rfl (fun r_7 fr_7 H locs hp hMr_7 g => ?_)
  obtain ⟨h_8, -⟩ := hp
  refine lv_istore_n (lv' := [(2, .int r_7), (1, .int r_5), (0, .ref a0_)]) hx hb dX2_readClassAbove_29 rfl hl (by decide) rfl (fun ls hl => ?_)
  refine lv_aload_n hx hb dX2_readClassAbove_30 rfl (lv_at hl 2 rfl) ?_
  refine g_getk (C := RX2) (T := TX2) (N := 16) hx hb hts (mc_ inX2) hown hK g rfl 0 (by decide) rfl (hts _ (List.mem_cons_of_mem _ t_416)) (fun _ h9 => h9) 1 rfl dX2_readClassAbove_31 ?_
  refine g_calli (va_runV (As := []) (rest := []) ⟨hx, hb, hml, hown, hts⟩ (r_X8_kind l dC dI L kd tys fr_7 H.size g.2.2.2.1 q0_ mq0_ kq0_) (cwV 0 hts (gV_ t_1118 t_1119 t_1120 t_184 t_1121) rfl rfl rfl (by decide +kernel) ⟨(Nat.le_of_ble_eq_true rfl), (Nat.le_of_ble_eq_true rfl)⟩) (pre3V g hK mq0_ kq0_ (by decide) (q := (RX8, TX8, 10)) rfl) rfl rfl hl.1 rfl (lv_room (Nat.le_of_ble_eq_true rfl)) dX2_readClassAbove_34 ⟨(Nat.le_of_ble_eq_true rfl), (Nat.le_of_ble_eq_true rfl)⟩) g hK (by decide) (by decide) (fx' := [(8, 6, q0_, .int x_2), (2, 0, a0_, .ref q0_), (2, 3, a0_, .ref q1_), (2, 4, a0_, .ref q2_)]) rfl (fun r_9 fr_9 H locs hp hMr_9 g => ?_)
  refine lv_iconst (v := 3) hx hb dX2_readClassAbove_37 (by decide) ?_
  have kb_3 : bd 3 3 (3 : Int32) := ⟨by decide, by decide⟩
  refine lv_icmp_eq (tgt := 53) hx hb dX2_readClassAbove_38 (by decide) (fun c_10 => ?_) (fun c_10 => ?_)
  · have fc_10 := eq_f c_10
    have b_11 : bd 3 3 r_9 := eqX fc_10 (bdT r_9) kb_3 (by decide)
    refine lv_iload_n hx hb dX2_readClassAbove_53 rfl (lv_at hl 0 rfl) ?_
    refine lv_iconst (v := (-1)) hx hb dX2_readClassAbove_54 (by decide) ?_
    have kb_m1 : bd (-1) (-1) ((-1) : Int32) := ⟨by decide, by decide⟩
    refine lv_icmp_ne (tgt := 70) hx hb dX2_readClassAbove_55 (by decide) (fun c_12 => ?_) (fun c_12 => ?_)
    · have fc_12 := neq_f c_12
      have b_13 : bd 0 7 r_7 := neX fc_12 h_8 kb_m1 (by decide)
      refine lv_aload_n hx hb dX2_readClassAbove_70 rfl (lv_at hl 2 rfl) ?_
      refine g_getk (C := RX2) (T := TX2) (N := 16) hx hb hts (mc_ inX2) hown hK g rfl 4 (by decide) rfl (hts _ (List.mem_cons_of_mem _ t_420)) (fun _ h9 => h9) 3 rfl dX2_readClassAbove_71 ?_
      refine lv_iload_n hx hb dX2_readClassAbove_74 rfl (lv_at hl 0 rfl) ?_
      refine lv_aload_n hx hb dX2_readClassAbove_75 rfl (lv_at hl 2 rfl) ?_
      refine g_getk (C := RX2) (T := TX2) (N := 16) hx hb hts (mc_ inX2) hown hK g rfl 3 (by decide) rfl (hts _ (List.mem_cons_of_mem _ t_419)) (fun _ h9 => h9) 2 rfl dX2_readClassAbove_76 ?_
      refine g_getr (K := 136) (C := RX7) (T := TX7) (N := 19) hx hb hts (mc_ inX7) hown hK g mq1_ kq1_ (by decide) rfl 0 (by decide) rfl (hts _ (List.mem_cons_of_mem _ t_621)) (fun _ h9 => h9) rfl dX2_readClassAbove_79 (fun a_14 ma_14 ka_14 g => ?_)
      refine lv_iload_n hx hb dX2_readClassAbove_82 rfl (lv_at hl 0 rfl) ?_
      refine g_aald hx hb hK g ma_14 ka_14 (by decide) rfl (by decide) (in_bd b_13 (by decide)) dX2_readClassAbove_83 (fun a_15 ma_15 ua_15 wa_15 => ?_)
      have ka_15 : kd a_15 = 9 := by omega
      refine g_callv (va_runV (As := [.int r_7, .ref a_15]) (rest := []) ⟨hx, hb, hml, hown, hts⟩ (r_X9_standBelow l dC dI L kd tys fr_9 H.size g.2.2.2.1 q2_ mq2_ kq2_ r_7 a_15 ma_15 ka_15) (cwV 2 hts (gV_ t_1136 t_1137 t_1138 t_192 t_1139) rfl rfl rfl (by decide +kernel) ⟨(Nat.le_of_ble_eq_true rfl), (Nat.le_of_ble_eq_true rfl)⟩) (pre3V g hK mq2_ kq2_ (by decide) (q := (RX9, TX9, 13)) rfl) rfl rfl hl.1 rfl (lv_room (Nat.le_of_ble_eq_true rfl)) dX2_readClassAbove_84 ⟨(Nat.le_of_ble_eq_true rfl), (Nat.le_of_ble_eq_true rfl)⟩) g hK (by decide) (by decide) (fx' := [(7, 0, q1_, .ref a_14), (8, 6, q0_, .int x_2), (2, 0, a0_, .ref q0_), (2, 3, a0_, .ref q1_), (2, 4, a0_, .ref q2_)]) rfl (fun fr_16 H locs hp hMr_16 g => ?_)
      refine lv_aload_n hx hb dX2_readClassAbove_87 rfl (lv_at hl 2 rfl) ?_
      refine g_getk (C := RX2) (T := TX2) (N := 16) hx hb hts (mc_ inX2) hown hK g rfl 0 (by decide) rfl (hts _ (List.mem_cons_of_mem _ t_416)) (fun _ h9 => h9) 2 rfl dX2_readClassAbove_88 ?_
      refine g_callv (va_runV (As := []) (rest := []) ⟨hx, hb, hml, hown, hts⟩ (r_X8_next l dC dI L kd tys fr_16 H.size g.2.2.2.1 q0_ mq0_ kq0_) (cwV 0 hts (gV_ t_1131 t_1103 t_1104 t_184 t_1105) rfl rfl rfl (by decide +kernel) ⟨(Nat.le_of_ble_eq_true rfl), (Nat.le_of_ble_eq_true rfl)⟩) (pre3V g hK mq0_ kq0_ (by decide) (q := (RX8, TX8, 10)) rfl) rfl rfl hl.1 rfl (lv_room (Nat.le_of_ble_eq_true rfl)) dX2_readClassAbove_91 ⟨(Nat.le_of_ble_eq_true rfl), (Nat.le_of_ble_eq_true rfl)⟩) g hK (by decide) (by decide) (fx' := [(7, 0, q1_, .ref a_14), (2, 0, a0_, .ref q0_), (2, 3, a0_, .ref q1_), (2, 4, a0_, .ref q2_)]) rfl (fun fr_17 H locs hp hMr_17 g => ?_)
      obtain ⟨x_18, h_19, hF_20⟩ := hp
      have g := g.more hF_20
      subst hQ
      exact W.vret hx hb hr (fun t ht hW => ⟨⟨_, rfl, Or.inr (⟨x_18, h_19, (g.fcts [0] rfl)⟩), q3_of g hK ht hW⟩, g.2.2.1.F ht⟩) g.2.2.1.2.2 dX2_readClassAbove_94
    · have fc_12 := eq_f c_12
      have b_21 : bd (-1) (-1) r_7 := eqX fc_12 h_8 kb_m1 (by decide)
      refine lv_aload_n hx hb dX2_readClassAbove_58 rfl (lv_at hl 2 rfl) ?_
      refine g_getk (C := RX2) (T := TX2) (N := 16) hx hb hts (mc_ inX2) hown hK g rfl 0 (by decide) rfl (hts _ (List.mem_cons_of_mem _ t_416)) (fun _ h9 => h9) 1 rfl dX2_readClassAbove_59 ?_
      refine lv_iconst (v := 2) hx hb dX2_readClassAbove_62 (by decide) ?_
      refine lv_iload_n hx hb dX2_readClassAbove_63 rfl (lv_at hl 1 rfl) ?_
      have kb_2 : bd 2 2 (2 : Int32) := ⟨by decide, by decide⟩
      refine g_callv (va_runV (As := [.int 2, .int r_5]) (rest := []) ⟨hx, hb, hml, hown, hts⟩ (r_X8_fail_3 l dC dI L kd tys fr_9 H.size g.2.2.2.1 q0_ mq0_ kq0_ 2 kb_2 r_5) (cwV 2 hts (gV_ t_1122 t_1107 t_1108 t_184 t_1109) rfl rfl rfl (by decide +kernel) ⟨(Nat.le_of_ble_eq_true rfl), (Nat.le_of_ble_eq_true rfl)⟩) (pre3V g hK mq0_ kq0_ (by decide) (q := (RX8, TX8, 10)) rfl) rfl rfl hl.1 rfl (lv_room (Nat.le_of_ble_eq_true rfl)) dX2_readClassAbove_64 ⟨(Nat.le_of_ble_eq_true rfl), (Nat.le_of_ble_eq_true rfl)⟩) g hK (by decide) (by decide) (fx' := [(2, 0, a0_, .ref q0_), (2, 3, a0_, .ref q1_), (2, 4, a0_, .ref q2_)]) rfl (fun fr_22 H locs hp hMr_22 g => ?_)
      obtain ⟨x_23, h_24, hF_25⟩ := hp
      have g := g.more hF_25
      refine lv_goto (tgt := 87) hx hb dX2_readClassAbove_67 (by decide) ?_
      refine lv_aload_n hx hb dX2_readClassAbove_87 rfl (lv_at hl 2 rfl) ?_
      refine g_getk (C := RX2) (T := TX2) (N := 16) hx hb hts (mc_ inX2) hown hK g rfl 0 (by decide) rfl (hts _ (List.mem_cons_of_mem _ t_416)) (fun _ h9 => h9) 2 rfl dX2_readClassAbove_88 ?_
      have kb_1201 : bd 1201 1201 (1201 : Int32) := ⟨by decide, by decide⟩
      refine g_callv (va_runV (As := []) (rest := []) ⟨hx, hb, hml, hown, hts⟩ (r_X8_next_2 l dC dI L kd tys fr_22 H.size g.2.2.2.1 q0_ mq0_ kq0_ 1201 kb_1201 (g.fcts [0] rfl)) (cwV 0 hts (gV_ t_1131 t_1103 t_1104 t_184 t_1105) rfl rfl rfl (by decide +kernel) ⟨(Nat.le_of_ble_eq_true rfl), (Nat.le_of_ble_eq_true rfl)⟩) (pre3V g hK mq0_ kq0_ (by decide) (q := (RX8, TX8, 10)) rfl) rfl rfl hl.1 rfl (lv_room (Nat.le_of_ble_eq_true rfl)) dX2_readClassAbove_91 ⟨(Nat.le_of_ble_eq_true rfl), (Nat.le_of_ble_eq_true rfl)⟩) g hK (by decide) (by decide) (fx' := [(8, 6, q0_, .int 1201), (8, 8, q0_, .int x_23), (2, 0, a0_, .ref q0_), (2, 3, a0_, .ref q1_), (2, 4, a0_, .ref q2_)]) rfl (fun fr_26 H locs hp hMr_26 g => ?_)
      subst hQ
      exact W.vret hx hb hr (fun t ht hW => ⟨⟨_, rfl, Or.inl ⟨x_23, h_24, (g.fcts [0, 1] rfl)⟩, q3_of g hK ht hW⟩, g.2.2.1.F ht⟩) g.2.2.1.2.2 dX2_readClassAbove_94
  · have fc_10 := neq_f c_10
    refine lv_aload_n hx hb dX2_readClassAbove_41 rfl (lv_at hl 2 rfl) ?_
    refine g_getk (C := RX2) (T := TX2) (N := 16) hx hb hts (mc_ inX2) hown hK g rfl 0 (by decide) rfl (hts _ (List.mem_cons_of_mem _ t_416)) (fun _ h9 => h9) 1 rfl dX2_readClassAbove_42 ?_
    refine lv_iconst (v := 1) hx hb dX2_readClassAbove_45 (by decide) ?_
    refine lv_iload_n hx hb dX2_readClassAbove_46 rfl (lv_at hl 1 rfl) ?_
    have kb_1 : bd 1 1 (1 : Int32) := ⟨by decide, by decide⟩
    refine g_callv (va_runV (As := [.int 1, .int r_5]) (rest := []) ⟨hx, hb, hml, hown, hts⟩ (r_X8_fail_7 l dC dI L kd tys fr_9 H.size g.2.2.2.1 q0_ mq0_ kq0_ 1 kb_1 r_5) (cwV 2 hts (gV_ t_1122 t_1107 t_1108 t_184 t_1109) rfl rfl rfl (by decide +kernel) ⟨(Nat.le_of_ble_eq_true rfl), (Nat.le_of_ble_eq_true rfl)⟩) (pre3V g hK mq0_ kq0_ (by decide) (q := (RX8, TX8, 10)) rfl) rfl rfl hl.1 rfl (lv_room (Nat.le_of_ble_eq_true rfl)) dX2_readClassAbove_47 ⟨(Nat.le_of_ble_eq_true rfl), (Nat.le_of_ble_eq_true rfl)⟩) g hK (by decide) (by decide) (fx' := [(2, 0, a0_, .ref q0_), (2, 3, a0_, .ref q1_), (2, 4, a0_, .ref q2_)]) rfl (fun fr_27 H locs hp hMr_27 g => ?_)
    obtain ⟨x_28, h_29, hF_30⟩ := hp
    have g := g.more hF_30
    refine lv_goto (tgt := 87) hx hb dX2_readClassAbove_50 (by decide) ?_
    refine lv_aload_n hx hb dX2_readClassAbove_87 rfl (lv_at hl 2 rfl) ?_
    refine g_getk (C := RX2) (T := TX2) (N := 16) hx hb hts (mc_ inX2) hown hK g rfl 0 (by decide) rfl (hts _ (List.mem_cons_of_mem _ t_416)) (fun _ h9 => h9) 2 rfl dX2_readClassAbove_88 ?_
    have kb_1201 : bd 1201 1201 (1201 : Int32) := ⟨by decide, by decide⟩
    refine g_callv (va_runV (As := []) (rest := []) ⟨hx, hb, hml, hown, hts⟩ (r_X8_next_2 l dC dI L kd tys fr_27 H.size g.2.2.2.1 q0_ mq0_ kq0_ 1201 kb_1201 (g.fcts [0] rfl)) (cwV 0 hts (gV_ t_1131 t_1103 t_1104 t_184 t_1105) rfl rfl rfl (by decide +kernel) ⟨(Nat.le_of_ble_eq_true rfl), (Nat.le_of_ble_eq_true rfl)⟩) (pre3V g hK mq0_ kq0_ (by decide) (q := (RX8, TX8, 10)) rfl) rfl rfl hl.1 rfl (lv_room (Nat.le_of_ble_eq_true rfl)) dX2_readClassAbove_91 ⟨(Nat.le_of_ble_eq_true rfl), (Nat.le_of_ble_eq_true rfl)⟩) g hK (by decide) (by decide) (fx' := [(8, 6, q0_, .int 1201), (8, 8, q0_, .int x_28), (2, 0, a0_, .ref q0_), (2, 3, a0_, .ref q1_), (2, 4, a0_, .ref q2_)]) rfl (fun fr_31 H locs hp hMr_31 g => ?_)
    subst hQ
    exact W.vret hx hb hr (fun t ht hW => ⟨⟨_, rfl, Or.inl ⟨x_28, h_29, (g.fcts [0, 1] rfl)⟩, q3_of g hK ht hW⟩, g.2.2.1.F ht⟩) g.2.2.1.2.2 dX2_readClassAbove_94
