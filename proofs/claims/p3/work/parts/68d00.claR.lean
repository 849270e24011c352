set_option maxHeartbeats 4000000 in
set_option maxRecDepth 100000 in
theorem r_X14_classOf_2 (l : Launch) (dC : Nat → ClassId) (dI : Nat → Nat → Nat) (L : List Nat) (kd : Nat → Nat) (tys : List (ClassId × FieldType)) (f0 : Nat → va_E) (sz : Nat) (hWT : WT L kd tys f0) (a0_ : Nat) (ma0_ : a0_ ∈ L) (ka0_ : kd a0_ = 14) (x1_ : Int64) (x2_ : Int64) (q0_ : Nat) (mq0_ : q0_ ∈ L) (kq0_ : kd q0_ = 12) (V_ : PV) (hGVq0_ : isV f0 q0_ V_) (hfx : Fs L kd f0 [(14, 2, a0_, .ref q0_)]) : Met l yX14_classOf (.code yX14_classOf cX14_classOf 6 (some .int) :: lw_g) ({ frames := 0, cells := 0, slots := 0, locals := 0 }) (va_Pc [.ref a0_, .long x1_, .long x2_] (P3 (dC, dI) L tys f0 sz)) (va_Qi (fun (r : Int32) (f : Nat → va_E) => (r = (-1) ∧ True) ∨ ((r.toInt < (V_.n 0).toInt) ∧ bd 0 7 r ∧ ∃ z0_ : Int32, bd 1 8 z0_ ∧ Fs L kd f [(12, 0, q0_, .int z0_)])) (Q3 (dC, dI) L kd tys [] [] f0 sz) (pA L sz)) 0 0 (pA L sz) := by
  refine Met.ofW (cc := cX14_classOf) (maxL := 6) (ret := (some .int)) (by decide) rfl ?_
  intro p e s m args below meth c s₁ B hml hv
  obtain ⟨rfl, hsz, hP, hK, hD0⟩ := hv
  have hx := B.exec
  have hb := B.bytes
  have hr := B.returns
  have hts := atoms_spec (ws := (.code yX14_classOf cX14_classOf 6 (some .int) :: lw_g)) B.pre
  have hown : s.vm.findClass RX14 = some m.cls := findClass_of_methodNamed B.named
  have hlocks := B.notSynchronized
  subst hsz
  have g : G3 (dC, dI) L kd tys s f0 [] [] f0 s.heap [] [(14, 2, a0_, .ref q0_)] := G3.start hP hD0 hWT hfx
  have hl := lv_entry ([.ref a0_, .long x1_, .long x2_]) (n := 6) (Nat.le_of_ble_eq_true rfl)
  rw [lg_entry_eq]
  generalize (lg_sl ([.ref a0_, .long x1_, .long x2_]) ++ List.replicate (6 - (lg_sl ([.ref a0_, .long x1_, .long x2_])).length) Slot.unset).toArray = ls at hl ⊢
  have hl : lv_has ls 6 [(0, .ref a0_), (1, .long x1_), (3, .long x2_)] := hl
  refine W_q (fun Q hQ => ?_)
  refine lv_iconst (v := 0) hx hb dX14_classOf_0 (by decide) ?_
  refine lv_istore (lv' := [(5, .int 0), (0, .ref a0_), (1, .long x1_), (3, .long x2_)]) hx hb dX14_classOf_1 hl (by decide) rfl (fun ls hl => ?_)
  have loop_1 : ∀ (n : Nat) (v3_5 : Int32), bd 0 8 v3_5 → (8 - v3_5.toInt < (n : Int)) → ∀ (f : Nat → va_E) (H : Heap) (locs : List Loc) (ls : Array Slot), G3 (dC, dI) L kd tys s f0 [] [] f H locs [(14, 2, a0_, .ref q0_)] → isV f q0_ V_ → lv_has ls 6 [(5, .int v3_5), (0, .ref a0_), (1, .long x1_), (3, .long x2_)] → W p l e ({ frames := 0, cells := 0, slots := 0, locals := 0 } : Room) s m [.ref a0_, .long x1_, .long x2_].toArray below meth c H locs 0 0 Q (F0 m 3 ls []) := by
    intro n3
    induction n3 with
    | zero =>
      intro v3_5 bv3_5 hm3 f H locs ls g hG3_V_q0_ hl
      exact absurd hm3 (by have h9_v3_5 := bv3_5; unfold bd at h9_v3_5; omega)
    | succ n3 ih3 =>
      intro v3_5 bv3_5 hm3 f H locs ls g hG3_V_q0_ hl
      refine lv_iload hx hb dX14_classOf_3 (lv_at hl 0 rfl) ?_
      refine lv_aload_n hx hb dX14_classOf_5 rfl (lv_at hl 1 rfl) ?_
      refine g_getk (C := RX14) (T := TX14) (N := 67) hx hb hts (mc_ inX14) hown hK g rfl 2 (by decide) rfl (hts _ (List.mem_cons_of_mem _ t_2148)) (fun _ h9 => h9) 0 rfl dX14_classOf_6 ?_
      refine g_geti (C := RX12) (T := TX12) (N := 60) hx hb hts (mc_ inX12) hown hK g mq0_ kq0_ (by decide) rfl 0 (by decide) rfl (hts _ (List.mem_cons_of_mem _ t_1906)) (fun _ h9 => h9) rfl dX14_classOf_9 (fun x_2 bx_2 g => ?_)
      have hn_3 := hG3_V_q0_.nn g 0 rfl rfl
      refine lv_icmp_ge (tgt := 54) hx hb dX14_classOf_12 (by decide) (fun c_4 => ?_) (fun c_4 => ?_)
      · have fc_4 := le_f c_4
        refine lv_iconst (v := (-1)) hx hb dX14_classOf_54 (by decide) ?_
        subst hQ
        exact W.iret (v := (-1)) hx hb hr (fun t ht hW => ⟨⟨_, _, rfl, Or.inl ⟨rfl, trivial⟩, q3_of g hK ht hW⟩, g.2.2.1.F ht⟩) g.2.2.1.2.2 dX14_classOf_55
      · have fc_4 := nle_f c_4
        have b_5 : bd 0 7 v3_5 := ltL fc_4 bv3_5 bx_2 (by decide)
        have b_6 : bd 1 8 x_2 := ltR fc_4 bv3_5 bx_2 (by decide)
        refine lv_aload_n hx hb dX14_classOf_15 rfl (lv_at hl 1 rfl) ?_
        refine g_getk (C := RX14) (T := TX14) (N := 67) hx hb hts (mc_ inX14) hown hK g rfl 2 (by decide) rfl (hts _ (List.mem_cons_of_mem _ t_2148)) (fun _ h9 => h9) 1 rfl dX14_classOf_16 ?_
        refine g_getr (K := 157) (C := RX12) (T := TX12) (N := 60) hx hb hts (mc_ inX12) hown hK g mq0_ kq0_ (by decide) rfl 1 (by decide) rfl (hts _ (List.mem_cons_of_mem _ t_1908)) (fun _ h9 => h9) rfl dX14_classOf_19 (fun a_7 ma_7 ka_7 g => ?_)
        refine lv_iload hx hb dX14_classOf_22 (lv_at hl 0 rfl) ?_
        refine g_laldX hx hb hK g ma_7 ka_7 (by decide) rfl (in_bd b_5 (by decide)) dX14_classOf_24 (fun x_8 cx_8 => ?_)
        have vx_8 : x_8 = V_.l 1 v3_5.toNatClampNeg := hG3_V_q0_.atL g 0 rfl rfl cx_8
        refine lv_lload_n hx hb dX14_classOf_25 rfl (lv_at hl 2 rfl) ?_
        refine W.lcmp hx hb dX14_classOf_26 ?_
        refine lv_if_ne (tgt := 48) hx hb dX14_classOf_27 (by decide) (fun c_9 => ?_) (fun c_9 => ?_)
        · have kb_1 : bd 1 1 (1 : Int32) := ⟨by decide, by decide⟩
          obtain ⟨y_10, ey_10⟩ : ∃ z : Int32, z = v3_5 + 1 := ⟨_, rfl⟩
          refine lv_iinc (v := y_10) (lv' := [(5, .int y_10), (0, .ref a0_), (1, .long x1_), (3, .long x2_)]) hx hb dX14_classOf_48 hl (k := 0) rfl (by rw [ey_10]; rfl) (by decide) rfl (fun ls hl => ?_)
          have ty_10 := add_bd ey_10 b_5 kb_1 (by decide)
          have b_11 : bd 1 8 y_10 := add_rg ty_10 b_5 kb_1 (by decide)
          refine lv_goto (tgt := 3) hx hb dX14_classOf_51 (by decide) ?_
          have hl9 := lv_sub hl [0, 1, 2, 3] (by rfl : lv_pick [(5, .int y_10), (0, .ref a0_), (1, .long x1_), (3, .long x2_)] [0, 1, 2, 3] = [(5, .int y_10), (0, .ref a0_), (1, .long x1_), (3, .long x2_)])
          have g9 := g.sub (fx' := [(14, 2, a0_, .ref q0_)]) [2] rfl
          exact ih3  y_10 (bd_sub b_11 (by decide)) (by have h9_0 := b_11; unfold bd at h9_0; have h9_1 := bv3_5; unfold bd at h9_1; have h9_2 := kb_1; unfold bd at h9_2; omega) _ _ _ _ g9 hG3_V_q0_ hl9
        · refine lv_aload_n hx hb dX14_classOf_30 rfl (lv_at hl 1 rfl) ?_
          refine g_getk (C := RX14) (T := TX14) (N := 67) hx hb hts (mc_ inX14) hown hK g rfl 2 (by decide) rfl (hts _ (List.mem_cons_of_mem _ t_2148)) (fun _ h9 => h9) 2 rfl dX14_classOf_31 ?_
          refine g_getr (K := 158) (C := RX12) (T := TX12) (N := 60) hx hb hts (mc_ inX12) hown hK g mq0_ kq0_ (by decide) rfl 2 (by decide) rfl (hts _ (List.mem_cons_of_mem _ t_1910)) (fun _ h9 => h9) rfl dX14_classOf_34 (fun a_12 ma_12 ka_12 g => ?_)
          refine lv_iload hx hb dX14_classOf_37 (lv_at hl 0 rfl) ?_
          refine g_laldX hx hb hK g ma_12 ka_12 (by decide) rfl (in_bd b_5 (by decide)) dX14_classOf_39 (fun x_13 cx_13 => ?_)
          have vx_13 : x_13 = V_.l 2 v3_5.toNatClampNeg := hG3_V_q0_.atL g 0 rfl rfl cx_13
          refine lv_lload_n hx hb dX14_classOf_40 rfl (lv_at hl 3 rfl) ?_
          refine W.lcmp hx hb dX14_classOf_41 ?_
          refine lv_if_ne (tgt := 48) hx hb dX14_classOf_42 (by decide) (fun c_14 => ?_) (fun c_14 => ?_)
          · have kb_1 : bd 1 1 (1 : Int32) := ⟨by decide, by decide⟩
            obtain ⟨y_15, ey_15⟩ : ∃ z : Int32, z = v3_5 + 1 := ⟨_, rfl⟩
            refine lv_iinc (v := y_15) (lv' := [(5, .int y_15), (0, .ref a0_), (1, .long x1_), (3, .long x2_)]) hx hb dX14_classOf_48 hl (k := 0) rfl (by rw [ey_15]; rfl) (by decide) rfl (fun ls hl => ?_)
            have ty_15 := add_bd ey_15 b_5 kb_1 (by decide)
            have b_16 : bd 1 8 y_15 := add_rg ty_15 b_5 kb_1 (by decide)
            refine lv_goto (tgt := 3) hx hb dX14_classOf_51 (by decide) ?_
            have hl9 := lv_sub hl [0, 1, 2, 3] (by rfl : lv_pick [(5, .int y_15), (0, .ref a0_), (1, .long x1_), (3, .long x2_)] [0, 1, 2, 3] = [(5, .int y_15), (0, .ref a0_), (1, .long x1_), (3, .long x2_)])
            have g9 := g.sub (fx' := [(14, 2, a0_, .ref q0_)]) [3] rfl
            exact ih3  y_15 (bd_sub b_16 (by decide)) (by have h9_0 := b_16; unfold bd at h9_0; have h9_1 := bv3_5; unfold bd at h9_1; have h9_2 := kb_1; unfold bd at h9_2; omega) _ _ _ _ g9 hG3_V_q0_ hl9
          · refine lv_iload hx hb dX14_classOf_45 (lv_at hl 0 rfl) ?_
            subst hQ
            exact W.iret (v := v3_5) hx hb hr (fun t ht hW => ⟨⟨_, _, rfl, Or.inr (⟨(by rw [← hn_3]; have h9_0 := b_5; unfold bd at h9_0; have h9_1 := b_6; unfold bd at h9_1; omega), b_5, x_2, b_6, (g.fcts [2] rfl)⟩), q3_of g hK ht hW⟩, g.2.2.1.F ht⟩) g.2.2.1.2.2 dX14_classOf_47
  have kb_0 : bd 0 0 (0 : Int32) := ⟨by decide, by decide⟩
  have hl9 := lv_sub hl [0, 1, 2, 3] (by rfl : lv_pick [(5, .int 0), (0, .ref a0_), (1, .long x1_), (3, .long x2_)] [0, 1, 2, 3] = [(5, .int 0), (0, .ref a0_), (1, .long x1_), (3, .long x2_)])
  have g9 := g.sub (fx' := [(14, 2, a0_, .ref q0_)]) [0] rfl
  exact loop_1 (19) 0 (bd_sub kb_0 (by decide)) (by have h9_0 := kb_0; unfold bd at h9_0; omega) _ _ _ _ g9 hGVq0_ hl9
set_option maxHeartbeats 4000000 in
set_option maxRecDepth 100000 in
theorem r_X14_inherit (l : Launch) (dC : Nat → ClassId) (dI : Nat → Nat → Nat) (L : List Nat) (kd : Nat → Nat) (tys : List (ClassId × FieldType)) (f0 : Nat → va_E) (sz : Nat) (hWT : WT L kd tys f0) (a0_ : Nat) (ma0_ : a0_ ∈ L) (ka0_ : kd a0_ = 14) (x1_ : Int32) (bx1_ : bd 0 7 x1_) (q0_ : Nat) (mq0_ : q0_ ∈ L) (kq0_ : kd q0_ = 12) (o_ : Int32) (bo_ : bd 0 7 o_) (V_ : PV) (hGVq0_ : isV f0 q0_ V_) (hlt : x1_.toNatClampNeg < o_.toNatClampNeg) (hfx : Fs L kd f0 [(14, 2, a0_, .ref q0_), (14, 16, a0_, .int o_)]) : Met l yX14_inherit (.code yX14_inherit cX14_inherit 3 none :: lw_g) ({ frames := 0, cells := 0, slots := 0, locals := 0 }) (va_Pc [.ref a0_, .int x1_] (P3 (dC, dI) L tys f0 sz)) (va_Qv (fun (f : Nat → va_E) => ((∃ V1 : PV, isV f q0_ V1 ∧ inh V_ V1 o_.toNatClampNeg x1_.toNatClampNeg x1_ (V_.i 4 x1_.toNatClampNeg).toNatClampNeg (V_.i 4 x1_.toNatClampNeg).toNatClampNeg (V_.i 15 x1_.toNatClampNeg).toNatClampNeg) ∧ (FR L kd f0 f q0_) ∧ True)) (Q3 (dC, dI) L kd tys [] [159, 160, 161, 162, 163, 164, 165, 166, 170, 171] f0 sz) (pA L sz)) 0 0 (pA L sz) := by
  refine Met.ofW (cc := cX14_inherit) (maxL := 3) (ret := none) (by decide) rfl ?_
  intro p e s m args below meth c s₁ B hml hv
  obtain ⟨rfl, hsz, hP, hK, hD0⟩ := hv
  have hx := B.exec
  have hb := B.bytes
  have hr := B.returns
  have hts := atoms_spec (ws := (.code yX14_inherit cX14_inherit 3 none :: lw_g)) B.pre
  have hown : s.vm.findClass RX14 = some m.cls := findClass_of_methodNamed B.named
  have hlocks := B.notSynchronized
  subst hsz
  have g : G3 (dC, dI) L kd tys s f0 [] [159, 160, 161, 162, 163, 164, 165, 166, 170, 171] f0 s.heap [] [(14, 2, a0_, .ref q0_), (14, 16, a0_, .int o_)] := G3.start hP hD0 hWT hfx
  have hl := lv_entry ([.ref a0_, .int x1_]) (n := 3) (Nat.le_of_ble_eq_true rfl)
  rw [lg_entry_eq]
  generalize (lg_sl ([.ref a0_, .int x1_]) ++ List.replicate (3 - (lg_sl ([.ref a0_, .int x1_])).length) Slot.unset).toArray = ls at hl ⊢
  have hl : lv_has ls 3 [(0, .ref a0_), (1, .int x1_)] := hl
  refine W_q (fun Q hQ => ?_)
  refine lv_aload_n hx hb dX14_inherit_0 rfl (lv_at hl 0 rfl) ?_
  refine g_getk (C := RX14) (T := TX14) (N := 67) hx hb hts (mc_ inX14) hown hK g rfl 2 (by decide) rfl (hts _ (List.mem_cons_of_mem _ t_2148)) (fun _ h9 => h9) 0 rfl dX14_inherit_1 ?_
  refine g_getr (K := 159) (C := RX12) (T := TX12) (N := 60) hx hb hts (mc_ inX12) hown hK g mq0_ kq0_ (by decide) rfl 3 (by decide) rfl (hts _ (List.mem_cons_of_mem _ t_1912)) (fun _ h9 => h9) rfl dX14_inherit_4 (fun a_1 ma_1 ka_1 g => ?_)
  refine lv_aload_n hx hb dX14_inherit_7 rfl (lv_at hl 0 rfl) ?_
  refine g_getk (C := RX14) (T := TX14) (N := 67) hx hb hts (mc_ inX14) hown hK g rfl 16 (by decide) rfl (hts _ (List.mem_cons_of_mem _ t_2162)) (fun _ h9 => h9) 2 rfl dX14_inherit_8 ?_
  refine lv_iload_n hx hb dX14_inherit_11 rfl (lv_at hl 1 rfl) ?_
  have gp_2 := g
  have go_ := g
  refine g_iastX hx hb hK g ma_1 ka_1 (by decide) rfl (in_bd bo_ (by decide)) (bd_sub bx1_ (by decide)) (by decide) dX14_inherit_12 (fun f H locs hM_3 u_4 g => ?_)
  have hV_5 := isV.ui hGVq0_ gp_2 0 rfl mq0_ kq0_ rfl u_4
  have hF_6 := FR.arr FR.refl gp_2 0 rfl mq0_ kq0_ rfl rfl u_4.1
  refine lv_aload_n hx hb dX14_inherit_13 rfl (lv_at hl 0 rfl) ?_
  refine g_getk (C := RX14) (T := TX14) (N := 67) hx hb hts (mc_ inX14) hown hK g rfl 2 (by decide) rfl (hts _ (List.mem_cons_of_mem _ t_2148)) (fun _ h9 => h9) 1 rfl dX14_inherit_14 ?_
  refine g_getr (K := 160) (C := RX12) (T := TX12) (N := 60) hx hb hts (mc_ inX12) hown hK g mq0_ kq0_ (by decide) rfl 4 (by decide) rfl (hts _ (List.mem_cons_of_mem _ t_1914)) (fun _ h9 => h9) rfl dX14_inherit_17 (fun a_8 ma_8 ka_8 g => ?_)
  refine lv_aload_n hx hb dX14_inherit_20 rfl (lv_at hl 0 rfl) ?_
  refine g_getk (C := RX14) (T := TX14) (N := 67) hx hb hts (mc_ inX14) hown hK g rfl 16 (by decide) rfl (hts _ (List.mem_cons_of_mem _ t_2162)) (fun _ h9 => h9) 3 rfl dX14_inherit_21 ?_
  refine lv_aload_n hx hb dX14_inherit_24 rfl (lv_at hl 0 rfl) ?_
  refine g_getk (C := RX14) (T := TX14) (N := 67) hx hb hts (mc_ inX14) hown hK g rfl 2 (by decide) rfl (hts _ (List.mem_cons_of_mem _ t_2148)) (fun _ h9 => h9) 2 rfl dX14_inherit_25 ?_
  refine g_getk (C := RX12) (T := TX12) (N := 60) hx hb hts (mc_ inX12) hown hK g rfl 4 (by decide) rfl (hts _ (List.mem_cons_of_mem _ t_1914)) (fun _ h9 => h9) 0 rfl dX14_inherit_28 ?_
  refine lv_iload_n hx hb dX14_inherit_31 rfl (lv_at hl 1 rfl) ?_
  refine g_iald hx hb hK g ma_8 ka_8 (by decide) rfl (in_bd bx1_ (by decide)) dX14_inherit_32 (fun x_9 bx_9 cx_9 => ?_)
  have vx_9 : x_9 = (V_.ui 3 o_.toNatClampNeg x1_).i 4 x1_.toNatClampNeg := hV_5.at g 0 rfl rfl cx_9
  have gp_10 := g
  have go_ := g
  refine g_iastX hx hb hK g ma_8 ka_8 (by decide) rfl (in_bd bo_ (by decide)) bx_9 (by decide) dX14_inherit_33 (fun f H locs hM_11 u_12 g => ?_)
  have hV_13 := isV.ui hV_5 gp_10 0 rfl mq0_ kq0_ rfl u_12
  have hF_14 := FR.arr hF_6 gp_10 0 rfl mq0_ kq0_ rfl rfl u_12.1
  refine lv_aload_n hx hb dX14_inherit_34 rfl (lv_at hl 0 rfl) ?_
  refine g_getk (C := RX14) (T := TX14) (N := 67) hx hb hts (mc_ inX14) hown hK g rfl 2 (by decide) rfl (hts _ (List.mem_cons_of_mem _ t_2148)) (fun _ h9 => h9) 2 rfl dX14_inherit_35 ?_
  refine g_getr (K := 161) (C := RX12) (T := TX12) (N := 60) hx hb hts (mc_ inX12) hown hK g mq0_ kq0_ (by decide) rfl 5 (by decide) rfl (hts _ (List.mem_cons_of_mem _ t_1916)) (fun _ h9 => h9) rfl dX14_inherit_38 (fun a_16 ma_16 ka_16 g => ?_)
  refine lv_aload_n hx hb dX14_inherit_41 rfl (lv_at hl 0 rfl) ?_
  refine g_getk (C := RX14) (T := TX14) (N := 67) hx hb hts (mc_ inX14) hown hK g rfl 16 (by decide) rfl (hts _ (List.mem_cons_of_mem _ t_2162)) (fun _ h9 => h9) 4 rfl dX14_inherit_42 ?_
  refine lv_aload_n hx hb dX14_inherit_45 rfl (lv_at hl 0 rfl) ?_
  refine g_getk (C := RX14) (T := TX14) (N := 67) hx hb hts (mc_ inX14) hown hK g rfl 2 (by decide) rfl (hts _ (List.mem_cons_of_mem _ t_2148)) (fun _ h9 => h9) 3 rfl dX14_inherit_46 ?_
  refine g_getk (C := RX12) (T := TX12) (N := 60) hx hb hts (mc_ inX12) hown hK g rfl 5 (by decide) rfl (hts _ (List.mem_cons_of_mem _ t_1916)) (fun _ h9 => h9) 0 rfl dX14_inherit_49 ?_
  refine lv_iload_n hx hb dX14_inherit_52 rfl (lv_at hl 1 rfl) ?_
  refine g_iald hx hb hK g ma_16 ka_16 (by decide) rfl (in_bd bx1_ (by decide)) dX14_inherit_53 (fun x_17 bx_17 cx_17 => ?_)
  have vx_17 : x_17 = ((V_.ui 3 o_.toNatClampNeg x1_).ui 4 o_.toNatClampNeg x_9).i 5 x1_.toNatClampNeg := hV_13.at g 0 rfl rfl cx_17
  have gp_18 := g
  have go_ := g
  refine g_iastX hx hb hK g ma_16 ka_16 (by decide) rfl (in_bd bo_ (by decide)) bx_17 (by decide) dX14_inherit_54 (fun f H locs hM_19 u_20 g => ?_)
  have hV_21 := isV.ui hV_13 gp_18 0 rfl mq0_ kq0_ rfl u_20
  have hF_22 := FR.arr hF_14 gp_18 0 rfl mq0_ kq0_ rfl rfl u_20.1
  refine lv_aload_n hx hb dX14_inherit_55 rfl (lv_at hl 0 rfl) ?_
  refine g_getk (C := RX14) (T := TX14) (N := 67) hx hb hts (mc_ inX14) hown hK g rfl 2 (by decide) rfl (hts _ (List.mem_cons_of_mem _ t_2148)) (fun _ h9 => h9) 3 rfl dX14_inherit_56 ?_
  refine g_getr (K := 171) (C := RX12) (T := TX12) (N := 60) hx hb hts (mc_ inX12) hown hK g mq0_ kq0_ (by decide) rfl 15 (by decide) rfl (hts _ (List.mem_cons_of_mem _ t_1936)) (fun _ h9 => h9) rfl dX14_inherit_59 (fun a_24 ma_24 ka_24 g => ?_)
  refine lv_aload_n hx hb dX14_inherit_62 rfl (lv_at hl 0 rfl) ?_
  refine g_getk (C := RX14) (T := TX14) (N := 67) hx hb hts (mc_ inX14) hown hK g rfl 16 (by decide) rfl (hts _ (List.mem_cons_of_mem _ t_2162)) (fun _ h9 => h9) 5 rfl dX14_inherit_63 ?_
  refine lv_aload_n hx hb dX14_inherit_66 rfl (lv_at hl 0 rfl) ?_
  refine g_getk (C := RX14) (T := TX14) (N := 67) hx hb hts (mc_ inX14) hown hK g rfl 2 (by decide) rfl (hts _ (List.mem_cons_of_mem _ t_2148)) (fun _ h9 => h9) 4 rfl dX14_inherit_67 ?_
  refine g_getk (C := RX12) (T := TX12) (N := 60) hx hb hts (mc_ inX12) hown hK g rfl 15 (by decide) rfl (hts _ (List.mem_cons_of_mem _ t_1936)) (fun _ h9 => h9) 0 rfl dX14_inherit_70 ?_
  refine lv_iload_n hx hb dX14_inherit_73 rfl (lv_at hl 1 rfl) ?_
  refine g_iald hx hb hK g ma_24 ka_24 (by decide) rfl (in_bd bx1_ (by decide)) dX14_inherit_74 (fun x_25 bx_25 cx_25 => ?_)
  have vx_25 : x_25 = (((V_.ui 3 o_.toNatClampNeg x1_).ui 4 o_.toNatClampNeg x_9).ui 5 o_.toNatClampNeg x_17).i 15 x1_.toNatClampNeg := hV_21.at g 0 rfl rfl cx_25
  have gp_26 := g
  have go_ := g
  refine g_iastX hx hb hK g ma_24 ka_24 (by decide) rfl (in_bd bo_ (by decide)) bx_25 (by decide) dX14_inherit_75 (fun f H locs hM_27 u_28 g => ?_)
  have hV_29 := isV.ui hV_21 gp_26 0 rfl mq0_ kq0_ rfl u_28
  have hF_30 := FR.arr hF_22 gp_26 0 rfl mq0_ kq0_ rfl rfl u_28.1
  have hi_31 : inh V_ ((((V_.ui 3 o_.toNatClampNeg x1_).ui 4 o_.toNatClampNeg x_9).ui 5 o_.toNatClampNeg x_17).ui 15 o_.toNatClampNeg x_25) o_.toNatClampNeg x1_.toNatClampNeg x1_ 0 0 0 := inh.zero (by omega) vx_9 vx_25
  refine lv_iconst (v := 0) hx hb dX14_inherit_76 (by decide) ?_
  refine lv_istore_n (lv' := [(2, .int 0), (0, .ref a0_), (1, .int x1_)]) hx hb dX14_inherit_77 rfl hl (by decide) rfl (fun ls hl => ?_)
  have loop_32 : ∀ (n : Nat) (v78_2 : Int32), bd 0 10 v78_2 → (10 - v78_2.toInt < (n : Int)) → ∀ (f : Nat → va_E) (H : Heap) (locs : List Loc) (ls : Array Slot), G3 (dC, dI) L kd tys s f0 [] [159, 160, 161, 162, 163, 164, 165, 166, 170, 171] f H locs [(12, 15, q0_, .ref a_24), (12, 5, q0_, .ref a_16), (12, 4, q0_, .ref a_8), (12, 3, q0_, .ref a_1), (14, 2, a0_, .ref q0_), (14, 16, a0_, .int o_)] → (∃ V1 : PV, isV f q0_ V1 ∧ FR L kd f0 f q0_ ∧ inh V_ V1 o_.toNatClampNeg x1_.toNatClampNeg x1_ v78_2.toNatClampNeg v78_2.toNatClampNeg 0) → lv_has ls 3 [(2, .int v78_2), (0, .ref a0_), (1, .int x1_)] → W p l e ({ frames := 0, cells := 0, slots := 0, locals := 0 } : Room) s m [.ref a0_, .int x1_].toArray below meth c H locs 0 0 Q (F0 m 78 ls []) := by
    intro n78
    induction n78 with
    | zero =>
      intro v78_2 bv78_2 hm78 f H locs ls g  ⟨V78, hV78, hF78, hI78⟩ hl
      exact absurd hm78 (by have h9_v78_2 := bv78_2; unfold bd at h9_v78_2; omega)
    | succ n78 ih78 =>
      intro v78_2 bv78_2 hm78 f H locs ls g  ⟨V78, hV78, hF78, hI78⟩ hl
      refine lv_iload_n hx hb dX14_inherit_78 rfl (lv_at hl 0 rfl) ?_
      refine lv_aload_n hx hb dX14_inherit_79 rfl (lv_at hl 1 rfl) ?_
      refine g_getk (C := RX14) (T := TX14) (N := 67) hx hb hts (mc_ inX14) hown hK g rfl 2 (by decide) rfl (hts _ (List.mem_cons_of_mem _ t_2148)) (fun _ h9 => h9) 4 rfl dX14_inherit_80 ?_
      refine g_getk (C := RX12) (T := TX12) (N := 60) hx hb hts (mc_ inX12) hown hK g rfl 4 (by decide) rfl (hts _ (List.mem_cons_of_mem _ t_1914)) (fun _ h9 => h9) 2 rfl dX14_inherit_83 ?_
      refine lv_iload_n hx hb dX14_inherit_86 rfl (lv_at hl 2 rfl) ?_
      refine g_iald hx hb hK g ma_8 ka_8 (by decide) rfl (in_bd bx1_ (by decide)) dX14_inherit_87 (fun x_33 bx_33 cx_33 => ?_)
      have vx_33 : x_33 = V78.i 4 x1_.toNatClampNeg := hV78.at g 2 rfl rfl cx_33
      refine lv_icmp_ge (tgt := 252) hx hb dX14_inherit_88 (by decide) (fun c_34 => ?_) (fun c_34 => ?_)
      · have fc_34 := le_f c_34
        refine lv_iconst (v := 0) hx hb dX14_inherit_252 (by decide) ?_
        refine lv_istore_n (lv' := [(2, .int 0), (0, .ref a0_), (1, .int x1_)]) hx hb dX14_inherit_253 rfl hl (by decide) rfl (fun ls hl => ?_)
        have loop_35 : ∀ (n : Nat) (v254_2 : Int32), bd 0 12 v254_2 → (12 - v254_2.toInt < (n : Int)) → ∀ (f : Nat → va_E) (H : Heap) (locs : List Loc) (ls : Array Slot), G3 (dC, dI) L kd tys s f0 [] [159, 160, 161, 162, 163, 164, 165, 166, 170, 171] f H locs [(12, 15, q0_, .ref a_24), (12, 5, q0_, .ref a_16), (12, 4, q0_, .ref a_8), (12, 3, q0_, .ref a_1), (14, 2, a0_, .ref q0_), (14, 16, a0_, .int o_)] → (∃ V1 : PV, isV f q0_ V1 ∧ FR L kd f0 f q0_ ∧ inh V_ V1 o_.toNatClampNeg x1_.toNatClampNeg x1_ (V_.i 4 x1_.toNatClampNeg).toNatClampNeg (V_.i 4 x1_.toNatClampNeg).toNatClampNeg v254_2.toNatClampNeg) → lv_has ls 3 [(2, .int v254_2), (0, .ref a0_), (1, .int x1_)] → W p l e ({ frames := 0, cells := 0, slots := 0, locals := 0 } : Room) s m [.ref a0_, .int x1_].toArray below meth c H locs 0 0 Q (F0 m 254 ls []) := by
          intro n254
          induction n254 with
          | zero =>
            intro v254_2 bv254_2 hm254 f H locs ls g  ⟨V254, hV254, hF254, hI254⟩ hl
            exact absurd hm254 (by have h9_v254_2 := bv254_2; unfold bd at h9_v254_2; omega)
          | succ n254 ih254 =>
            intro v254_2 bv254_2 hm254 f H locs ls g  ⟨V254, hV254, hF254, hI254⟩ hl
            refine lv_iload_n hx hb dX14_inherit_254 rfl (lv_at hl 0 rfl) ?_
            refine lv_aload_n hx hb dX14_inherit_255 rfl (lv_at hl 1 rfl) ?_
            refine g_getk (C := RX14) (T := TX14) (N := 67) hx hb hts (mc_ inX14) hown hK g rfl 2 (by decide) rfl (hts _ (List.mem_cons_of_mem _ t_2148)) (fun _ h9 => h9) 4 rfl dX14_inherit_256 ?_
            refine g_getk (C := RX12) (T := TX12) (N := 60) hx hb hts (mc_ inX12) hown hK g rfl 15 (by decide) rfl (hts _ (List.mem_cons_of_mem _ t_1936)) (fun _ h9 => h9) 0 rfl dX14_inherit_259 ?_
            refine lv_iload_n hx hb dX14_inherit_262 rfl (lv_at hl 2 rfl) ?_
            refine g_iald hx hb hK g ma_24 ka_24 (by decide) rfl (in_bd bx1_ (by decide)) dX14_inherit_263 (fun x_36 bx_36 cx_36 => ?_)
            have vx_36 : x_36 = V254.i 15 x1_.toNatClampNeg := hV254.at g 0 rfl rfl cx_36
            refine lv_icmp_ge (tgt := 304) hx hb dX14_inherit_264 (by decide) (fun c_37 => ?_) (fun c_37 => ?_)
            · have fc_37 := le_f c_37
              have hle_38 : (V_.i 15 x1_.toNatClampNeg).toNatClampNeg ≤ v254_2.toNatClampNeg := by rw [← inh.q15 hI254 hlt, ← (show x_36 = _ from vx_36)]; have h9 : x_36.toNatClampNeg = x_36.toInt.toNat := rfl; have h8 : v254_2.toNatClampNeg = v254_2.toInt.toNat := rfl; have h9_0 := bo_; unfold bd at h9_0; have h9_1 := bv254_2; unfold bd at h9_1; have h9_2 := bv78_2; unfold bd at h9_2; have h9_3 := bx1_; unfold bd at h9_3; have h9_4 := bx_17; unfold bd at h9_4; have h9_5 := bx_25; unfold bd at h9_5; have h9_6 := bx_33; unfold bd at h9_6; have h9_7 := bx_36; unfold bd at h9_7; have h9_8 := bx_9; unfold bd at h9_8; omega
              subst hQ
              exact W.vret hx hb hr (fun t ht hW => ⟨⟨_, rfl, ⟨⟨_, hV254, (hI254.le (Nat.le_refl _) (Nat.le_refl _) hle_38)⟩, hF254, trivial⟩, q3_of g hK ht hW⟩, g.2.2.1.F ht⟩) g.2.2.1.2.2 dX14_inherit_304
            · have fc_37 := nle_f c_37
              have b_39 : bd 0 11 v254_2 := ltL fc_37 bv254_2 bx_36 (by decide)
              have b_40 : bd 1 12 x_36 := ltR fc_37 bv254_2 bx_36 (by decide)
              refine lv_aload_n hx hb dX14_inherit_267 rfl (lv_at hl 1 rfl) ?_
              refine g_getk (C := RX14) (T := TX14) (N := 67) hx hb hts (mc_ inX14) hown hK g rfl 2 (by decide) rfl (hts _ (List.mem_cons_of_mem _ t_2148)) (fun _ h9 => h9) 4 rfl dX14_inherit_268 ?_
              refine g_getr (K := 170) (C := RX12) (T := TX12) (N := 60) hx hb hts (mc_ inX12) hown hK g mq0_ kq0_ (by decide) rfl 14 (by decide) rfl (hts _ (List.mem_cons_of_mem _ t_1934)) (fun _ h9 => h9) rfl dX14_inherit_271 (fun a_41 ma_41 ka_41 g => ?_)
              refine lv_bipush (v := 12) hx hb dX14_inherit_274 (by decide) ?_
              refine lv_aload_n hx hb dX14_inherit_276 rfl (lv_at hl 1 rfl) ?_
              refine g_getk (C := RX14) (T := TX14) (N := 67) hx hb hts (mc_ inX14) hown hK g rfl 16 (by decide) rfl (hts _ (List.mem_cons_of_mem _ t_2162)) (fun _ h9 => h9) 6 rfl dX14_inherit_277 ?_
              refine lv_imul hx hb dX14_inherit_280 ?_
              refine lv_topi (fun y_42 ey_42 => ?_)
              have ty_42 := cmul_bd ey_42 (c := 12) (by decide) bo_ (by decide)
              have b_43 : bd 0 84 y_42 := mulc_rg ty_42 bo_ (by decide)
              refine lv_iload_n hx hb dX14_inherit_281 rfl (lv_at hl 0 rfl) ?_
              refine lv_iadd hx hb dX14_inherit_282 ?_
              refine lv_topi (fun y_44 ey_44 => ?_)
              have ty_44 := add_bd ey_44 b_43 b_39 (by decide)
              have b_45 : bd 0 95 y_44 := add_rg ty_44 b_43 b_39 (by decide)
              refine lv_aload_n hx hb dX14_inherit_283 rfl (lv_at hl 1 rfl) ?_
              refine g_getk (C := RX14) (T := TX14) (N := 67) hx hb hts (mc_ inX14) hown hK g rfl 2 (by decide) rfl (hts _ (List.mem_cons_of_mem _ t_2148)) (fun _ h9 => h9) 5 rfl dX14_inherit_284 ?_
              refine g_getk (C := RX12) (T := TX12) (N := 60) hx hb hts (mc_ inX12) hown hK g rfl 14 (by decide) rfl (hts _ (List.mem_cons_of_mem _ t_1934)) (fun _ h9 => h9) 0 rfl dX14_inherit_287 ?_
              refine lv_bipush (v := 12) hx hb dX14_inherit_290 (by decide) ?_
              refine lv_iload_n hx hb dX14_inherit_292 rfl (lv_at hl 2 rfl) ?_
              refine lv_imul hx hb dX14_inherit_293 ?_
              refine lv_topi (fun y_46 ey_46 => ?_)
              have ty_46 := cmul_bd ey_46 (c := 12) (by decide) bx1_ (by decide)
              have b_47 : bd 0 84 y_46 := mulc_rg ty_46 bx1_ (by decide)
              refine lv_iload_n hx hb dX14_inherit_294 rfl (lv_at hl 0 rfl) ?_
              refine lv_iadd hx hb dX14_inherit_295 ?_
              refine lv_topi (fun y_48 ey_48 => ?_)
              have ty_48 := add_bd ey_48 b_47 b_39 (by decide)
              have b_49 : bd 0 95 y_48 := add_rg ty_48 b_47 b_39 (by decide)
              refine g_iald hx hb hK g ma_41 ka_41 (by decide) rfl (in_bd b_49 (by decide)) dX14_inherit_296 (fun x_50 bx_50 cx_50 => ?_)
              have vx_50 : x_50 = V254.i 14 y_48.toNatClampNeg := hV254.at g 0 rfl rfl cx_50
              have gp_51 := g
              have go_ := g
              refine g_iastX hx hb hK g ma_41 ka_41 (by decide) rfl (in_bd b_45 (by decide)) bx_50 (by decide) dX14_inherit_297 (fun f H locs hM_52 u_53 g => ?_)
              have hV_54 := isV.ui hV254 gp_51 0 rfl mq0_ kq0_ rfl u_53
              have hF_55 := FR.arr hF254 gp_51 0 rfl mq0_ kq0_ rfl rfl u_53.1
              have hi_56 := inh.r14 (i := y_44.toNatClampNeg) (i' := y_48.toNatClampNeg) hI254 hlt (by have h9 := tnZ b_39.1; have h9_0 := bo_; unfold bd at h9_0; have h9_1 := b_39; unfold bd at h9_1; have h9_2 := bv78_2; unfold bd at h9_2; have h9_3 := bx1_; unfold bd at h9_3; have h9_4 := bx_17; unfold bd at h9_4; have h9_5 := bx_25; unfold bd at h9_5; have h9_6 := bx_33; unfold bd at h9_6; have h9_7 := b_40; unfold bd at h9_7; have h9_8 := bx_50; unfold bd at h9_8; have h9_9 := bx_9; unfold bd at h9_9; have h9_10 := b_43; unfold bd at h9_10; have h9_11 := b_45; unfold bd at h9_11; have h9_12 := b_47; unfold bd at h9_12; have h9_13 := b_49; unfold bd at h9_13; omega) (ix12 bo_.1 b_39.1 (by have h9_0 := bo_; unfold bd at h9_0; have h9_1 := b_39; unfold bd at h9_1; have h9_2 := bv78_2; unfold bd at h9_2; have h9_3 := bx1_; unfold bd at h9_3; have h9_4 := bx_17; unfold bd at h9_4; have h9_5 := bx_25; unfold bd at h9_5; have h9_6 := bx_33; unfold bd at h9_6; have h9_7 := b_40; unfold bd at h9_7; have h9_8 := bx_50; unfold bd at h9_8; have h9_9 := bx_9; unfold bd at h9_9; have h9_10 := b_43; unfold bd at h9_10; have h9_11 := b_45; unfold bd at h9_11; have h9_12 := b_47; unfold bd at h9_12; have h9_13 := b_49; unfold bd at h9_13; omega)) (ix12 bx1_.1 b_39.1 (by have h9_0 := bo_; unfold bd at h9_0; have h9_1 := b_39; unfold bd at h9_1; have h9_2 := bv78_2; unfold bd at h9_2; have h9_3 := bx1_; unfold bd at h9_3; have h9_4 := bx_17; unfold bd at h9_4; have h9_5 := bx_25; unfold bd at h9_5; have h9_6 := bx_33; unfold bd at h9_6; have h9_7 := b_40; unfold bd at h9_7; have h9_8 := bx_50; unfold bd at h9_8; have h9_9 := bx_9; unfold bd at h9_9; have h9_10 := b_43; unfold bd at h9_10; have h9_11 := b_45; unfold bd at h9_11; have h9_12 := b_47; unfold bd at h9_12; have h9_13 := b_49; unfold bd at h9_13; omega)) vx_50
              have kb_1 : bd 1 1 (1 : Int32) := ⟨by decide, by decide⟩
              obtain ⟨y_57, ey_57⟩ : ∃ z : Int32, z = v254_2 + 1 := ⟨_, rfl⟩
              refine lv_iinc (v := y_57) (lv' := [(2, .int y_57), (0, .ref a0_), (1, .int x1_)]) hx hb dX14_inherit_298 hl (k := 0) rfl (by rw [ey_57]; rfl) (by decide) rfl (fun ls hl => ?_)
              have ty_57 := add_bd ey_57 b_39 kb_1 (by decide)
              have b_58 : bd 1 12 y_57 := add_rg ty_57 b_39 kb_1 (by decide)
              refine lv_goto (tgt := 254) hx hb dX14_inherit_301 (by decide) ?_
              have hl9 := lv_sub hl [0, 1, 2] (by rfl : lv_pick [(2, .int y_57), (0, .ref a0_), (1, .int x1_)] [0, 1, 2] = [(2, .int y_57), (0, .ref a0_), (1, .int x1_)])
              have g9 := g.sub (fx' := [(12, 15, q0_, .ref a_24), (12, 5, q0_, .ref a_16), (12, 4, q0_, .ref a_8), (12, 3, q0_, .ref a_1), (14, 2, a0_, .ref q0_), (14, 16, a0_, .int o_)]) [1, 2, 3, 4, 5, 6] rfl
              exact ih254  y_57 (bd_sub b_58 (by decide)) (by have h9_0 := b_58; unfold bd at h9_0; have h9_1 := bv254_2; unfold bd at h9_1; have h9_2 := kb_1; unfold bd at h9_2; omega) _ _ _ _ g9 ⟨(V254.ui 14 y_44.toNatClampNeg x_50), hV_54, hF_55, (by rw [show y_57.toNatClampNeg = v254_2.toNatClampNeg + 1 by have h9 := tnZ (i := y_57) (by have h5 := b_58; unfold bd at h5; omega); have h8 := tnZ b_39.1; have h9_0 := bo_; unfold bd at h9_0; have h9_1 := b_39; unfold bd at h9_1; have h9_2 := bv78_2; unfold bd at h9_2; have h9_3 := bx1_; unfold bd at h9_3; have h9_4 := bx_17; unfold bd at h9_4; have h9_5 := bx_25; unfold bd at h9_5; have h9_6 := bx_33; unfold bd at h9_6; have h9_7 := b_40; unfold bd at h9_7; have h9_8 := bx_50; unfold bd at h9_8; have h9_9 := bx_9; unfold bd at h9_9; have h9_10 := b_43; unfold bd at h9_10; have h9_11 := b_45; unfold bd at h9_11; have h9_12 := b_47; unfold bd at h9_12; have h9_13 := b_49; unfold bd at h9_13; have h9_14 := b_58; unfold bd at h9_14; have h8_0 := kb_1; unfold bd at h8_0; omega]; exact hi_56)⟩ hl9
        have kb_0 : bd 0 0 (0 : Int32) := ⟨by decide, by decide⟩
        have hl9 := lv_sub hl [0, 1, 2] (by rfl : lv_pick [(2, .int 0), (0, .ref a0_), (1, .int x1_)] [0, 1, 2] = [(2, .int 0), (0, .ref a0_), (1, .int x1_)])
        have g9 := g.sub (fx' := [(12, 15, q0_, .ref a_24), (12, 5, q0_, .ref a_16), (12, 4, q0_, .ref a_8), (12, 3, q0_, .ref a_1), (14, 2, a0_, .ref q0_), (14, 16, a0_, .int o_)]) [0, 1, 2, 3, 4, 5] rfl
        have hle_59 : (V_.i 4 x1_.toNatClampNeg).toNatClampNeg ≤ v78_2.toNatClampNeg := by rw [← inh.q4 hI78 hlt, ← (show x_33 = _ from vx_33)]; have h9 : x_33.toNatClampNeg = x_33.toInt.toNat := rfl; have h8 : v78_2.toNatClampNeg = v78_2.toInt.toNat := rfl; have h9_0 := bo_; unfold bd at h9_0; have h9_1 := bv78_2; unfold bd at h9_1; have h9_2 := bx1_; unfold bd at h9_2; have h9_3 := bx_17; unfold bd at h9_3; have h9_4 := bx_25; unfold bd at h9_4; have h9_5 := bx_33; unfold bd at h9_5; have h9_6 := bx_9; unfold bd at h9_6; have h8_0 := kb_0; unfold bd at h8_0; omega
        exact loop_35 (27) 0 (bd_sub kb_0 (by decide)) (by have h9_0 := kb_0; unfold bd at h9_0; omega) _ _ _ _ g9 ⟨V78, hV78, hF78, (by rw [show (0 : Int32).toNatClampNeg = 0 from by decide]; exact hI78.le hle_59 hle_59 (Nat.le_refl _))⟩ hl9
      · have fc_34 := nle_f c_34
        have b_60 : bd 0 9 v78_2 := ltL fc_34 bv78_2 bx_33 (by decide)
        have b_61 : bd 1 10 x_33 := ltR fc_34 bv78_2 bx_33 (by decide)
        refine lv_aload_n hx hb dX14_inherit_91 rfl (lv_at hl 1 rfl) ?_
        refine g_getk (C := RX14) (T := TX14) (N := 67) hx hb hts (mc_ inX14) hown hK g rfl 2 (by decide) rfl (hts _ (List.mem_cons_of_mem _ t_2148)) (fun _ h9 => h9) 4 rfl dX14_inherit_92 ?_
        refine g_getr (K := 162) (C := RX12) (T := TX12) (N := 60) hx hb hts (mc_ inX12) hown hK g mq0_ kq0_ (by decide) rfl 6 (by decide) rfl (hts _ (List.mem_cons_of_mem _ t_1918)) (fun _ h9 => h9) rfl dX14_inherit_95 (fun a_62 ma_62 ka_62 g => ?_)
        refine lv_bipush (v := 10) hx hb dX14_inherit_98 (by decide) ?_
        refine lv_aload_n hx hb dX14_inherit_100 rfl (lv_at hl 1 rfl) ?_
        refine g_getk (C := RX14) (T := TX14) (N := 67) hx hb hts (mc_ inX14) hown hK g rfl 16 (by decide) rfl (hts _ (List.mem_cons_of_mem _ t_2162)) (fun _ h9 => h9) 6 rfl dX14_inherit_101 ?_
        refine lv_imul hx hb dX14_inherit_104 ?_
        refine lv_topi (fun y_63 ey_63 => ?_)
        have ty_63 := cmul_bd ey_63 (c := 10) (by decide) bo_ (by decide)
        have b_64 : bd 0 70 y_63 := mulc_rg ty_63 bo_ (by decide)
        refine lv_iload_n hx hb dX14_inherit_105 rfl (lv_at hl 0 rfl) ?_
        refine lv_iadd hx hb dX14_inherit_106 ?_
        refine lv_topi (fun y_65 ey_65 => ?_)
        have ty_65 := add_bd ey_65 b_64 b_60 (by decide)
        have b_66 : bd 0 79 y_65 := add_rg ty_65 b_64 b_60 (by decide)
        refine lv_aload_n hx hb dX14_inherit_107 rfl (lv_at hl 1 rfl) ?_
        refine g_getk (C := RX14) (T := TX14) (N := 67) hx hb hts (mc_ inX14) hown hK g rfl 2 (by decide) rfl (hts _ (List.mem_cons_of_mem _ t_2148)) (fun _ h9 => h9) 5 rfl dX14_inherit_108 ?_
        refine g_getk (C := RX12) (T := TX12) (N := 60) hx hb hts (mc_ inX12) hown hK g rfl 6 (by decide) rfl (hts _ (List.mem_cons_of_mem _ t_1918)) (fun _ h9 => h9) 0 rfl dX14_inherit_111 ?_
        refine lv_bipush (v := 10) hx hb dX14_inherit_114 (by decide) ?_
        refine lv_iload_n hx hb dX14_inherit_116 rfl (lv_at hl 2 rfl) ?_
        refine lv_imul hx hb dX14_inherit_117 ?_
        refine lv_topi (fun y_67 ey_67 => ?_)
        have ty_67 := cmul_bd ey_67 (c := 10) (by decide) bx1_ (by decide)
        have b_68 : bd 0 70 y_67 := mulc_rg ty_67 bx1_ (by decide)
        refine lv_iload_n hx hb dX14_inherit_118 rfl (lv_at hl 0 rfl) ?_
        refine lv_iadd hx hb dX14_inherit_119 ?_
        refine lv_topi (fun y_69 ey_69 => ?_)
        have ty_69 := add_bd ey_69 b_68 b_60 (by decide)
        have b_70 : bd 0 79 y_69 := add_rg ty_69 b_68 b_60 (by decide)
        refine g_laldX hx hb hK g ma_62 ka_62 (by decide) rfl (in_bd b_70 (by decide)) dX14_inherit_120 (fun x_71 cx_71 => ?_)
        have vx_71 : x_71 = V78.l 6 y_69.toNatClampNeg := hV78.atL g 0 rfl rfl cx_71
        have gp_72 := g
        have go_ := g
        refine g_lastX hx hb hK g ma_62 ka_62 (by decide) rfl (in_bd b_66 (by decide)) (by decide) dX14_inherit_121 (fun f H locs hM_73 u_74 g => ?_)
        have hV_75 := isV.ul hV78 gp_72 0 rfl mq0_ kq0_ rfl u_74
        have hF_76 := FR.arr hF78 gp_72 0 rfl mq0_ kq0_ rfl rfl u_74.1
        have hi_77 := hI78.l6 (j := 6) (i := y_65.toNatClampNeg) (u := x_71) (by decide)
        refine lv_aload_n hx hb dX14_inherit_122 rfl (lv_at hl 1 rfl) ?_
        refine g_getk (C := RX14) (T := TX14) (N := 67) hx hb hts (mc_ inX14) hown hK g rfl 2 (by decide) rfl (hts _ (List.mem_cons_of_mem _ t_2148)) (fun _ h9 => h9) 5 rfl dX14_inherit_123 ?_
        refine g_getr (K := 163) (C := RX12) (T := TX12) (N := 60) hx hb hts (mc_ inX12) hown hK g mq0_ kq0_ (by decide) rfl 7 (by decide) rfl (hts _ (List.mem_cons_of_mem _ t_1920)) (fun _ h9 => h9) rfl dX14_inherit_126 (fun a_78 ma_78 ka_78 g => ?_)
        refine lv_bipush (v := 10) hx hb dX14_inherit_129 (by decide) ?_
        refine lv_aload_n hx hb dX14_inherit_131 rfl (lv_at hl 1 rfl) ?_
        refine g_getk (C := RX14) (T := TX14) (N := 67) hx hb hts (mc_ inX14) hown hK g rfl 16 (by decide) rfl (hts _ (List.mem_cons_of_mem _ t_2162)) (fun _ h9 => h9) 7 rfl dX14_inherit_132 ?_
        refine lv_imul hx hb dX14_inherit_135 ?_
        refine lv_topi (fun y_79 ey_79 => ?_)
        obtain rfl : y_63 = y_79 := ey_63.trans ey_79.symm
        refine lv_iload_n hx hb dX14_inherit_136 rfl (lv_at hl 0 rfl) ?_
        refine lv_iadd hx hb dX14_inherit_137 ?_
        refine lv_topi (fun y_80 ey_80 => ?_)
        obtain rfl : y_65 = y_80 := ey_65.trans ey_80.symm
        refine lv_aload_n hx hb dX14_inherit_138 rfl (lv_at hl 1 rfl) ?_
        refine g_getk (C := RX14) (T := TX14) (N := 67) hx hb hts (mc_ inX14) hown hK g rfl 2 (by decide) rfl (hts _ (List.mem_cons_of_mem _ t_2148)) (fun _ h9 => h9) 6 rfl dX14_inherit_139 ?_
        refine g_getk (C := RX12) (T := TX12) (N := 60) hx hb hts (mc_ inX12) hown hK g rfl 7 (by decide) rfl (hts _ (List.mem_cons_of_mem _ t_1920)) (fun _ h9 => h9) 0 rfl dX14_inherit_142 ?_
        refine lv_bipush (v := 10) hx hb dX14_inherit_145 (by decide) ?_
        refine lv_iload_n hx hb dX14_inherit_147 rfl (lv_at hl 2 rfl) ?_
        refine lv_imul hx hb dX14_inherit_148 ?_
        refine lv_topi (fun y_81 ey_81 => ?_)
        obtain rfl : y_67 = y_81 := ey_67.trans ey_81.symm
        refine lv_iload_n hx hb dX14_inherit_149 rfl (lv_at hl 0 rfl) ?_
        refine lv_iadd hx hb dX14_inherit_150 ?_
        refine lv_topi (fun y_82 ey_82 => ?_)
        obtain rfl : y_69 = y_82 := ey_69.trans ey_82.symm
        refine g_laldX hx hb hK g ma_78 ka_78 (by decide) rfl (in_bd b_70 (by decide)) dX14_inherit_151 (fun x_83 cx_83 => ?_)
        have vx_83 : x_83 = (V78.ul 6 y_65.toNatClampNeg x_71).l 7 y_69.toNatClampNeg := hV_75.atL g 0 rfl rfl cx_83
        have gp_84 := g
        have go_ := g
        refine g_lastX hx hb hK g ma_78 ka_78 (by decide) rfl (in_bd b_66 (by decide)) (by decide) dX14_inherit_152 (fun f H locs hM_85 u_86 g => ?_)
        have hV_87 := isV.ul hV_75 gp_84 0 rfl mq0_ kq0_ rfl u_86
        have hF_88 := FR.arr hF_76 gp_84 0 rfl mq0_ kq0_ rfl rfl u_86.1
        have hi_89 := hi_77.l6 (j := 7) (i := y_65.toNatClampNeg) (u := x_83) (by decide)
        refine lv_aload_n hx hb dX14_inherit_153 rfl (lv_at hl 1 rfl) ?_
        refine g_getk (C := RX14) (T := TX14) (N := 67) hx hb hts (mc_ inX14) hown hK g rfl 2 (by decide) rfl (hts _ (List.mem_cons_of_mem _ t_2148)) (fun _ h9 => h9) 6 rfl dX14_inherit_154 ?_
        refine g_getr (K := 164) (C := RX12) (T := TX12) (N := 60) hx hb hts (mc_ inX12) hown hK g mq0_ kq0_ (by decide) rfl 8 (by decide) rfl (hts _ (List.mem_cons_of_mem _ t_1922)) (fun _ h9 => h9) rfl dX14_inherit_157 (fun a_90 ma_90 ka_90 g => ?_)
        refine lv_bipush (v := 10) hx hb dX14_inherit_160 (by decide) ?_
        refine lv_aload_n hx hb dX14_inherit_162 rfl (lv_at hl 1 rfl) ?_
        refine g_getk (C := RX14) (T := TX14) (N := 67) hx hb hts (mc_ inX14) hown hK g rfl 16 (by decide) rfl (hts _ (List.mem_cons_of_mem _ t_2162)) (fun _ h9 => h9) 8 rfl dX14_inherit_163 ?_
        refine lv_imul hx hb dX14_inherit_166 ?_
        refine lv_topi (fun y_91 ey_91 => ?_)
        obtain rfl : y_63 = y_91 := ey_63.trans ey_91.symm
        refine lv_iload_n hx hb dX14_inherit_167 rfl (lv_at hl 0 rfl) ?_
        refine lv_iadd hx hb dX14_inherit_168 ?_
        refine lv_topi (fun y_92 ey_92 => ?_)
        obtain rfl : y_65 = y_92 := ey_65.trans ey_92.symm
        refine lv_aload_n hx hb dX14_inherit_169 rfl (lv_at hl 1 rfl) ?_
        refine g_getk (C := RX14) (T := TX14) (N := 67) hx hb hts (mc_ inX14) hown hK g rfl 2 (by decide) rfl (hts _ (List.mem_cons_of_mem _ t_2148)) (fun _ h9 => h9) 7 rfl dX14_inherit_170 ?_
        refine g_getk (C := RX12) (T := TX12) (N := 60) hx hb hts (mc_ inX12) hown hK g rfl 8 (by decide) rfl (hts _ (List.mem_cons_of_mem _ t_1922)) (fun _ h9 => h9) 0 rfl dX14_inherit_173 ?_
        refine lv_bipush (v := 10) hx hb dX14_inherit_176 (by decide) ?_
        refine lv_iload_n hx hb dX14_inherit_178 rfl (lv_at hl 2 rfl) ?_
        refine lv_imul hx hb dX14_inherit_179 ?_
        refine lv_topi (fun y_93 ey_93 => ?_)
        obtain rfl : y_67 = y_93 := ey_67.trans ey_93.symm
        refine lv_iload_n hx hb dX14_inherit_180 rfl (lv_at hl 0 rfl) ?_
        refine lv_iadd hx hb dX14_inherit_181 ?_
        refine lv_topi (fun y_94 ey_94 => ?_)
        obtain rfl : y_69 = y_94 := ey_69.trans ey_94.symm
        refine g_iald hx hb hK g ma_90 ka_90 (by decide) rfl (in_bd b_70 (by decide)) dX14_inherit_182 (fun x_95 bx_95 cx_95 => ?_)
        have vx_95 : x_95 = ((V78.ul 6 y_65.toNatClampNeg x_71).ul 7 y_65.toNatClampNeg x_83).i 8 y_69.toNatClampNeg := hV_87.at g 0 rfl rfl cx_95
        have gp_96 := g
        have go_ := g
        refine g_iastX hx hb hK g ma_90 ka_90 (by decide) rfl (in_bd b_66 (by decide)) bx_95 (by decide) dX14_inherit_183 (fun f H locs hM_97 u_98 g => ?_)
        have hV_99 := isV.ui hV_87 gp_96 0 rfl mq0_ kq0_ rfl u_98
        have hF_100 := FR.arr hF_88 gp_96 0 rfl mq0_ kq0_ rfl rfl u_98.1
        have hi_101 := inh.r8 (i := y_65.toNatClampNeg) (i' := y_69.toNatClampNeg) hi_89 hlt (by have h9 := tnZ b_60.1; have h9_0 := bo_; unfold bd at h9_0; have h9_1 := b_60; unfold bd at h9_1; have h9_2 := bx1_; unfold bd at h9_2; have h9_3 := bx_17; unfold bd at h9_3; have h9_4 := bx_25; unfold bd at h9_4; have h9_5 := b_61; unfold bd at h9_5; have h9_6 := bx_9; unfold bd at h9_6; have h9_7 := bx_95; unfold bd at h9_7; have h9_8 := b_64; unfold bd at h9_8; have h9_9 := b_66; unfold bd at h9_9; have h9_10 := b_68; unfold bd at h9_10; have h9_11 := b_70; unfold bd at h9_11; omega) (ix10 bo_.1 b_60.1 (by have h9_0 := bo_; unfold bd at h9_0; have h9_1 := b_60; unfold bd at h9_1; have h9_2 := bx1_; unfold bd at h9_2; have h9_3 := bx_17; unfold bd at h9_3; have h9_4 := bx_25; unfold bd at h9_4; have h9_5 := b_61; unfold bd at h9_5; have h9_6 := bx_9; unfold bd at h9_6; have h9_7 := bx_95; unfold bd at h9_7; have h9_8 := b_64; unfold bd at h9_8; have h9_9 := b_66; unfold bd at h9_9; have h9_10 := b_68; unfold bd at h9_10; have h9_11 := b_70; unfold bd at h9_11; omega)) (ix10 bx1_.1 b_60.1 (by have h9_0 := bo_; unfold bd at h9_0; have h9_1 := b_60; unfold bd at h9_1; have h9_2 := bx1_; unfold bd at h9_2; have h9_3 := bx_17; unfold bd at h9_3; have h9_4 := bx_25; unfold bd at h9_4; have h9_5 := b_61; unfold bd at h9_5; have h9_6 := bx_9; unfold bd at h9_6; have h9_7 := bx_95; unfold bd at h9_7; have h9_8 := b_64; unfold bd at h9_8; have h9_9 := b_66; unfold bd at h9_9; have h9_10 := b_68; unfold bd at h9_10; have h9_11 := b_70; unfold bd at h9_11; omega)) vx_95
        refine lv_aload_n hx hb dX14_inherit_184 rfl (lv_at hl 1 rfl) ?_
        refine g_getk (C := RX14) (T := TX14) (N := 67) hx hb hts (mc_ inX14) hown hK g rfl 2 (by decide) rfl (hts _ (List.mem_cons_of_mem _ t_2148)) (fun _ h9 => h9) 7 rfl dX14_inherit_185 ?_
        refine g_getr (K := 165) (C := RX12) (T := TX12) (N := 60) hx hb hts (mc_ inX12) hown hK g mq0_ kq0_ (by decide) rfl 9 (by decide) rfl (hts _ (List.mem_cons_of_mem _ t_1924)) (fun _ h9 => h9) rfl dX14_inherit_188 (fun a_102 ma_102 ka_102 g => ?_)
        refine lv_bipush (v := 10) hx hb dX14_inherit_191 (by decide) ?_
        refine lv_aload_n hx hb dX14_inherit_193 rfl (lv_at hl 1 rfl) ?_
        refine g_getk (C := RX14) (T := TX14) (N := 67) hx hb hts (mc_ inX14) hown hK g rfl 16 (by decide) rfl (hts _ (List.mem_cons_of_mem _ t_2162)) (fun _ h9 => h9) 9 rfl dX14_inherit_194 ?_
        refine lv_imul hx hb dX14_inherit_197 ?_
        refine lv_topi (fun y_103 ey_103 => ?_)
        obtain rfl : y_63 = y_103 := ey_63.trans ey_103.symm
        refine lv_iload_n hx hb dX14_inherit_198 rfl (lv_at hl 0 rfl) ?_
        refine lv_iadd hx hb dX14_inherit_199 ?_
        refine lv_topi (fun y_104 ey_104 => ?_)
        obtain rfl : y_65 = y_104 := ey_65.trans ey_104.symm
        refine lv_aload_n hx hb dX14_inherit_200 rfl (lv_at hl 1 rfl) ?_
        refine g_getk (C := RX14) (T := TX14) (N := 67) hx hb hts (mc_ inX14) hown hK g rfl 2 (by decide) rfl (hts _ (List.mem_cons_of_mem _ t_2148)) (fun _ h9 => h9) 8 rfl dX14_inherit_201 ?_
        refine g_getk (C := RX12) (T := TX12) (N := 60) hx hb hts (mc_ inX12) hown hK g rfl 9 (by decide) rfl (hts _ (List.mem_cons_of_mem _ t_1924)) (fun _ h9 => h9) 0 rfl dX14_inherit_204 ?_
        refine lv_bipush (v := 10) hx hb dX14_inherit_207 (by decide) ?_
        refine lv_iload_n hx hb dX14_inherit_209 rfl (lv_at hl 2 rfl) ?_
        refine lv_imul hx hb dX14_inherit_210 ?_
        refine lv_topi (fun y_105 ey_105 => ?_)
        obtain rfl : y_67 = y_105 := ey_67.trans ey_105.symm
        refine lv_iload_n hx hb dX14_inherit_211 rfl (lv_at hl 0 rfl) ?_
        refine lv_iadd hx hb dX14_inherit_212 ?_
        refine lv_topi (fun y_106 ey_106 => ?_)
        obtain rfl : y_69 = y_106 := ey_69.trans ey_106.symm
        refine g_iald hx hb hK g ma_102 ka_102 (by decide) rfl (in_bd b_70 (by decide)) dX14_inherit_213 (fun x_107 bx_107 cx_107 => ?_)
        have vx_107 : x_107 = (((V78.ul 6 y_65.toNatClampNeg x_71).ul 7 y_65.toNatClampNeg x_83).ui 8 y_65.toNatClampNeg x_95).i 9 y_69.toNatClampNeg := hV_99.at g 0 rfl rfl cx_107
        have gp_108 := g
        have go_ := g
        refine g_iastX hx hb hK g ma_102 ka_102 (by decide) rfl (in_bd b_66 (by decide)) bx_107 (by decide) dX14_inherit_214 (fun f H locs hM_109 u_110 g => ?_)
        have hV_111 := isV.ui hV_99 gp_108 0 rfl mq0_ kq0_ rfl u_110
        have hF_112 := FR.arr hF_100 gp_108 0 rfl mq0_ kq0_ rfl rfl u_110.1
        have hi_113 := inh.r9 (i := y_65.toNatClampNeg) (i' := y_69.toNatClampNeg) hi_101 hlt (by have h9 := tnZ b_60.1; have h9_0 := bo_; unfold bd at h9_0; have h9_1 := b_60; unfold bd at h9_1; have h9_2 := bx1_; unfold bd at h9_2; have h9_3 := bx_107; unfold bd at h9_3; have h9_4 := bx_17; unfold bd at h9_4; have h9_5 := bx_25; unfold bd at h9_5; have h9_6 := b_61; unfold bd at h9_6; have h9_7 := bx_9; unfold bd at h9_7; have h9_8 := bx_95; unfold bd at h9_8; have h9_9 := b_64; unfold bd at h9_9; have h9_10 := b_66; unfold bd at h9_10; have h9_11 := b_68; unfold bd at h9_11; have h9_12 := b_70; unfold bd at h9_12; omega) (ix10 bo_.1 b_60.1 (by have h9_0 := bo_; unfold bd at h9_0; have h9_1 := b_60; unfold bd at h9_1; have h9_2 := bx1_; unfold bd at h9_2; have h9_3 := bx_107; unfold bd at h9_3; have h9_4 := bx_17; unfold bd at h9_4; have h9_5 := bx_25; unfold bd at h9_5; have h9_6 := b_61; unfold bd at h9_6; have h9_7 := bx_9; unfold bd at h9_7; have h9_8 := bx_95; unfold bd at h9_8; have h9_9 := b_64; unfold bd at h9_9; have h9_10 := b_66; unfold bd at h9_10; have h9_11 := b_68; unfold bd at h9_11; have h9_12 := b_70; unfold bd at h9_12; omega)) (ix10 bx1_.1 b_60.1 (by have h9_0 := bo_; unfold bd at h9_0; have h9_1 := b_60; unfold bd at h9_1; have h9_2 := bx1_; unfold bd at h9_2; have h9_3 := bx_107; unfold bd at h9_3; have h9_4 := bx_17; unfold bd at h9_4; have h9_5 := bx_25; unfold bd at h9_5; have h9_6 := b_61; unfold bd at h9_6; have h9_7 := bx_9; unfold bd at h9_7; have h9_8 := bx_95; unfold bd at h9_8; have h9_9 := b_64; unfold bd at h9_9; have h9_10 := b_66; unfold bd at h9_10; have h9_11 := b_68; unfold bd at h9_11; have h9_12 := b_70; unfold bd at h9_12; omega)) vx_107
        refine lv_aload_n hx hb dX14_inherit_215 rfl (lv_at hl 1 rfl) ?_
        refine g_getk (C := RX14) (T := TX14) (N := 67) hx hb hts (mc_ inX14) hown hK g rfl 2 (by decide) rfl (hts _ (List.mem_cons_of_mem _ t_2148)) (fun _ h9 => h9) 8 rfl dX14_inherit_216 ?_
        refine g_getr (K := 166) (C := RX12) (T := TX12) (N := 60) hx hb hts (mc_ inX12) hown hK g mq0_ kq0_ (by decide) rfl 10 (by decide) rfl (hts _ (List.mem_cons_of_mem _ t_1926)) (fun _ h9 => h9) rfl dX14_inherit_219 (fun a_114 ma_114 ka_114 g => ?_)
        refine lv_bipush (v := 10) hx hb dX14_inherit_222 (by decide) ?_
        refine lv_aload_n hx hb dX14_inherit_224 rfl (lv_at hl 1 rfl) ?_
        refine g_getk (C := RX14) (T := TX14) (N := 67) hx hb hts (mc_ inX14) hown hK g rfl 16 (by decide) rfl (hts _ (List.mem_cons_of_mem _ t_2162)) (fun _ h9 => h9) 10 rfl dX14_inherit_225 ?_
        refine lv_imul hx hb dX14_inherit_228 ?_
        refine lv_topi (fun y_115 ey_115 => ?_)
        obtain rfl : y_63 = y_115 := ey_63.trans ey_115.symm
        refine lv_iload_n hx hb dX14_inherit_229 rfl (lv_at hl 0 rfl) ?_
        refine lv_iadd hx hb dX14_inherit_230 ?_
        refine lv_topi (fun y_116 ey_116 => ?_)
        obtain rfl : y_65 = y_116 := ey_65.trans ey_116.symm
        refine lv_aload_n hx hb dX14_inherit_231 rfl (lv_at hl 1 rfl) ?_
        refine g_getk (C := RX14) (T := TX14) (N := 67) hx hb hts (mc_ inX14) hown hK g rfl 2 (by decide) rfl (hts _ (List.mem_cons_of_mem _ t_2148)) (fun _ h9 => h9) 9 rfl dX14_inherit_232 ?_
        refine g_getk (C := RX12) (T := TX12) (N := 60) hx hb hts (mc_ inX12) hown hK g rfl 10 (by decide) rfl (hts _ (List.mem_cons_of_mem _ t_1926)) (fun _ h9 => h9) 0 rfl dX14_inherit_235 ?_
        refine lv_bipush (v := 10) hx hb dX14_inherit_238 (by decide) ?_
        refine lv_iload_n hx hb dX14_inherit_240 rfl (lv_at hl 2 rfl) ?_
        refine lv_imul hx hb dX14_inherit_241 ?_
        refine lv_topi (fun y_117 ey_117 => ?_)
        obtain rfl : y_67 = y_117 := ey_67.trans ey_117.symm
        refine lv_iload_n hx hb dX14_inherit_242 rfl (lv_at hl 0 rfl) ?_
        refine lv_iadd hx hb dX14_inherit_243 ?_
        refine lv_topi (fun y_118 ey_118 => ?_)
        obtain rfl : y_69 = y_118 := ey_69.trans ey_118.symm
        refine g_iald hx hb hK g ma_114 ka_114 (by decide) rfl (in_bd b_70 (by decide)) dX14_inherit_244 (fun x_119 bx_119 cx_119 => ?_)
        have vx_119 : x_119 = ((((V78.ul 6 y_65.toNatClampNeg x_71).ul 7 y_65.toNatClampNeg x_83).ui 8 y_65.toNatClampNeg x_95).ui 9 y_65.toNatClampNeg x_107).i 10 y_69.toNatClampNeg := hV_111.at g 0 rfl rfl cx_119
        have gp_120 := g
        have go_ := g
        refine g_iastX hx hb hK g ma_114 ka_114 (by decide) rfl (in_bd b_66 (by decide)) (bdT x_119) (by decide) dX14_inherit_245 (fun f H locs hM_121 u_122 g => ?_)
        have hV_123 := isV.ui hV_111 gp_120 0 rfl mq0_ kq0_ rfl u_122
        have hF_124 := FR.arr hF_112 gp_120 0 rfl mq0_ kq0_ rfl rfl u_122.1
        have hi_125 := hi_113.r10 (i := y_65.toNatClampNeg) (y := x_119)
        have kb_1 : bd 1 1 (1 : Int32) := ⟨by decide, by decide⟩
        obtain ⟨y_126, ey_126⟩ : ∃ z : Int32, z = v78_2 + 1 := ⟨_, rfl⟩
        refine lv_iinc (v := y_126) (lv' := [(2, .int y_126), (0, .ref a0_), (1, .int x1_)]) hx hb dX14_inherit_246 hl (k := 0) rfl (by rw [ey_126]; rfl) (by decide) rfl (fun ls hl => ?_)
        have ty_126 := add_bd ey_126 b_60 kb_1 (by decide)
        have b_127 : bd 1 10 y_126 := add_rg ty_126 b_60 kb_1 (by decide)
        refine lv_goto (tgt := 78) hx hb dX14_inherit_249 (by decide) ?_
        have hl9 := lv_sub hl [0, 1, 2] (by rfl : lv_pick [(2, .int y_126), (0, .ref a0_), (1, .int x1_)] [0, 1, 2] = [(2, .int y_126), (0, .ref a0_), (1, .int x1_)])
        have g9 := g.sub (fx' := [(12, 15, q0_, .ref a_24), (12, 5, q0_, .ref a_16), (12, 4, q0_, .ref a_8), (12, 3, q0_, .ref a_1), (14, 2, a0_, .ref q0_), (14, 16, a0_, .int o_)]) [5, 6, 7, 8, 9, 10] rfl
        exact ih78  y_126 (bd_sub b_127 (by decide)) (by have h9_0 := b_127; unfold bd at h9_0; have h9_1 := bv78_2; unfold bd at h9_1; have h9_2 := kb_1; unfold bd at h9_2; omega) _ _ _ _ g9 ⟨(((((V78.ul 6 y_65.toNatClampNeg x_71).ul 7 y_65.toNatClampNeg x_83).ui 8 y_65.toNatClampNeg x_95).ui 9 y_65.toNatClampNeg x_107).ui 10 y_65.toNatClampNeg x_119), hV_123, hF_124, (by rw [show y_126.toNatClampNeg = v78_2.toNatClampNeg + 1 by have h9 := tnZ (i := y_126) (by have h5 := b_127; unfold bd at h5; omega); have h8 := tnZ b_60.1; have h9_0 := bo_; unfold bd at h9_0; have h9_1 := b_60; unfold bd at h9_1; have h9_2 := bx1_; unfold bd at h9_2; have h9_3 := bx_107; unfold bd at h9_3; have h9_4 := bx_17; unfold bd at h9_4; have h9_5 := bx_25; unfold bd at h9_5; have h9_6 := b_61; unfold bd at h9_6; have h9_7 := bx_9; unfold bd at h9_7; have h9_8 := bx_95; unfold bd at h9_8; have h9_9 := b_127; unfold bd at h9_9; have h9_10 := b_64; unfold bd at h9_10; have h9_11 := b_66; unfold bd at h9_11; have h9_12 := b_68; unfold bd at h9_12; have h9_13 := b_70; unfold bd at h9_13; have h8_0 := kb_1; unfold bd at h8_0; omega]; exact hi_125)⟩ hl9
  have kb_0 : bd 0 0 (0 : Int32) := ⟨by decide, by decide⟩
  have hl9 := lv_sub hl [0, 1, 2] (by rfl : lv_pick [(2, .int 0), (0, .ref a0_), (1, .int x1_)] [0, 1, 2] = [(2, .int 0), (0, .ref a0_), (1, .int x1_)])
  have g9 := g.sub (fx' := [(12, 15, q0_, .ref a_24), (12, 5, q0_, .ref a_16), (12, 4, q0_, .ref a_8), (12, 3, q0_, .ref a_1), (14, 2, a0_, .ref q0_), (14, 16, a0_, .int o_)]) [0, 1, 2, 3, 4, 5] rfl
  exact loop_32 (23) 0 (bd_sub kb_0 (by decide)) (by have h9_0 := kb_0; unfold bd at h9_0; omega) _ _ _ _ g9 ⟨((((V_.ui 3 o_.toNatClampNeg x1_).ui 4 o_.toNatClampNeg x_9).ui 5 o_.toNatClampNeg x_17).ui 15 o_.toNatClampNeg x_25), hV_29, hF_30, (by rw [show (0 : Int32).toNatClampNeg = 0 from by decide]; exact hi_31)⟩ hl9
