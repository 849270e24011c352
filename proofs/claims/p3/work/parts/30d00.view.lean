set_option maxHeartbeats 4000000 in
set_option maxRecDepth 100000 in
theorem r_X14_classHereN (l : Launch) (dC : Nat → ClassId) (dI : Nat → Nat → Nat) (L : List Nat) (kd : Nat → Nat) (tys : List (ClassId × FieldType)) (f0 : Nat → va_E) (sz : Nat) (hWT : WT L kd tys f0) (a0_ : Nat) (ma0_ : a0_ ∈ L) (ka0_ : kd a0_ = 14) (w_ : Int32) (bw : bd 0 20 w_) (Z_ : Nat → Int32) (O_ : Nat → Int32) (hR : RA f0 a0_ w_ Z_ O_) (hfx : Fs L kd f0 [(14, 35, a0_, .int w_)]) : Met l yX14_classHere (.code yX14_classHere cX14_classHere 1 (some .int) :: lw_g) ({ frames := 0, cells := 0, slots := 0, locals := 0 }) (va_Pc [.ref a0_] (P3 (dC, dI) L tys f0 sz)) (va_Qi (fun (r : Int32) (f : Nat → va_E) => ((r = O_ (Z_ w_.toNatClampNeg).toNatClampNeg) ∧ bd (-1) 7 r ∧ True)) (Q3 (dC, dI) L kd tys [] [] f0 sz) (pA L sz)) 0 0 (pA L sz) := by
  refine Met.ofW (cc := cX14_classHere) (maxL := 1) (ret := (some .int)) (by decide) rfl ?_
  intro p e s m args below meth c s₁ B hml hv
  obtain ⟨rfl, hsz, hP, hK, hD0⟩ := hv
  have hx := B.exec
  have hb := B.bytes
  have hr := B.returns
  have hts := atoms_spec (ws := (.code yX14_classHere cX14_classHere 1 (some .int) :: lw_g)) B.pre
  have hown : s.vm.findClass RX14 = some m.cls := findClass_of_methodNamed B.named
  have hlocks := B.notSynchronized
  subst hsz
  have g : G3 (dC, dI) L kd tys s f0 [] [] f0 s.heap [] [(14, 35, a0_, .int w_)] := G3.start hP hD0 hWT hfx
  have hl := lv_entry ([.ref a0_]) (n := 1) (Nat.le_of_ble_eq_true rfl)
  rw [lg_entry_eq]
  generalize (lg_sl ([.ref a0_]) ++ List.replicate (1 - (lg_sl ([.ref a0_])).length) Slot.unset).toArray = ls at hl ⊢
  have hl : lv_has ls 1 [(0, .ref a0_)] := hl
  refine W_q (fun Q hQ => ?_)
  refine lv_aload_n hx hb dX14_classHere_0 rfl (lv_at hl 0 rfl) ?_
  refine g_getr (K := 215) (C := RX14) (T := TX14) (N := 67) hx hb hts (mc_ inX14) hown hK g ma0_ ka0_ (by decide) rfl 27 (by decide) rfl (hts _ (List.mem_cons_of_mem _ t_2173)) (fun _ h9 => h9) rfl dX14_classHere_1 (fun a_1 ma_1 ka_1 g => ?_)
  refine lv_aload_n hx hb dX14_classHere_4 rfl (lv_at hl 0 rfl) ?_
  refine g_getr (K := 220) (C := RX14) (T := TX14) (N := 67) hx hb hts (mc_ inX14) hown hK g ma0_ ka0_ (by decide) rfl 43 (by decide) rfl (hts _ (List.mem_cons_of_mem _ t_2189)) (fun _ h9 => h9) rfl dX14_classHere_5 (fun a_2 ma_2 ka_2 g => ?_)
  refine lv_aload_n hx hb dX14_classHere_8 rfl (lv_at hl 0 rfl) ?_
  refine g_getk (C := RX14) (T := TX14) (N := 67) hx hb hts (mc_ inX14) hown hK g rfl 35 (by decide) rfl (hts _ (List.mem_cons_of_mem _ t_2181)) (fun _ h9 => h9) 2 rfl dX14_classHere_9 ?_
  refine g_iald hx hb hK g ma_2 ka_2 (by decide) rfl (in_bd bw (by decide)) dX14_classHere_12 (fun x_3 bx_3 cx_3 => ?_)
  have vx_3 := hR.self g 0 rfl cx_3
  refine g_iald hx hb hK g ma_1 ka_1 (by decide) rfl (in_bd bx_3 (by decide)) dX14_classHere_13 (fun x_4 bx_4 cx_4 => ?_)
  have vx_4 := hR.cls g 1 rfl cx_4
  subst hQ
  exact W.iret (v := x_4) hx hb hr (fun t ht hW => ⟨⟨_, _, rfl, ⟨(vx_4.trans (by rw [vx_3])), bx_4, trivial⟩, q3_of g hK ht hW⟩, g.2.2.1.F ht⟩) g.2.2.1.2.2 dX14_classHere_14
set_option maxHeartbeats 4000000 in
set_option maxRecDepth 100000 in
theorem r_X12_findN (l : Launch) (dC : Nat → ClassId) (dI : Nat → Nat → Nat) (L : List Nat) (kd : Nat → Nat) (tys : List (ClassId × FieldType)) (f0 : Nat → va_E) (sz : Nat) (hWT : WT L kd tys f0) (a0_ : Nat) (ma0_ : a0_ ∈ L) (ka0_ : kd a0_ = 12) (x1_ : Int32) (bx1_ : bd 0 8 x1_) (x2_ : Int64) (x3_ : Int64) (V_ : PV) (hV : isV f0 a0_ V_) : Met l yX12_find (.code yX12_find cX12_find 7 (some .int) :: lw_g) ({ frames := 0, cells := 0, slots := 0, locals := 0 }) (va_Pc [.ref a0_, .int x1_, .long x2_, .long x3_] (P3 (dC, dI) L tys f0 sz)) (va_Qi (fun (r : Int32) (f : Nat → va_E) => ((¬ fnd V_ x1_.toNatClampNeg x2_ x3_) ∧ r = (-1) ∧ True) ∨ ((fndR V_ x1_.toNatClampNeg x2_ x3_ r) ∧ bd 0 109 r ∧ True)) (Q3 (dC, dI) L kd tys [] [] f0 sz) (pA L sz)) 0 0 (pA L sz) := by
  refine Met.ofW (cc := cX12_find) (maxL := 7) (ret := (some .int)) (by decide) rfl ?_
  intro p e s m args below meth c s₁ B hml hv
  obtain ⟨rfl, hsz, hP, hK, hD0⟩ := hv
  have hx := B.exec
  have hb := B.bytes
  have hr := B.returns
  have hts := atoms_spec (ws := (.code yX12_find cX12_find 7 (some .int) :: lw_g)) B.pre
  have hown : s.vm.findClass RX12 = some m.cls := findClass_of_methodNamed B.named
  have hlocks := B.notSynchronized
  subst hsz
  have g : G3 (dC, dI) L kd tys s f0 [] [] f0 s.heap [] [] := G3.start hP hD0 hWT Fs.nil
  have hl := lv_entry ([.ref a0_, .int x1_, .long x2_, .long x3_]) (n := 7) (Nat.le_of_ble_eq_true rfl)
  rw [lg_entry_eq]
  generalize (lg_sl ([.ref a0_, .int x1_, .long x2_, .long x3_]) ++ List.replicate (7 - (lg_sl ([.ref a0_, .int x1_, .long x2_, .long x3_])).length) Slot.unset).toArray = ls at hl ⊢
  have hl : lv_has ls 7 [(0, .ref a0_), (1, .int x1_), (2, .long x2_), (4, .long x3_)] := hl
  refine W_q (fun Q hQ => ?_)
  refine lv_iconst (v := 0) hx hb dX12_find_0 (by decide) ?_
  refine lv_istore (lv' := [(6, .int 0), (0, .ref a0_), (1, .int x1_), (2, .long x2_), (4, .long x3_)]) hx hb dX12_find_1 hl (by decide) rfl (fun ls hl => ?_)
  have loop_1 : ∀ (n : Nat) (v3_6 : Int32), bd 0 12 v3_6 → (12 - v3_6.toInt < (n : Int)) → ∀ (f : Nat → va_E) (H : Heap) (locs : List Loc) (ls : Array Slot), G3 (dC, dI) L kd tys s f0 [] [] f H locs [] → isV f a0_ V_ → (nfn V_ x1_.toNatClampNeg x2_ x3_ v3_6) → lv_has ls 7 [(6, .int v3_6), (0, .ref a0_), (1, .int x1_), (2, .long x2_), (4, .long x3_)] → W p l e ({ frames := 0, cells := 0, slots := 0, locals := 0 } : Room) s m [.ref a0_, .int x1_, .long x2_, .long x3_].toArray below meth c H locs 0 0 Q (F0 m 3 ls []) := by
    intro n3
    induction n3 with
    | zero =>
      intro v3_6 bv3_6 hm3 f H locs ls g hG3_V_a0_ hI3 hl
      exact absurd hm3 (by have h9_v3_6 := bv3_6; unfold bd at h9_v3_6; omega)
    | succ n3 ih3 =>
      intro v3_6 bv3_6 hm3 f H locs ls g hG3_V_a0_ hI3 hl
      refine lv_iload hx hb dX12_find_3 (lv_at hl 0 rfl) ?_
      refine lv_aload_n hx hb dX12_find_5 rfl (lv_at hl 1 rfl) ?_
      refine g_getr (K := 171) (C := RX12) (T := TX12) (N := 60) hx hb hts (mc_ inX12) hown hK g ma0_ ka0_ (by decide) rfl 15 (by decide) rfl (hts _ (List.mem_cons_of_mem _ t_1935)) (fun _ h9 => h9) rfl dX12_find_6 (fun a_2 ma_2 ka_2 g => ?_)
      refine lv_iload_n hx hb dX12_find_9 rfl (lv_at hl 2 rfl) ?_
      refine g_iald hx hb hK g ma_2 ka_2 (by decide) rfl (in_bd bx1_ (by decide)) dX12_find_10 (fun x_3 bx_3 cx_3 => ?_)
      have vx_3 : x_3 = V_.i 15 x1_.toNatClampNeg := hG3_V_a0_.at g 0 rfl rfl cx_3
      refine lv_icmp_ge (tgt := 78) hx hb dX12_find_11 (by decide) (fun c_4 => ?_) (fun c_4 => ?_)
      · have fc_4 := le_f c_4
        refine lv_iconst (v := (-1)) hx hb dX12_find_78 (by decide) ?_
        subst hQ
        exact W.iret (v := (-1)) hx hb hr (fun t ht hW => ⟨⟨_, _, rfl, Or.inl ⟨(fnd_no hI3 vx_3 fc_4), rfl, trivial⟩, q3_of g hK ht hW⟩, g.2.2.1.F ht⟩) g.2.2.1.2.2 dX12_find_79
      · have fc_4 := nle_f c_4
        have b_5 : bd 0 11 v3_6 := ltL fc_4 bv3_6 bx_3 (by decide)
        have b_6 : bd 1 12 x_3 := ltR fc_4 bv3_6 bx_3 (by decide)
        refine lv_aload_n hx hb dX12_find_14 rfl (lv_at hl 1 rfl) ?_
        refine g_getr (K := 172) (C := RX12) (T := TX12) (N := 60) hx hb hts (mc_ inX12) hown hK g ma0_ ka0_ (by decide) rfl 16 (by decide) rfl (hts _ (List.mem_cons_of_mem _ t_1937)) (fun _ h9 => h9) rfl dX12_find_15 (fun a_7 ma_7 ka_7 g => ?_)
        refine lv_aload_n hx hb dX12_find_18 rfl (lv_at hl 1 rfl) ?_
        refine g_getr (K := 170) (C := RX12) (T := TX12) (N := 60) hx hb hts (mc_ inX12) hown hK g ma0_ ka0_ (by decide) rfl 14 (by decide) rfl (hts _ (List.mem_cons_of_mem _ t_1933)) (fun _ h9 => h9) rfl dX12_find_19 (fun a_8 ma_8 ka_8 g => ?_)
        refine lv_bipush (v := 12) hx hb dX12_find_22 (by decide) ?_
        refine lv_iload_n hx hb dX12_find_24 rfl (lv_at hl 2 rfl) ?_
        refine lv_imul hx hb dX12_find_25 ?_
        refine lv_topi (fun y_9 ey_9 => ?_)
        have ty_9 := cmul_bd ey_9 (c := 12) (by decide) bx1_ (by decide)
        have b_10 : bd 0 96 y_9 := mulc_rg ty_9 bx1_ (by decide)
        refine lv_iload hx hb dX12_find_26 (lv_at hl 0 rfl) ?_
        refine lv_iadd hx hb dX12_find_28 ?_
        refine lv_topi (fun y_11 ey_11 => ?_)
        have ty_11 := add_bd ey_11 b_10 b_5 (by decide)
        have b_12 : bd 0 107 y_11 := add_rg ty_11 b_10 b_5 (by decide)
        refine g_iald hx hb hK g ma_8 ka_8 (by decide) rfl (in_bd b_12 (by decide)) dX12_find_29 (fun x_13 bx_13 cx_13 => ?_)
        have vx_13 : x_13 = V_.i 14 y_11.toNatClampNeg := hG3_V_a0_.at g 0 rfl rfl cx_13
        refine g_laldX hx hb hK g ma_7 ka_7 (by decide) rfl (in_bd bx_13 (by decide)) dX12_find_30 (fun x_14 cx_14 => ?_)
        have vx_14 : x_14 = V_.l 16 x_13.toNatClampNeg := hG3_V_a0_.atL g 1 rfl rfl cx_14
        refine lv_lload_n hx hb dX12_find_31 rfl (lv_at hl 3 rfl) ?_
        refine W.lcmp hx hb dX12_find_32 ?_
        refine lv_if_ne (tgt := 72) hx hb dX12_find_33 (by decide) (fun c_15 => ?_) (fun c_15 => ?_)
        · rw [lg_cmp_eq] at c_15
          have kb_1 : bd 1 1 (1 : Int32) := ⟨by decide, by decide⟩
          obtain ⟨y_16, ey_16⟩ : ∃ z : Int32, z = v3_6 + 1 := ⟨_, rfl⟩
          refine lv_iinc (v := y_16) (lv' := [(6, .int y_16), (0, .ref a0_), (1, .int x1_), (2, .long x2_), (4, .long x3_)]) hx hb dX12_find_72 hl (k := 0) rfl (by rw [ey_16]; rfl) (by decide) rfl (fun ls hl => ?_)
          have ty_16 := add_bd ey_16 b_5 kb_1 (by decide)
          have b_17 : bd 1 12 y_16 := add_rg ty_16 b_5 kb_1 (by decide)
          refine lv_goto (tgt := 3) hx hb dX12_find_75 (by decide) ?_
          have hl9 := lv_sub hl [0, 1, 2, 3, 4] (by rfl : lv_pick [(6, .int y_16), (0, .ref a0_), (1, .int x1_), (2, .long x2_), (4, .long x3_)] [0, 1, 2, 3, 4] = [(6, .int y_16), (0, .ref a0_), (1, .int x1_), (2, .long x2_), (4, .long x3_)])
          have g9 := g.sub (fx' := []) [] rfl
          exact ih3  y_16 (bd_sub b_17 (by decide)) (by have h9_0 := b_17; unfold bd at h9_0; have h9_1 := bv3_6; unfold bd at h9_1; have h9_2 := kb_1; unfold bd at h9_2; omega) _ _ _ _ g9 hG3_V_a0_ (nfn_s hI3 b_5.1 (by have h9_0 := b_5; unfold bd at h9_0; have h9_1 := bx1_; unfold bd at h9_1; have h9_2 := bx_13; unfold bd at h9_2; have h9_3 := b_6; unfold bd at h9_3; have h9_4 := b_12; unfold bd at h9_4; have h9_5 := b_17; unfold bd at h9_5; have h9_6 := b_10; unfold bd at h9_6; have h8_0 := kb_1; unfold bd at h8_0; omega) (ix12 bx1_.1 b_5.1 (by have h9_0 := b_5; unfold bd at h9_0; have h9_1 := bx1_; unfold bd at h9_1; have h9_2 := bx_13; unfold bd at h9_2; have h9_3 := b_6; unfold bd at h9_3; have h9_4 := b_12; unfold bd at h9_4; have h9_5 := b_17; unfold bd at h9_5; have h9_6 := b_10; unfold bd at h9_6; have h8_0 := kb_1; unfold bd at h8_0; omega)) vx_13 (fun h9 => c_15 (vx_14.trans h9.1))) hl9
        · rw [lg_cmp_eq] at c_15
          refine lv_aload_n hx hb dX12_find_36 rfl (lv_at hl 1 rfl) ?_
          refine g_getr (K := 173) (C := RX12) (T := TX12) (N := 60) hx hb hts (mc_ inX12) hown hK g ma0_ ka0_ (by decide) rfl 17 (by decide) rfl (hts _ (List.mem_cons_of_mem _ t_1939)) (fun _ h9 => h9) rfl dX12_find_37 (fun a_18 ma_18 ka_18 g => ?_)
          refine lv_aload_n hx hb dX12_find_40 rfl (lv_at hl 1 rfl) ?_
          refine g_getk (C := RX12) (T := TX12) (N := 60) hx hb hts (mc_ inX12) hown hK g rfl 14 (by decide) rfl (hts _ (List.mem_cons_of_mem _ t_1933)) (fun _ h9 => h9) 1 rfl dX12_find_41 ?_
          refine lv_bipush (v := 12) hx hb dX12_find_44 (by decide) ?_
          refine lv_iload_n hx hb dX12_find_46 rfl (lv_at hl 2 rfl) ?_
          refine lv_imul hx hb dX12_find_47 ?_
          refine lv_topi (fun y_19 ey_19 => ?_)
          obtain rfl : y_9 = y_19 := ey_9.trans ey_19.symm
          refine lv_iload hx hb dX12_find_48 (lv_at hl 0 rfl) ?_
          refine lv_iadd hx hb dX12_find_50 ?_
          refine lv_topi (fun y_20 ey_20 => ?_)
          obtain rfl : y_11 = y_20 := ey_11.trans ey_20.symm
          refine g_iald hx hb hK g ma_8 ka_8 (by decide) rfl (in_bd b_12 (by decide)) dX12_find_51 (fun x_21 bx_21 cx_21 => ?_)
          obtain rfl : x_13 = x_21 := el_same cx_13 cx_21 rfl
          refine g_laldX hx hb hK g ma_18 ka_18 (by decide) rfl (in_bd bx_13 (by decide)) dX12_find_52 (fun x_22 cx_22 => ?_)
          have vx_22 : x_22 = V_.l 17 x_13.toNatClampNeg := hG3_V_a0_.atL g 0 rfl rfl cx_22
          refine lv_lload hx hb dX12_find_53 (lv_at hl 4 rfl) ?_
          refine W.lcmp hx hb dX12_find_55 ?_
          refine lv_if_ne (tgt := 72) hx hb dX12_find_56 (by decide) (fun c_23 => ?_) (fun c_23 => ?_)
          · rw [lg_cmp_eq] at c_23
            have kb_1 : bd 1 1 (1 : Int32) := ⟨by decide, by decide⟩
            obtain ⟨y_24, ey_24⟩ : ∃ z : Int32, z = v3_6 + 1 := ⟨_, rfl⟩
            refine lv_iinc (v := y_24) (lv' := [(6, .int y_24), (0, .ref a0_), (1, .int x1_), (2, .long x2_), (4, .long x3_)]) hx hb dX12_find_72 hl (k := 0) rfl (by rw [ey_24]; rfl) (by decide) rfl (fun ls hl => ?_)
            have ty_24 := add_bd ey_24 b_5 kb_1 (by decide)
            have b_25 : bd 1 12 y_24 := add_rg ty_24 b_5 kb_1 (by decide)
            refine lv_goto (tgt := 3) hx hb dX12_find_75 (by decide) ?_
            have hl9 := lv_sub hl [0, 1, 2, 3, 4] (by rfl : lv_pick [(6, .int y_24), (0, .ref a0_), (1, .int x1_), (2, .long x2_), (4, .long x3_)] [0, 1, 2, 3, 4] = [(6, .int y_24), (0, .ref a0_), (1, .int x1_), (2, .long x2_), (4, .long x3_)])
            have g9 := g.sub (fx' := []) [] rfl
            exact ih3  y_24 (bd_sub b_25 (by decide)) (by have h9_0 := b_25; unfold bd at h9_0; have h9_1 := bv3_6; unfold bd at h9_1; have h9_2 := kb_1; unfold bd at h9_2; omega) _ _ _ _ g9 hG3_V_a0_ (nfn_s hI3 b_5.1 (by have h9_0 := b_5; unfold bd at h9_0; have h9_1 := bx1_; unfold bd at h9_1; have h9_2 := bx_13; unfold bd at h9_2; have h9_3 := bx_21; unfold bd at h9_3; have h9_4 := b_6; unfold bd at h9_4; have h9_5 := b_12; unfold bd at h9_5; have h9_6 := b_25; unfold bd at h9_6; have h9_7 := b_10; unfold bd at h9_7; have h8_0 := kb_1; unfold bd at h8_0; omega) (ix12 bx1_.1 b_5.1 (by have h9_0 := b_5; unfold bd at h9_0; have h9_1 := bx1_; unfold bd at h9_1; have h9_2 := bx_13; unfold bd at h9_2; have h9_3 := bx_21; unfold bd at h9_3; have h9_4 := b_6; unfold bd at h9_4; have h9_5 := b_12; unfold bd at h9_5; have h9_6 := b_25; unfold bd at h9_6; have h9_7 := b_10; unfold bd at h9_7; have h8_0 := kb_1; unfold bd at h8_0; omega)) vx_13 (fun h9 => c_23 (vx_22.trans h9.2))) hl9
          · rw [lg_cmp_eq] at c_23
            refine lv_aload_n hx hb dX12_find_59 rfl (lv_at hl 1 rfl) ?_
            refine g_getk (C := RX12) (T := TX12) (N := 60) hx hb hts (mc_ inX12) hown hK g rfl 14 (by decide) rfl (hts _ (List.mem_cons_of_mem _ t_1933)) (fun _ h9 => h9) 1 rfl dX12_find_60 ?_
            refine lv_bipush (v := 12) hx hb dX12_find_63 (by decide) ?_
            refine lv_iload_n hx hb dX12_find_65 rfl (lv_at hl 2 rfl) ?_
            refine lv_imul hx hb dX12_find_66 ?_
            refine lv_topi (fun y_26 ey_26 => ?_)
            obtain rfl : y_9 = y_26 := ey_9.trans ey_26.symm
            refine lv_iload hx hb dX12_find_67 (lv_at hl 0 rfl) ?_
            refine lv_iadd hx hb dX12_find_69 ?_
            refine lv_topi (fun y_27 ey_27 => ?_)
            obtain rfl : y_11 = y_27 := ey_11.trans ey_27.symm
            refine g_iald hx hb hK g ma_8 ka_8 (by decide) rfl (in_bd b_12 (by decide)) dX12_find_70 (fun x_28 bx_28 cx_28 => ?_)
            obtain rfl : x_13 = x_28 := el_same cx_13 cx_28 rfl
            subst hQ
            exact W.iret (v := x_13) hx hb hr (fun t ht hW => ⟨⟨_, _, rfl, Or.inr (⟨(fndR_of b_5.1 vx_3 fc_4 (ix12 bx1_.1 b_5.1 (by have h9_0 := b_5; unfold bd at h9_0; have h9_1 := bx1_; unfold bd at h9_1; have h9_2 := bx_13; unfold bd at h9_2; have h9_3 := bx_21; unfold bd at h9_3; have h9_4 := bx_28; unfold bd at h9_4; have h9_5 := b_6; unfold bd at h9_5; have h9_6 := b_12; unfold bd at h9_6; have h9_7 := b_10; unfold bd at h9_7; omega)) vx_13 (vx_14.symm.trans c_15) (vx_22.symm.trans c_23)), bx_13, trivial⟩), q3_of g hK ht hW⟩, g.2.2.1.F ht⟩) g.2.2.1.2.2 dX12_find_71
  have kb_0 : bd 0 0 (0 : Int32) := ⟨by decide, by decide⟩
  have hl9 := lv_sub hl [0, 1, 2, 3, 4] (by rfl : lv_pick [(6, .int 0), (0, .ref a0_), (1, .int x1_), (2, .long x2_), (4, .long x3_)] [0, 1, 2, 3, 4] = [(6, .int 0), (0, .ref a0_), (1, .int x1_), (2, .long x2_), (4, .long x3_)])
  have g9 := g.sub (fx' := []) [] rfl
  exact loop_1 (27) 0 (bd_sub kb_0 (by decide)) (by have h9_0 := kb_0; unfold bd at h9_0; omega) _ _ _ _ g9 hV nfn_0 hl9
set_option maxHeartbeats 4000000 in
set_option maxRecDepth 100000 in
theorem r_X14_stepN (l : Launch) (dC : Nat → ClassId) (dI : Nat → Nat → Nat) (L : List Nat) (kd : Nat → Nat) (tys : List (ClassId × FieldType)) (f0 : Nat → va_E) (sz : Nat) (hWT : WT L kd tys f0) (a0_ : Nat) (ma0_ : a0_ ∈ L) (ka0_ : kd a0_ = 14) (s_ : Int32) (bs : bd 0 300 s_) (hfx : Fs L kd f0 [(14, 34, a0_, .int s_)]) : MetE l yX14_step (.code yX14_step cX14_step 1 none :: lw_g) ({ frames := 1, cells := 0, slots := 0, locals := 21 }) (va_Pc [.ref a0_] (P3 (dC, dI) L tys f0 sz)) (q3E (dC, dI) L kd tys [(14, 31), (14, 34)] [] f0 sz (pRv (fun (f : Nat → va_E) => (∃ z0_ : Int32, (bd 1 300 z0_ ∧ z0_.toInt = s_.toInt + 1) ∧ Fs L kd f [(14, 34, a0_, .int z0_)]))) (fun (f : Nat → va_E) => True)) 0 0 (pA L sz) := by
  refine MetE.ofW (cc := cX14_step) (maxL := 1) (ret := none) (by decide) rfl ?_
  intro p e s m args below meth c s₁ B hml hempty hv
  obtain ⟨rfl, hsz, hP, hK, hD0⟩ := hv
  have hx := B.exec
  have hb := B.bytes
  have hr := B.returns
  have hts := atoms_spec (ws := (.code yX14_step cX14_step 1 none :: lw_g)) B.pre
  have hown : s.vm.findClass RX14 = some m.cls := findClass_of_methodNamed B.named
  have hlocks := B.notSynchronized
  subst hsz
  have g : G3 (dC, dI) L kd tys s f0 [(14, 31), (14, 34)] [] f0 s.heap [] [(14, 34, a0_, .int s_)] := G3.start hP hD0 hWT hfx
  have hl := lv_entry ([.ref a0_]) (n := 1) (Nat.le_of_ble_eq_true rfl)
  rw [lg_entry_eq]
  generalize (lg_sl ([.ref a0_]) ++ List.replicate (1 - (lg_sl ([.ref a0_])).length) Slot.unset).toArray = ls at hl ⊢
  have hl : lv_has ls 1 [(0, .ref a0_)] := hl
  refine W_q (fun Q hQ => ?_)
  refine lv_aload_n hx hb dX14_step_0 rfl (lv_at hl 0 rfl) ?_
  refine lv_dup hx hb dX14_step_1 rfl ?_
  refine g_getk (C := RX14) (T := TX14) (N := 67) hx hb hts (mc_ inX14) hown hK g rfl 34 (by decide) rfl (hts _ (List.mem_cons_of_mem _ t_2180)) (fun _ h9 => h9) 0 rfl dX14_step_2 ?_
  refine lv_iconst (v := 1) hx hb dX14_step_5 (by decide) ?_
  have kb_1 : bd 1 1 (1 : Int32) := ⟨by decide, by decide⟩
  refine lv_iadd hx hb dX14_step_6 ?_
  refine lv_topi (fun y_1 ey_1 => ?_)
  have ty_1 := add_bd ey_1 bs kb_1 (by decide)
  have b_2 : bd 1 301 y_1 := add_rg ty_1 bs kb_1 (by decide)
  refine g_put (C := RX14) (T := TX14) (N := 67) hx hb hts (mc_ inX14) tyX14 tyX14_ok nmX14 hown hK g ma0_ ka0_ (by decide) rfl 34 (by decide) (hts _ (List.mem_cons_of_mem _ t_2180)) (fun _ h9 => h9) rfl rfl (okV_i (bd_sub b_2 (by decide))) rfl rfl (by decide) (Or.inr (Or.inl (by decide))) (fx' := []) rfl dX14_step_7 (fun f H locs hM_3 g => ?_)
  refine lv_aload_n hx hb dX14_step_10 rfl (lv_at hl 0 rfl) ?_
  refine g_getk (C := RX14) (T := TX14) (N := 67) hx hb hts (mc_ inX14) hown hK g rfl 34 (by decide) rfl (hts _ (List.mem_cons_of_mem _ t_2180)) (fun _ h9 => h9) 0 rfl dX14_step_11 ?_
  refine lv_sipush (v := 300) hx hb dX14_step_14 (by decide) ?_
  have kb_300 : bd 300 300 (300 : Int32) := ⟨by decide, by decide⟩
  refine lv_icmp_le (tgt := 25) hx hb dX14_step_17 (by decide) (fun c_4 => ?_) (fun c_4 => ?_)
  · have fc_4 := le_f c_4
    have b_5 : bd 1 300 y_1 := leL fc_4 b_2 kb_300 (by decide)
    have b_6 : bd 0 299 s_ := add_inv ty_1 b_5 bs kb_1 (by decide)
    subst hQ
    exact W.thenQ (W.vret hx hb hr (fun t ht hW => g_retE g hK ⟨rfl, ⟨y_1, ⟨b_5, (by have h9_0 := b_6; unfold bd at h9_0; have h9_1 := b_5; unfold bd at h9_1; have h8_0 := kb_1; unfold bd at h8_0; have h8_1 := kb_300; unfold bd at h8_1; omega)⟩, (g.fcts [0] rfl)⟩⟩ ht hW) g.2.2.1.2.2 dX14_step_25) (fun _ => MQ.toE)
  · have fc_4 := nle_f c_4
    have b_7 : bd 301 301 y_1 := ltR fc_4 kb_300 b_2 (by decide)
    have b_8 : bd 300 300 s_ := add_inv ty_1 b_7 bs kb_1 (by decide)
    refine lv_aload_n hx hb dX14_step_20 rfl (lv_at hl 0 rfl) ?_
    refine lv_iconst (v := 2) hx hb dX14_step_21 (by decide) ?_
    refine g_callEv (As := [.int 2]) (rest := []) ⟨hx, hb, hml, hown, hts⟩ (r_X14_ends l dC dI L kd tys f H.size g.2.2.2.1 a0_ ma0_ ka0_ 2) (cwV 1 hts (gV_ t_2651 t_2653 t_150 t_198 t_2654) rfl rfl rfl (by decide +kernel) ⟨(Nat.le_of_ble_eq_true rfl), (Nat.le_of_ble_eq_true rfl)⟩) (pre3V g hK ma0_ ka0_ (by decide) (q := (RX14, TX14, 67)) rfl) rfl hl.1 rfl (lv_room (Nat.le_of_ble_eq_true rfl)) dX14_step_22 ⟨(Nat.le_of_ble_eq_true rfl), (Nat.le_of_ble_eq_true rfl)⟩ g hK (by decide) (by decide) (fx' := [(14, 34, a0_, .int y_1)]) rfl (fun xr_9 fr_9 H locs mxr_9 kxr_9 hp hMr_9 g => ?_) (fun fr_9 H locs hp hMr_9 g => ?_)
    · subst hQ
      exact WX.leaves hempty hlocks (fun t ht hW => g_thrE g hK mxr_9 kxr_9 trivial ht hW) g.2.2.1.2.2
    · exact hp.elim
