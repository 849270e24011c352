set_option maxHeartbeats 4000000 in
set_option maxRecDepth 100000 in
theorem r_X10_tryDrawn (l : Launch) (dC : Nat → ClassId) (dI : Nat → Nat → Nat) (L : List Nat) (kd : Nat → Nat) (tys : List (ClassId × FieldType)) (f0 : Nat → va_E) (sz : Nat) (hWT : WT L kd tys f0) (a0_ : Nat) (ma0_ : a0_ ∈ L) (ka0_ : kd a0_ = 10) (x1_ : Int32) (bx1_ : bd 0 7 x1_) (x2_ : Int32) (x3_ : Int32) (q0_ : Nat) (mq0_ : q0_ ∈ L) (kq0_ : kd q0_ = 7) (hGPa0_ : RP L kd f0 a0_) (hGcq0_ : cOK f0 q0_) (hfx : Fs L kd f0 [(10, 0, a0_, .ref q0_)]) : Met l yX10_tryDrawn (.code yX10_tryDrawn cX10_tryDrawn 5 (some .int) :: lw_g) ({ frames := 6, cells := 0, slots := 0, locals := 155 }) (va_Pc [.ref a0_, .int x1_, .int x2_, .int x3_] (P3 (dC, dI) L tys f0 sz)) (va_Qi (fun (r : Int32) (f : Nat → va_E) => (RP L kd f a0_ ∧ bd 0 2147483647 r ∧ True)) (Q3 (dC, dI) L kd tys [(1, 0), (1, 1), (1, 2), (1, 3), (1, 4), (1, 5), (1, 6), (1, 8), (1, 11), (1, 12), (1, 13), (1, 14), (1, 15), (1, 16), (1, 17), (3, 0), (3, 4), (4, 0), (4, 1), (4, 2), (4, 3), (4, 4), (4, 5), (4, 6), (4, 14), (4, 15), (4, 16), (10, 2), (10, 3), (10, 4), (10, 5), (10, 6), (10, 7), (10, 8), (10, 9)] [100, 101, 102, 103, 116, 117, 122, 123, 125, 126, 127, 130, 131, 146] f0 sz) (pA L sz)) 0 0 (pA L sz) := by
  refine Met.ofW (cc := cX10_tryDrawn) (maxL := 5) (ret := (some .int)) (by decide) rfl ?_
  intro p e s m args below meth c s₁ B hml hv
  obtain ⟨rfl, hsz, hP, hK, hD0⟩ := hv
  have hx := B.exec
  have hb := B.bytes
  have hr := B.returns
  have hts := atoms_spec (ws := (.code yX10_tryDrawn cX10_tryDrawn 5 (some .int) :: lw_g)) B.pre
  have hown : s.vm.findClass RX10 = some m.cls := findClass_of_methodNamed B.named
  have hlocks := B.notSynchronized
  subst hsz
  have g : G3 (dC, dI) L kd tys s f0 [(1, 0), (1, 1), (1, 2), (1, 3), (1, 4), (1, 5), (1, 6), (1, 8), (1, 11), (1, 12), (1, 13), (1, 14), (1, 15), (1, 16), (1, 17), (3, 0), (3, 4), (4, 0), (4, 1), (4, 2), (4, 3), (4, 4), (4, 5), (4, 6), (4, 14), (4, 15), (4, 16), (10, 2), (10, 3), (10, 4), (10, 5), (10, 6), (10, 7), (10, 8), (10, 9)] [100, 101, 102, 103, 116, 117, 122, 123, 125, 126, 127, 130, 131, 146] f0 s.heap [] [(10, 0, a0_, .ref q0_)] := G3.start hP hD0 hWT hfx
  have hl := lv_entry ([.ref a0_, .int x1_, .int x2_, .int x3_]) (n := 5) (Nat.le_of_ble_eq_true rfl)
  rw [lg_entry_eq]
  generalize (lg_sl ([.ref a0_, .int x1_, .int x2_, .int x3_]) ++ List.replicate (5 - (lg_sl ([.ref a0_, .int x1_, .int x2_, .int x3_])).length) Slot.unset).toArray = ls at hl ⊢
  have hl : lv_has ls 5 [(0, .ref a0_), (1, .int x1_), (2, .int x2_), (3, .int x3_)] := hl
  refine W_q (fun Q hQ => ?_)
  refine lv_aload_n hx hb dX10_tryDrawn_0 rfl (lv_at hl 0 rfl) ?_
  refine lv_iconst (v := 0) hx hb dX10_tryDrawn_1 (by decide) ?_
  have kb_0 : bd 0 0 (0 : Int32) := ⟨by decide, by decide⟩
  have go_ := g
  refine g_put (C := RX10) (T := TX10) (N := 10) hx hb hts (mc_ inX10) tyX10 tyX10_ok nmX10 hown hK g ma0_ ka0_ (by decide) rfl 6 (by decide) (hts _ (List.mem_cons_of_mem _ t_920)) (fun _ h9 => h9) rfl rfl (okV_i (bd_sub kb_0 (by decide))) rfl rfl (by decide) (Or.inr (Or.inl (by decide))) (fx' := [(10, 0, a0_, .ref q0_)]) rfl dX10_tryDrawn_2 (fun f H locs hM_1 g => ?_)
  have hG_2 := RP.frame hM_1 go_.2.2.2.1 ma0_ ka0_ (by decide) (by decide) hGPa0_
  have hG_3 := cOK.frame hM_1 go_.2.2.2.1 mq0_ kq0_ (by decide) (by decide) hGcq0_
  refine lv_aload_n hx hb dX10_tryDrawn_5 rfl (lv_at hl 0 rfl) ?_
  refine lv_iconst (v := 0) hx hb dX10_tryDrawn_6 (by decide) ?_
  have go_ := g
  refine g_put (C := RX10) (T := TX10) (N := 10) hx hb hts (mc_ inX10) tyX10 tyX10_ok nmX10 hown hK g ma0_ ka0_ (by decide) rfl 7 (by decide) (hts _ (List.mem_cons_of_mem _ t_922)) (fun _ h9 => h9) rfl rfl (okV_i (bd_sub kb_0 (by decide))) rfl rfl (by decide) (Or.inr (Or.inl (by decide))) (fx' := [(10, 6, a0_, .int 0), (10, 0, a0_, .ref q0_)]) rfl dX10_tryDrawn_7 (fun f H locs hM_4 g => ?_)
  have hG_5 := RP.frame hM_4 go_.2.2.2.1 ma0_ ka0_ (by decide) (by decide) hG_2
  have hG_6 := cOK.frame hM_4 go_.2.2.2.1 mq0_ kq0_ (by decide) (by decide) hG_3
  refine lv_iconst (v := 0) hx hb dX10_tryDrawn_10 (by decide) ?_
  refine lv_istore (lv' := [(4, .int 0), (0, .ref a0_), (1, .int x1_), (2, .int x2_), (3, .int x3_)]) hx hb dX10_tryDrawn_11 hl (by decide) rfl (fun ls hl => ?_)
  have loop_7 : ∀ (n : Nat) (v13_4 : Int32), bd 0 2147483647 v13_4 → (2147483647 - v13_4.toInt < (n : Int)) → ∀ (f : Nat → va_E) (H : Heap) (locs : List Loc) (ls : Array Slot), G3 (dC, dI) L kd tys s f0 [(1, 0), (1, 1), (1, 2), (1, 3), (1, 4), (1, 5), (1, 6), (1, 8), (1, 11), (1, 12), (1, 13), (1, 14), (1, 15), (1, 16), (1, 17), (3, 0), (3, 4), (4, 0), (4, 1), (4, 2), (4, 3), (4, 4), (4, 5), (4, 6), (4, 14), (4, 15), (4, 16), (10, 2), (10, 3), (10, 4), (10, 5), (10, 6), (10, 7), (10, 8), (10, 9)] [100, 101, 102, 103, 116, 117, 122, 123, 125, 126, 127, 130, 131, 146] f H locs [(10, 0, a0_, .ref q0_)] → RP L kd f a0_ → cOK f q0_ → lv_has ls 5 [(4, .int v13_4), (0, .ref a0_), (1, .int x1_), (2, .int x2_), (3, .int x3_)] → W p l e ({ frames := 6, cells := 0, slots := 0, locals := 155 } : Room) s m [.ref a0_, .int x1_, .int x2_, .int x3_].toArray below meth c H locs 0 0 Q (F0 m 13 ls []) := by
    intro n13
    induction n13 with
    | zero =>
      intro v13_4 bv13_4 hm13 f H locs ls g hG13_P_a0_ hG13_c_q0_ hl
      exact absurd hm13 (by have h9_v13_4 := bv13_4; unfold bd at h9_v13_4; omega)
    | succ n13 ih13 =>
      intro v13_4 bv13_4 hm13 f H locs ls g hG13_P_a0_ hG13_c_q0_ hl
      refine lv_iload hx hb dX10_tryDrawn_13 (lv_at hl 0 rfl) ?_
      refine lv_iload_n hx hb dX10_tryDrawn_15 rfl (lv_at hl 4 rfl) ?_
      refine lv_icmp_ge (tgt := 76) hx hb dX10_tryDrawn_16 (by decide) (fun c_8 => ?_) (fun c_8 => ?_)
      · have fc_8 := le_f c_8
        refine lv_iconst (v := 0) hx hb dX10_tryDrawn_76 (by decide) ?_
        subst hQ
        exact W.iret (v := 0) hx hb hr (fun t ht hW => ⟨⟨_, _, rfl, ⟨hG13_P_a0_, (bd_sub kb_0 (by decide)), trivial⟩, q3_of g hK ht hW⟩, g.2.2.1.F ht⟩) g.2.2.1.2.2 dX10_tryDrawn_77
      · have fc_8 := nle_f c_8
        have b_9 : bd 0 2147483646 v13_4 := ltL fc_8 bv13_4 (bdT x3_) (by decide)
        have b_10 : bd 1 2147483647 x3_ := ltR fc_8 bv13_4 (bdT x3_) (by decide)
        refine lv_aload_n hx hb dX10_tryDrawn_19 rfl (lv_at hl 1 rfl) ?_
        refine lv_iload_n hx hb dX10_tryDrawn_20 rfl (lv_at hl 2 rfl) ?_
        refine lv_iload_n hx hb dX10_tryDrawn_21 rfl (lv_at hl 3 rfl) ?_
        refine lv_sipush (v := 7919) hx hb dX10_tryDrawn_22 (by decide) ?_
        refine lv_iload hx hb dX10_tryDrawn_25 (lv_at hl 0 rfl) ?_
        refine lv_imul hx hb dX10_tryDrawn_27 ?_
        refine lv_topi (fun y_11 ey_11 => ?_)
        refine lv_iadd hx hb dX10_tryDrawn_28 ?_
        refine lv_topi (fun y_12 ey_12 => ?_)
        have go_ := g
        refine g_callv (va_runV (As := [.int x1_, .int y_12]) (rest := []) ⟨hx, hb, hml, hown, hts⟩ (r_X10_drawRow l dC dI L kd tys f H.size g.2.2.2.1 a0_ ma0_ ka0_ x1_ bx1_ y_12 hG13_P_a0_) (cwV 2 hts (gV_ t_1674 t_1676 t_79 t_194 t_1677) rfl rfl rfl (by decide +kernel) ⟨(Nat.le_of_ble_eq_true rfl), (Nat.le_of_ble_eq_true rfl)⟩) (pre3V g hK ma0_ ka0_ (by decide) (q := (RX10, TX10, 10)) rfl) rfl rfl hl.1 rfl (lv_room (Nat.le_of_ble_eq_true rfl)) dX10_tryDrawn_29 ⟨(Nat.le_of_ble_eq_true rfl), (Nat.le_of_ble_eq_true rfl)⟩) g hK (by decide) (by decide) (fx' := [(10, 0, a0_, .ref q0_)]) rfl (fun fr_13 H locs hp hMr_13 g => ?_)
        obtain ⟨hG_14, -⟩ := hp
        have hG_15 := cOK.frame hMr_13 go_.2.2.2.1 mq0_ kq0_ (by decide) (by decide) hG13_c_q0_
        refine lv_aload_n hx hb dX10_tryDrawn_32 rfl (lv_at hl 1 rfl) ?_
        refine lv_aload_n hx hb dX10_tryDrawn_33 rfl (lv_at hl 1 rfl) ?_
        refine g_getr (K := 3) (C := RX10) (T := TX10) (N := 10) hx hb hts (mc_ inX10) hown hK g ma0_ ka0_ (by decide) rfl 3 (by decide) rfl (hts _ (List.mem_cons_of_mem _ t_916)) (fun _ h9 => h9) rfl dX10_tryDrawn_34 (fun a_16 ma_16 ka_16 g => ?_)
        refine lv_aload_n hx hb dX10_tryDrawn_37 rfl (lv_at hl 1 rfl) ?_
        refine g_getr (K := 4) (C := RX10) (T := TX10) (N := 10) hx hb hts (mc_ inX10) hown hK g ma0_ ka0_ (by decide) rfl 5 (by decide) rfl (hts _ (List.mem_cons_of_mem _ t_919)) (fun _ h9 => h9) rfl dX10_tryDrawn_38 (fun a_17 ma_17 ka_17 g => ?_)
        have go_ := g
        refine g_callv (va_runV (As := [.ref a_16, .ref a_17]) (rest := []) ⟨hx, hb, hml, hown, hts⟩ (r_X10_runThrough l dC dI L kd tys fr_13 H.size g.2.2.2.1 a0_ ma0_ ka0_ a_16 ma_16 ka_16 a_17 ma_17 ka_17 q0_ mq0_ kq0_ hG_15 (g.fcts [2] rfl)) (cwV 2 hts (gV_ t_1526 t_1528 t_54 t_194 t_1529) rfl rfl rfl (by decide +kernel) ⟨(Nat.le_of_ble_eq_true rfl), (Nat.le_of_ble_eq_true rfl)⟩) (pre3V g hK ma0_ ka0_ (by decide) (q := (RX10, TX10, 10)) rfl) rfl rfl hl.1 rfl (lv_room (Nat.le_of_ble_eq_true rfl)) dX10_tryDrawn_41 ⟨(Nat.le_of_ble_eq_true rfl), (Nat.le_of_ble_eq_true rfl)⟩) g hK (by decide) (by decide) (fx' := [(10, 5, a0_, .ref a_17), (10, 3, a0_, .ref a_16), (10, 0, a0_, .ref q0_)]) rfl (fun fr_18 H locs hp hMr_18 g => ?_)
        obtain ⟨x_19, h_20, x_21, h_22, x_23, h_24, x_25, h_26, x_27, h_28, x_29, h_30, hF_31⟩ := hp
        have hG_32 := RP.frame hMr_18 go_.2.2.2.1 ma0_ ka0_ (by decide) (by decide) hG_14
        have hG_33 := cOK.frame hMr_18 go_.2.2.2.1 mq0_ kq0_ (by decide) (by decide) hG_15
        have g := g.more hF_31
        refine lv_aload_n hx hb dX10_tryDrawn_44 rfl (lv_at hl 1 rfl) ?_
        have go_ := g
        refine g_callv (va_runV (As := []) (rest := []) ⟨hx, hb, hml, hown, hts⟩ (r_X10_countSpare l dC dI L kd tys fr_18 H.size g.2.2.2.1 a0_ ma0_ ka0_) (cwV 0 hts (gV_ t_1699 t_1701 t_83 t_194 t_1702) rfl rfl rfl (by decide +kernel) ⟨(Nat.le_of_ble_eq_true rfl), (Nat.le_of_ble_eq_true rfl)⟩) (pre3V g hK ma0_ ka0_ (by decide) (q := (RX10, TX10, 10)) rfl) rfl rfl hl.1 rfl (lv_room (Nat.le_of_ble_eq_true rfl)) dX10_tryDrawn_45 ⟨(Nat.le_of_ble_eq_true rfl), (Nat.le_of_ble_eq_true rfl)⟩) g hK (by decide) (by decide) (fx' := [(4, 14, a_17, .int x_19), (4, 4, a_17, .int x_21), (4, 3, a_17, .int x_23), (4, 2, a_17, .int x_25), (4, 1, a_17, .int x_27), (4, 0, a_17, .int x_29), (10, 5, a0_, .ref a_17), (10, 3, a0_, .ref a_16), (10, 0, a0_, .ref q0_)]) rfl (fun fr_34 H locs hp hMr_34 g => ?_)
        have hG_35 := RP.frame hMr_34 go_.2.2.2.1 ma0_ ka0_ (by decide) (by decide) hG_32
        have hG_36 := cOK.frame hMr_34 go_.2.2.2.1 mq0_ kq0_ (by decide) (by decide) hG_33
        refine lv_aload_n hx hb dX10_tryDrawn_48 rfl (lv_at hl 1 rfl) ?_
        have go_ := g
        refine g_callv (va_runV (As := []) (rest := []) ⟨hx, hb, hml, hown, hts⟩ (r_X10_tellOfSpare l dC dI L kd tys fr_34 H.size g.2.2.2.1 a0_ ma0_ ka0_ hG_35) (cwV 0 hts (gV_ t_1703 t_1705 t_84 t_194 t_1706) rfl rfl rfl (by decide +kernel) ⟨(Nat.le_of_ble_eq_true rfl), (Nat.le_of_ble_eq_true rfl)⟩) (pre3V g hK ma0_ ka0_ (by decide) (q := (RX10, TX10, 10)) rfl) rfl rfl hl.1 rfl (lv_room (Nat.le_of_ble_eq_true rfl)) dX10_tryDrawn_49 ⟨(Nat.le_of_ble_eq_true rfl), (Nat.le_of_ble_eq_true rfl)⟩) g hK (by decide) (by decide) (fx' := [(4, 14, a_17, .int x_19), (4, 4, a_17, .int x_21), (4, 3, a_17, .int x_23), (4, 2, a_17, .int x_25), (4, 1, a_17, .int x_27), (4, 0, a_17, .int x_29), (10, 0, a0_, .ref q0_)]) rfl (fun fr_37 H locs hp hMr_37 g => ?_)
        obtain ⟨hG_38, hF_39⟩ := hp
        have hG_40 := cOK.frame hMr_37 go_.2.2.2.1 mq0_ kq0_ (by decide) (by decide) hG_36
        have g := g.more hF_39
        refine lv_aload_n hx hb dX10_tryDrawn_52 rfl (lv_at hl 1 rfl) ?_
        refine g_getr (K := 4) (C := RX10) (T := TX10) (N := 10) hx hb hts (mc_ inX10) hown hK g ma0_ ka0_ (by decide) rfl 4 (by decide) rfl (hts _ (List.mem_cons_of_mem _ t_917)) (fun _ h9 => h9) rfl dX10_tryDrawn_53 (fun a_41 ma_41 ka_41 g => ?_)
        refine g_geti (C := RX4) (T := TX4) (N := 17) hx hb hts (mc_ inX4) hown hK g ma_41 ka_41 (by decide) rfl 0 (by decide) rfl (hts _ (List.mem_cons_of_mem _ t_837)) (fun _ h9 => h9) rfl dX10_tryDrawn_56 (fun x_42 bx_42 g => ?_)
        refine lv_if_le (tgt := 70) hx hb dX10_tryDrawn_59 (by decide) (fun c_43 => ?_) (fun c_43 => ?_)
        · have fc_43 := le_f c_43
          have b_44 : bd (-2147483648) 0 x_42 := leL fc_43 (bdT x_42) kb_0 (by decide)
          have kb_1 : bd 1 1 (1 : Int32) := ⟨by decide, by decide⟩
          obtain ⟨y_45, ey_45⟩ : ∃ z : Int32, z = v13_4 + 1 := ⟨_, rfl⟩
          refine lv_iinc (v := y_45) (lv' := [(4, .int y_45), (0, .ref a0_), (1, .int x1_), (2, .int x2_), (3, .int x3_)]) hx hb dX10_tryDrawn_70 hl (k := 0) rfl (by rw [ey_45]; rfl) (by decide) rfl (fun ls hl => ?_)
          have ty_45 := add_bd ey_45 b_9 kb_1 (by decide)
          have b_46 : bd 1 2147483647 y_45 := add_rg ty_45 b_9 kb_1 (by decide)
          refine lv_goto (tgt := 13) hx hb dX10_tryDrawn_73 (by decide) ?_
          have hl9 := lv_sub hl [0, 1, 2, 3, 4] (by rfl : lv_pick [(4, .int y_45), (0, .ref a0_), (1, .int x1_), (2, .int x2_), (3, .int x3_)] [0, 1, 2, 3, 4] = [(4, .int y_45), (0, .ref a0_), (1, .int x1_), (2, .int x2_), (3, .int x3_)])
          have g9 := g.sub (fx' := [(10, 0, a0_, .ref q0_)]) [9] rfl
          exact ih13  y_45 (bd_sub b_46 (by decide)) (by have h9_0 := b_46; unfold bd at h9_0; have h9_1 := bv13_4; unfold bd at h9_1; have h9_2 := kb_0; unfold bd at h9_2; have h9_3 := kb_1; unfold bd at h9_3; omega) _ _ _ _ g9 hG_38 hG_40 hl9
        · have fc_43 := nle_f c_43
          have b_47 : bd 1 2147483647 x_42 := ltR fc_43 kb_0 (bdT x_42) (by decide)
          refine lv_aload_n hx hb dX10_tryDrawn_62 rfl (lv_at hl 1 rfl) ?_
          refine g_getk (C := RX10) (T := TX10) (N := 10) hx hb hts (mc_ inX10) hown hK g rfl 4 (by decide) rfl (hts _ (List.mem_cons_of_mem _ t_917)) (fun _ h9 => h9) 1 rfl dX10_tryDrawn_63 ?_
          refine g_getk (C := RX4) (T := TX4) (N := 17) hx hb hts (mc_ inX4) hown hK g rfl 0 (by decide) rfl (hts _ (List.mem_cons_of_mem _ t_837)) (fun _ h9 => h9) 0 rfl dX10_tryDrawn_66 ?_
          subst hQ
          exact W.iret (v := x_42) hx hb hr (fun t ht hW => ⟨⟨_, _, rfl, ⟨hG_38, (bd_sub b_47 (by decide)), trivial⟩, q3_of g hK ht hW⟩, g.2.2.1.F ht⟩) g.2.2.1.2.2 dX10_tryDrawn_69
  have hl9 := lv_sub hl [0, 1, 2, 3, 4] (by rfl : lv_pick [(4, .int 0), (0, .ref a0_), (1, .int x1_), (2, .int x2_), (3, .int x3_)] [0, 1, 2, 3, 4] = [(4, .int 0), (0, .ref a0_), (1, .int x1_), (2, .int x2_), (3, .int x3_)])
  have g9 := g.sub (fx' := [(10, 0, a0_, .ref q0_)]) [2] rfl
  exact loop_7 (4294967297) 0 (bd_sub kb_0 (by decide)) (by have h9_0 := kb_0; unfold bd at h9_0; omega) _ _ _ _ g9 hG_5 hG_6 hl9
set_option maxHeartbeats 4000000 in
set_option maxRecDepth 100000 in
theorem r_X11_draw (l : Launch) (dC : Nat → ClassId) (dI : Nat → Nat → Nat) (L : List Nat) (kd : Nat → Nat) (tys : List (ClassId × FieldType)) (f0 : Nat → va_E) (sz : Nat) (hWT : WT L kd tys f0) (a0_ : Nat) (ma0_ : a0_ ∈ L) (ka0_ : kd a0_ = 11) (x1_ : Int32) (x2_ : Int32) (x3_ : Int32) (q0_ : Nat) (mq0_ : q0_ ∈ L) (kq0_ : kd q0_ = 10) (q1_ : Nat) (mq1_ : q1_ ∈ L) (kq1_ : kd q1_ = 7) (hGPq0_ : RP L kd f0 q0_) (hGcq1_ : cOK f0 q1_) (hfx : Fs L kd f0 [(11, 3, a0_, .ref q0_), (10, 0, q0_, .ref q1_)]) : Met l yX11_draw (.code yX11_draw cX11_draw 4 (some .int) :: lw_g) ({ frames := 7, cells := 0, slots := 0, locals := 179 }) (va_Pc [.ref a0_, .int x1_, .int x2_, .int x3_] (P3 (dC, dI) L tys f0 sz)) (va_Qi (fun (r : Int32) (f : Nat → va_E) => (RP L kd f q0_ ∧ bd (-2) 2147483647 r ∧ True)) (Q3 (dC, dI) L kd tys [(1, 0), (1, 1), (1, 2), (1, 3), (1, 4), (1, 5), (1, 6), (1, 8), (1, 11), (1, 12), (1, 13), (1, 14), (1, 15), (1, 16), (1, 17), (3, 0), (3, 4), (4, 0), (4, 1), (4, 2), (4, 3), (4, 4), (4, 5), (4, 6), (4, 14), (4, 15), (4, 16), (10, 2), (10, 3), (10, 4), (10, 5), (10, 6), (10, 7), (10, 8), (10, 9)] [100, 101, 102, 103, 116, 117, 122, 123, 125, 126, 127, 130, 131, 146] f0 sz) (pA L sz)) 0 0 (pA L sz) := by
  refine Met.ofW (cc := cX11_draw) (maxL := 4) (ret := (some .int)) (by decide) rfl ?_
  intro p e s m args below meth c s₁ B hml hv
  obtain ⟨rfl, hsz, hP, hK, hD0⟩ := hv
  have hx := B.exec
  have hb := B.bytes
  have hr := B.returns
  have hts := atoms_spec (ws := (.code yX11_draw cX11_draw 4 (some .int) :: lw_g)) B.pre
  have hown : s.vm.findClass RX11 = some m.cls := findClass_of_methodNamed B.named
  have hlocks := B.notSynchronized
  subst hsz
  have g : G3 (dC, dI) L kd tys s f0 [(1, 0), (1, 1), (1, 2), (1, 3), (1, 4), (1, 5), (1, 6), (1, 8), (1, 11), (1, 12), (1, 13), (1, 14), (1, 15), (1, 16), (1, 17), (3, 0), (3, 4), (4, 0), (4, 1), (4, 2), (4, 3), (4, 4), (4, 5), (4, 6), (4, 14), (4, 15), (4, 16), (10, 2), (10, 3), (10, 4), (10, 5), (10, 6), (10, 7), (10, 8), (10, 9)] [100, 101, 102, 103, 116, 117, 122, 123, 125, 126, 127, 130, 131, 146] f0 s.heap [] [(11, 3, a0_, .ref q0_), (10, 0, q0_, .ref q1_)] := G3.start hP hD0 hWT hfx
  have hl := lv_entry ([.ref a0_, .int x1_, .int x2_, .int x3_]) (n := 4) (Nat.le_of_ble_eq_true rfl)
  rw [lg_entry_eq]
  generalize (lg_sl ([.ref a0_, .int x1_, .int x2_, .int x3_]) ++ List.replicate (4 - (lg_sl ([.ref a0_, .int x1_, .int x2_, .int x3_])).length) Slot.unset).toArray = ls at hl ⊢
  have hl : lv_has ls 4 [(0, .ref a0_), (1, .int x1_), (2, .int x2_), (3, .int x3_)] := hl
  refine W_q (fun Q hQ => ?_)
  refine lv_aload_n hx hb dX11_draw_0 rfl (lv_at hl 0 rfl) ?_
  refine g_getr (K := 7) (C := RX11) (T := TX11) (N := 8) hx hb hts (mc_ inX11) hown hK g ma0_ ka0_ (by decide) rfl 4 (by decide) rfl (hts _ (List.mem_cons_of_mem _ t_952)) (fun _ h9 => h9) rfl dX11_draw_1 (fun a_1 ma_1 ka_1 g => ?_)
  refine lv_iload_n hx hb dX11_draw_4 rfl (lv_at hl 1 rfl) ?_
  have go_ := g
  refine g_calli (va_runV (As := [.int x1_]) (rest := []) ⟨hx, hb, hml, hown, hts⟩ (r_X7_hasClass l dC dI L kd tys f0 s.heap.size g.2.2.2.1 a_1 ma_1 ka_1 x1_) (cwV 1 hts (gV_ t_1442 t_1281 t_1282 t_191 t_1283) rfl rfl rfl (by decide +kernel) ⟨(Nat.le_of_ble_eq_true rfl), (Nat.le_of_ble_eq_true rfl)⟩) (pre3V g hK ma_1 ka_1 (by decide) (q := (RX7, TX7, 19)) rfl) rfl rfl hl.1 rfl (lv_room (Nat.le_of_ble_eq_true rfl)) dX11_draw_5 ⟨(Nat.le_of_ble_eq_true rfl), (Nat.le_of_ble_eq_true rfl)⟩) g hK (by decide) (by decide) (fx' := [(11, 4, a0_, .ref a_1), (11, 3, a0_, .ref q0_), (10, 0, q0_, .ref q1_)]) rfl (fun r_2 fr_2 H locs hp hMr_2 g => ?_)
  rcases hp with ⟨h_3, -⟩ | ⟨h_4, h_5, x_6, h_7, hF_8⟩
  · have hG_9 := RP.frame hMr_2 go_.2.2.2.1 mq0_ kq0_ (by decide) (by decide) hGPq0_
    have hG_10 := cOK.frame hMr_2 go_.2.2.2.1 mq1_ kq1_ (by decide) (by decide) hGcq1_
    obtain rfl : r_2 = 0 := h_3
    refine lv_if_eq (tgt := 22) hx hb dX11_draw_8 (by decide) (fun c_ => ?_) (fun c_ => absurd (by decide) c_)
    refine lv_bipush (v := (-2)) hx hb dX11_draw_22 (by decide) ?_
    have kb_m2 : bd (-2) (-2) ((-2) : Int32) := ⟨by decide, by decide⟩
    subst hQ
    exact W.iret (v := (-2)) hx hb hr (fun t ht hW => ⟨⟨_, _, rfl, ⟨hG_9, (bd_sub kb_m2 (by decide)), trivial⟩, q3_of g hK ht hW⟩, g.2.2.1.F ht⟩) g.2.2.1.2.2 dX11_draw_24
  · have hG_11 := RP.frame hMr_2 go_.2.2.2.1 mq0_ kq0_ (by decide) (by decide) hGPq0_
    have hG_12 := cOK.frame hMr_2 go_.2.2.2.1 mq1_ kq1_ (by decide) (by decide) hGcq1_
    obtain rfl : r_2 = 1 := h_4
    have b_13 : bd 0 7 x1_ := eqX rfl (bdT x1_) h_5 (by decide)
    have g := g.more hF_8
    refine lv_if_eq (tgt := 22) hx hb dX11_draw_8 (by decide) (fun c_ => absurd c_ (by decide)) (fun c_ => ?_)
    refine lv_iload_n hx hb dX11_draw_11 rfl (lv_at hl 3 rfl) ?_
    refine lv_iconst (v := 1) hx hb dX11_draw_12 (by decide) ?_
    have kb_1 : bd 1 1 (1 : Int32) := ⟨by decide, by decide⟩
    refine lv_icmp_lt (tgt := 22) hx hb dX11_draw_13 (by decide) (fun c_14 => ?_) (fun c_14 => ?_)
    · have fc_14 := lt_f c_14
      have b_15 : bd (-2147483648) 0 x3_ := ltL fc_14 (bdT x3_) kb_1 (by decide)
      refine lv_bipush (v := (-2)) hx hb dX11_draw_22 (by decide) ?_
      have kb_m2 : bd (-2) (-2) ((-2) : Int32) := ⟨by decide, by decide⟩
      subst hQ
      exact W.iret (v := (-2)) hx hb hr (fun t ht hW => ⟨⟨_, _, rfl, ⟨hG_11, (bd_sub kb_m2 (by decide)), trivial⟩, q3_of g hK ht hW⟩, g.2.2.1.F ht⟩) g.2.2.1.2.2 dX11_draw_24
    · have fc_14 := nlt_f c_14
      have b_16 : bd 1 2147483647 x3_ := leR fc_14 kb_1 (bdT x3_) (by decide)
      refine lv_iload_n hx hb dX11_draw_16 rfl (lv_at hl 3 rfl) ?_
      refine lv_bipush (v := 100) hx hb dX11_draw_17 (by decide) ?_
      have kb_100 : bd 100 100 (100 : Int32) := ⟨by decide, by decide⟩
      refine lv_icmp_le (tgt := 25) hx hb dX11_draw_19 (by decide) (fun c_17 => ?_) (fun c_17 => ?_)
      · have fc_17 := le_f c_17
        have b_18 : bd 1 100 x3_ := leL fc_17 b_16 kb_100 (by decide)
        refine lv_aload_n hx hb dX11_draw_25 rfl (lv_at hl 0 rfl) ?_
        refine g_getk (C := RX11) (T := TX11) (N := 8) hx hb hts (mc_ inX11) hown hK g rfl 3 (by decide) rfl (hts _ (List.mem_cons_of_mem _ t_951)) (fun _ h9 => h9) 2 rfl dX11_draw_26 ?_
        refine lv_iload_n hx hb dX11_draw_29 rfl (lv_at hl 1 rfl) ?_
        refine lv_iload_n hx hb dX11_draw_30 rfl (lv_at hl 2 rfl) ?_
        refine lv_iload_n hx hb dX11_draw_31 rfl (lv_at hl 3 rfl) ?_
        have go_ := g
        refine g_calli (va_runV (As := [.int x1_, .int x2_, .int x3_]) (rest := []) ⟨hx, hb, hml, hown, hts⟩ (r_X10_tryDrawn l dC dI L kd tys fr_2 H.size g.2.2.2.1 q0_ mq0_ kq0_ x1_ b_13 x2_ x3_ q1_ mq1_ kq1_ hG_11 hG_12 (g.fcts [3] rfl)) (cwV 3 hts (gV_ t_1670 t_1671 t_1672 t_194 t_1673) rfl rfl rfl (by decide +kernel) ⟨(Nat.le_of_ble_eq_true rfl), (Nat.le_of_ble_eq_true rfl)⟩) (pre3V g hK mq0_ kq0_ (by decide) (q := (RX10, TX10, 10)) rfl) rfl rfl hl.1 rfl (lv_room (Nat.le_of_ble_eq_true rfl)) dX11_draw_32 ⟨(Nat.le_of_ble_eq_true rfl), (Nat.le_of_ble_eq_true rfl)⟩) g hK (by decide) (by decide) (fx' := [(7, 1, a_1, .int x_6), (11, 4, a0_, .ref a_1), (11, 3, a0_, .ref q0_), (10, 0, q0_, .ref q1_)]) rfl (fun r_19 fr_19 H locs hp hMr_19 g => ?_)
        obtain ⟨hG_20, h_21, -⟩ := hp
        have hG_22 := cOK.frame hMr_19 go_.2.2.2.1 mq1_ kq1_ (by decide) (by decide) hG_12
        subst hQ
        exact W.iret (v := r_19) hx hb hr (fun t ht hW => ⟨⟨_, _, rfl, ⟨hG_20, (bd_sub h_21 (by decide)), trivial⟩, q3_of g hK ht hW⟩, g.2.2.1.F ht⟩) g.2.2.1.2.2 dX11_draw_35
      · have fc_17 := nle_f c_17
        have b_23 : bd 101 2147483647 x3_ := ltR fc_17 kb_100 b_16 (by decide)
        refine lv_bipush (v := (-2)) hx hb dX11_draw_22 (by decide) ?_
        have kb_m2 : bd (-2) (-2) ((-2) : Int32) := ⟨by decide, by decide⟩
        subst hQ
        exact W.iret (v := (-2)) hx hb hr (fun t ht hW => ⟨⟨_, _, rfl, ⟨hG_11, (bd_sub kb_m2 (by decide)), trivial⟩, q3_of g hK ht hW⟩, g.2.2.1.F ht⟩) g.2.2.1.2.2 dX11_draw_24
set_option maxHeartbeats 4000000 in
set_option maxRecDepth 100000 in
theorem r_X11_tried (l : Launch) (dC : Nat → ClassId) (dI : Nat → Nat → Nat) (L : List Nat) (kd : Nat → Nat) (tys : List (ClassId × FieldType)) (f0 : Nat → va_E) (sz : Nat) (hWT : WT L kd tys f0) (a0_ : Nat) (ma0_ : a0_ ∈ L) (ka0_ : kd a0_ = 11) : Met l yX11_tried (.code yX11_tried cX11_tried 1 (some .int) :: lw_g) ({ frames := 0, cells := 0, slots := 0, locals := 0 }) (va_Pc [.ref a0_] (P3 (dC, dI) L tys f0 sz)) (va_Qi (fun (r : Int32) (f : Nat → va_E) => (True)) (Q3 (dC, dI) L kd tys [] [] f0 sz) (pA L sz)) 0 0 (pA L sz) := by
  refine Met.ofW (cc := cX11_tried) (maxL := 1) (ret := (some .int)) (by decide) rfl ?_
  intro p e s m args below meth c s₁ B hml hv
  obtain ⟨rfl, hsz, hP, hK, hD0⟩ := hv
  have hx := B.exec
  have hb := B.bytes
  have hr := B.returns
  have hts := atoms_spec (ws := (.code yX11_tried cX11_tried 1 (some .int) :: lw_g)) B.pre
  have hown : s.vm.findClass RX11 = some m.cls := findClass_of_methodNamed B.named
  have hlocks := B.notSynchronized
  subst hsz
  have g : G3 (dC, dI) L kd tys s f0 [] [] f0 s.heap [] [] := G3.start hP hD0 hWT Fs.nil
  have hl := lv_entry ([.ref a0_]) (n := 1) (Nat.le_of_ble_eq_true rfl)
  rw [lg_entry_eq]
  generalize (lg_sl ([.ref a0_]) ++ List.replicate (1 - (lg_sl ([.ref a0_])).length) Slot.unset).toArray = ls at hl ⊢
  have hl : lv_has ls 1 [(0, .ref a0_)] := hl
  refine W_q (fun Q hQ => ?_)
  refine lv_aload_n hx hb dX11_tried_0 rfl (lv_at hl 0 rfl) ?_
  refine g_getr (K := 10) (C := RX11) (T := TX11) (N := 8) hx hb hts (mc_ inX11) hown hK g ma0_ ka0_ (by decide) rfl 3 (by decide) rfl (hts _ (List.mem_cons_of_mem _ t_951)) (fun _ h9 => h9) rfl dX11_tried_1 (fun a_1 ma_1 ka_1 g => ?_)
  refine g_geti (C := RX10) (T := TX10) (N := 10) hx hb hts (mc_ inX10) hown hK g ma_1 ka_1 (by decide) rfl 6 (by decide) rfl (hts _ (List.mem_cons_of_mem _ t_921)) (fun _ h9 => h9) rfl dX11_tried_4 (fun x_2 bx_2 g => ?_)
  subst hQ
  exact W.iret (v := x_2) hx hb hr (fun t ht hW => ⟨⟨_, _, rfl, trivial, q3_of g hK ht hW⟩, g.2.2.1.F ht⟩) g.2.2.1.2.2 dX11_tried_7
set_option maxHeartbeats 4000000 in
set_option maxRecDepth 100000 in
theorem r_X11_cut (l : Launch) (dC : Nat → ClassId) (dI : Nat → Nat → Nat) (L : List Nat) (kd : Nat → Nat) (tys : List (ClassId × FieldType)) (f0 : Nat → va_E) (sz : Nat) (hWT : WT L kd tys f0) (a0_ : Nat) (ma0_ : a0_ ∈ L) (ka0_ : kd a0_ = 11) : Met l yX11_cut (.code yX11_cut cX11_cut 1 (some .int) :: lw_g) ({ frames := 0, cells := 0, slots := 0, locals := 0 }) (va_Pc [.ref a0_] (P3 (dC, dI) L tys f0 sz)) (va_Qi (fun (r : Int32) (f : Nat → va_E) => (True)) (Q3 (dC, dI) L kd tys [] [] f0 sz) (pA L sz)) 0 0 (pA L sz) := by
  refine Met.ofW (cc := cX11_cut) (maxL := 1) (ret := (some .int)) (by decide) rfl ?_
  intro p e s m args below meth c s₁ B hml hv
  obtain ⟨rfl, hsz, hP, hK, hD0⟩ := hv
  have hx := B.exec
  have hb := B.bytes
  have hr := B.returns
  have hts := atoms_spec (ws := (.code yX11_cut cX11_cut 1 (some .int) :: lw_g)) B.pre
  have hown : s.vm.findClass RX11 = some m.cls := findClass_of_methodNamed B.named
  have hlocks := B.notSynchronized
  subst hsz
  have g : G3 (dC, dI) L kd tys s f0 [] [] f0 s.heap [] [] := G3.start hP hD0 hWT Fs.nil
  have hl := lv_entry ([.ref a0_]) (n := 1) (Nat.le_of_ble_eq_true rfl)
  rw [lg_entry_eq]
  generalize (lg_sl ([.ref a0_]) ++ List.replicate (1 - (lg_sl ([.ref a0_])).length) Slot.unset).toArray = ls at hl ⊢
  have hl : lv_has ls 1 [(0, .ref a0_)] := hl
  refine W_q (fun Q hQ => ?_)
  refine lv_aload_n hx hb dX11_cut_0 rfl (lv_at hl 0 rfl) ?_
  refine g_getr (K := 10) (C := RX11) (T := TX11) (N := 8) hx hb hts (mc_ inX11) hown hK g ma0_ ka0_ (by decide) rfl 3 (by decide) rfl (hts _ (List.mem_cons_of_mem _ t_951)) (fun _ h9 => h9) rfl dX11_cut_1 (fun a_1 ma_1 ka_1 g => ?_)
  refine g_geti (C := RX10) (T := TX10) (N := 10) hx hb hts (mc_ inX10) hown hK g ma_1 ka_1 (by decide) rfl 7 (by decide) rfl (hts _ (List.mem_cons_of_mem _ t_923)) (fun _ h9 => h9) rfl dX11_cut_4 (fun x_2 bx_2 g => ?_)
  subst hQ
  exact W.iret (v := x_2) hx hb hr (fun t ht hW => ⟨⟨_, _, rfl, trivial, q3_of g hK ht hW⟩, g.2.2.1.F ht⟩) g.2.2.1.2.2 dX11_cut_7
set_option maxHeartbeats 4000000 in
set_option maxRecDepth 100000 in
theorem r_X11_verdict (l : Launch) (dC : Nat → ClassId) (dI : Nat → Nat → Nat) (L : List Nat) (kd : Nat → Nat) (tys : List (ClassId × FieldType)) (f0 : Nat → va_E) (sz : Nat) (hWT : WT L kd tys f0) (a0_ : Nat) (ma0_ : a0_ ∈ L) (ka0_ : kd a0_ = 11) : Met l yX11_verdict (.code yX11_verdict cX11_verdict 1 (some .int) :: lw_g) ({ frames := 0, cells := 0, slots := 0, locals := 0 }) (va_Pc [.ref a0_] (P3 (dC, dI) L tys f0 sz)) (va_Qi (fun (r : Int32) (f : Nat → va_E) => (True)) (Q3 (dC, dI) L kd tys [] [] f0 sz) (pA L sz)) 0 0 (pA L sz) := by
  refine Met.ofW (cc := cX11_verdict) (maxL := 1) (ret := (some .int)) (by decide) rfl ?_
  intro p e s m args below meth c s₁ B hml hv
  obtain ⟨rfl, hsz, hP, hK, hD0⟩ := hv
  have hx := B.exec
  have hb := B.bytes
  have hr := B.returns
  have hts := atoms_spec (ws := (.code yX11_verdict cX11_verdict 1 (some .int) :: lw_g)) B.pre
  have hown : s.vm.findClass RX11 = some m.cls := findClass_of_methodNamed B.named
  have hlocks := B.notSynchronized
  subst hsz
  have g : G3 (dC, dI) L kd tys s f0 [] [] f0 s.heap [] [] := G3.start hP hD0 hWT Fs.nil
  have hl := lv_entry ([.ref a0_]) (n := 1) (Nat.le_of_ble_eq_true rfl)
  rw [lg_entry_eq]
  generalize (lg_sl ([.ref a0_]) ++ List.replicate (1 - (lg_sl ([.ref a0_])).length) Slot.unset).toArray = ls at hl ⊢
  have hl : lv_has ls 1 [(0, .ref a0_)] := hl
  refine W_q (fun Q hQ => ?_)
  refine lv_aload_n hx hb dX11_verdict_0 rfl (lv_at hl 0 rfl) ?_
  refine g_getr (K := 10) (C := RX11) (T := TX11) (N := 8) hx hb hts (mc_ inX11) hown hK g ma0_ ka0_ (by decide) rfl 3 (by decide) rfl (hts _ (List.mem_cons_of_mem _ t_951)) (fun _ h9 => h9) rfl dX11_verdict_1 (fun a_1 ma_1 ka_1 g => ?_)
  refine g_getr (K := 4) (C := RX10) (T := TX10) (N := 10) hx hb hts (mc_ inX10) hown hK g ma_1 ka_1 (by decide) rfl 4 (by decide) rfl (hts _ (List.mem_cons_of_mem _ t_918)) (fun _ h9 => h9) rfl dX11_verdict_4 (fun a_2 ma_2 ka_2 g => ?_)
  refine g_geti (C := RX4) (T := TX4) (N := 17) hx hb hts (mc_ inX4) hown hK g ma_2 ka_2 (by decide) rfl 0 (by decide) rfl (hts _ (List.mem_cons_of_mem _ t_838)) (fun _ h9 => h9) rfl dX11_verdict_7 (fun x_3 bx_3 g => ?_)
  subst hQ
  exact W.iret (v := x_3) hx hb hr (fun t ht hW => ⟨⟨_, _, rfl, trivial, q3_of g hK ht hW⟩, g.2.2.1.F ht⟩) g.2.2.1.2.2 dX11_verdict_10
set_option maxHeartbeats 4000000 in
set_option maxRecDepth 100000 in
theorem r_X11_condition (l : Launch) (dC : Nat → ClassId) (dI : Nat → Nat → Nat) (L : List Nat) (kd : Nat → Nat) (tys : List (ClassId × FieldType)) (f0 : Nat → va_E) (sz : Nat) (hWT : WT L kd tys f0) (a0_ : Nat) (ma0_ : a0_ ∈ L) (ka0_ : kd a0_ = 11) (x1_ : Int32) : Met l yX11_condition (.code yX11_condition cX11_condition 4 (some .int) :: lw_g) ({ frames := 0, cells := 0, slots := 0, locals := 0 }) (va_Pc [.ref a0_, .int x1_] (P3 (dC, dI) L tys f0 sz)) (va_Qi (fun (r : Int32) (f : Nat → va_E) => (True)) (Q3 (dC, dI) L kd tys [] [] f0 sz) (pA L sz)) 0 0 (pA L sz) := by
  refine Met.ofW (cc := cX11_condition) (maxL := 4) (ret := (some .int)) (by decide) rfl ?_
  intro p e s m args below meth c s₁ B hml hv
  obtain ⟨rfl, hsz, hP, hK, hD0⟩ := hv
  have hx := B.exec
  have hb := B.bytes
  have hr := B.returns
  have hts := atoms_spec (ws := (.code yX11_condition cX11_condition 4 (some .int) :: lw_g)) B.pre
  have hown : s.vm.findClass RX11 = some m.cls := findClass_of_methodNamed B.named
  have hlocks := B.notSynchronized
  subst hsz
  have g : G3 (dC, dI) L kd tys s f0 [] [] f0 s.heap [] [] := G3.start hP hD0 hWT Fs.nil
  have hl := lv_entry ([.ref a0_, .int x1_]) (n := 4) (Nat.le_of_ble_eq_true rfl)
  rw [lg_entry_eq]
  generalize (lg_sl ([.ref a0_, .int x1_]) ++ List.replicate (4 - (lg_sl ([.ref a0_, .int x1_])).length) Slot.unset).toArray = ls at hl ⊢
  have hl : lv_has ls 4 [(0, .ref a0_), (1, .int x1_)] := hl
  refine W_q (fun Q hQ => ?_)
  refine lv_aload_n hx hb dX11_condition_0 rfl (lv_at hl 0 rfl) ?_
  refine g_getr (K := 10) (C := RX11) (T := TX11) (N := 8) hx hb hts (mc_ inX11) hown hK g ma0_ ka0_ (by decide) rfl 3 (by decide) rfl (hts _ (List.mem_cons_of_mem _ t_951)) (fun _ h9 => h9) rfl dX11_condition_1 (fun a_1 ma_1 ka_1 g => ?_)
  refine g_getr (K := 4) (C := RX10) (T := TX10) (N := 10) hx hb hts (mc_ inX10) hown hK g ma_1 ka_1 (by decide) rfl 4 (by decide) rfl (hts _ (List.mem_cons_of_mem _ t_918)) (fun _ h9 => h9) rfl dX11_condition_4 (fun a_2 ma_2 ka_2 g => ?_)
  refine lv_astore_n (lv' := [(2, .ref a_2), (0, .ref a0_), (1, .int x1_)]) hx hb dX11_condition_7 rfl hl (by decide) rfl (fun ls hl => ?_)
  refine lv_aload_n hx hb dX11_condition_8 rfl (lv_at hl 0 rfl) ?_
  refine g_geti (C := RX4) (T := TX4) (N := 17) hx hb hts (mc_ inX4) hown hK g ma_2 ka_2 (by decide) rfl 1 (by decide) rfl (hts _ (List.mem_cons_of_mem _ t_840)) (fun _ h9 => h9) rfl dX11_condition_9 (fun x_3 bx_3 g => ?_)
  refine lv_istore_n (lv' := [(3, .int x_3), (2, .ref a_2), (0, .ref a0_), (1, .int x1_)]) hx hb dX11_condition_12 rfl hl (by decide) rfl (fun ls hl => ?_)
  refine lv_iload_n hx hb dX11_condition_13 rfl (lv_at hl 0 rfl) ?_
  have kb_0 : bd 0 0 (0 : Int32) := ⟨by decide, by decide⟩
  refine lv_if_lt (tgt := 28) hx hb dX11_condition_14 (by decide) (fun c_4 => ?_) (fun c_4 => ?_)
  · have fc_4 := lt_f c_4
    have b_5 : bd (-2147483648) (-1) x_3 := ltL fc_4 (bdT x_3) kb_0 (by decide)
    refine lv_iconst (v := (-1)) hx hb dX11_condition_28 (by decide) ?_
    subst hQ
    exact W.iret (v := (-1)) hx hb hr (fun t ht hW => ⟨⟨_, _, rfl, trivial, q3_of g hK ht hW⟩, g.2.2.1.F ht⟩) g.2.2.1.2.2 dX11_condition_29
  · have fc_4 := nlt_f c_4
    have b_6 : bd 0 2147483647 x_3 := leR fc_4 kb_0 (bdT x_3) (by decide)
    refine lv_iload_n hx hb dX11_condition_17 rfl (lv_at hl 0 rfl) ?_
    refine lv_aload_n hx hb dX11_condition_18 rfl (lv_at hl 2 rfl) ?_
    refine g_getr (K := 7) (C := RX11) (T := TX11) (N := 8) hx hb hts (mc_ inX11) hown hK g ma0_ ka0_ (by decide) rfl 4 (by decide) rfl (hts _ (List.mem_cons_of_mem _ t_952)) (fun _ h9 => h9) rfl dX11_condition_19 (fun a_7 ma_7 ka_7 g => ?_)
    refine g_geti (C := RX7) (T := TX7) (N := 19) hx hb hts (mc_ inX7) hown hK g ma_7 ka_7 (by decide) rfl 13 (by decide) rfl (hts _ (List.mem_cons_of_mem _ t_669)) (fun _ h9 => h9) rfl dX11_condition_22 (fun x_8 bx_8 g => ?_)
    refine lv_icmp_lt (tgt := 30) hx hb dX11_condition_25 (by decide) (fun c_9 => ?_) (fun c_9 => ?_)
    · have fc_9 := lt_f c_9
      have b_10 : bd 0 499 x_3 := ltL fc_9 b_6 bx_8 (by decide)
      have b_11 : bd 1 500 x_8 := ltR fc_9 b_6 bx_8 (by decide)
      refine lv_iload_n hx hb dX11_condition_30 rfl (lv_at hl 3 rfl) ?_
      by_cases e_12 : x1_ = 0
      · refine lv_topi (fun z_13 ez_13 => ?_)
        obtain rfl : z_13 = 0 := ez_13.trans e_12
        have b_14 : bd 0 0 x1_ := eqX (eq_f e_12) (bdT x1_) kb_0 (by decide)
        refine lv_tableIn (off := 29) (tgt := 60) hx hb dX11_condition_31 (by decide) (by decide) rfl (by decide) ?_
        refine lv_aload_n hx hb dX11_condition_60 rfl (lv_at hl 2 rfl) ?_
        refine g_getk (C := RX11) (T := TX11) (N := 8) hx hb hts (mc_ inX11) hown hK g rfl 4 (by decide) rfl (hts _ (List.mem_cons_of_mem _ t_952)) (fun _ h9 => h9) 1 rfl dX11_condition_61 ?_
        refine g_getr (K := 144) (C := RX7) (T := TX7) (N := 19) hx hb hts (mc_ inX7) hown hK g ma_7 ka_7 (by decide) rfl 11 (by decide) rfl (hts _ (List.mem_cons_of_mem _ t_662)) (fun _ h9 => h9) rfl dX11_condition_64 (fun a_15 ma_15 ka_15 g => ?_)
        refine lv_iload_n hx hb dX11_condition_67 rfl (lv_at hl 0 rfl) ?_
        refine g_iald hx hb hK g ma_15 ka_15 (by decide) rfl (in_bd b_10 (by decide)) dX11_condition_68 (fun x_16 bx_16 cx_16 => ?_)
        subst hQ
        exact W.iret (v := x_16) hx hb hr (fun t ht hW => ⟨⟨_, _, rfl, trivial, q3_of g hK ht hW⟩, g.2.2.1.F ht⟩) g.2.2.1.2.2 dX11_condition_69
      by_cases e_17 : x1_ = 1
      · refine lv_topi (fun z_18 ez_18 => ?_)
        obtain rfl : z_18 = 1 := ez_18.trans e_17
        have kb_1 : bd 1 1 (1 : Int32) := ⟨by decide, by decide⟩
        have b_19 : bd 1 1 x1_ := eqX (eq_f e_17) (bdT x1_) kb_1 (by decide)
        refine lv_tableIn (off := 39) (tgt := 70) hx hb dX11_condition_31 (by decide) (by decide) rfl (by decide) ?_
        refine lv_aload_n hx hb dX11_condition_70 rfl (lv_at hl 1 rfl) ?_
        refine g_geti (C := RX4) (T := TX4) (N := 17) hx hb hts (mc_ inX4) hown hK g ma_2 ka_2 (by decide) rfl 2 (by decide) rfl (hts _ (List.mem_cons_of_mem _ t_842)) (fun _ h9 => h9) rfl dX11_condition_71 (fun x_20 bx_20 g => ?_)
        subst hQ
        exact W.iret (v := x_20) hx hb hr (fun t ht hW => ⟨⟨_, _, rfl, trivial, q3_of g hK ht hW⟩, g.2.2.1.F ht⟩) g.2.2.1.2.2 dX11_condition_74
      by_cases e_21 : x1_ = 2
      · refine lv_topi (fun z_22 ez_22 => ?_)
        obtain rfl : z_22 = 2 := ez_22.trans e_21
        have kb_2 : bd 2 2 (2 : Int32) := ⟨by decide, by decide⟩
        have b_23 : bd 2 2 x1_ := eqX (eq_f e_21) (bdT x1_) kb_2 (by decide)
        refine lv_tableIn (off := 44) (tgt := 75) hx hb dX11_condition_31 (by decide) (by decide) rfl (by decide) ?_
        refine lv_aload_n hx hb dX11_condition_75 rfl (lv_at hl 2 rfl) ?_
        refine g_getk (C := RX11) (T := TX11) (N := 8) hx hb hts (mc_ inX11) hown hK g rfl 4 (by decide) rfl (hts _ (List.mem_cons_of_mem _ t_952)) (fun _ h9 => h9) 1 rfl dX11_condition_76 ?_
        refine g_getr (K := 142) (C := RX7) (T := TX7) (N := 19) hx hb hts (mc_ inX7) hown hK g ma_7 ka_7 (by decide) rfl 9 (by decide) rfl (hts _ (List.mem_cons_of_mem _ t_656)) (fun _ h9 => h9) rfl dX11_condition_79 (fun a_24 ma_24 ka_24 g => ?_)
        refine lv_iload_n hx hb dX11_condition_82 rfl (lv_at hl 0 rfl) ?_
        refine g_iald hx hb hK g ma_24 ka_24 (by decide) rfl (in_bd b_10 (by decide)) dX11_condition_83 (fun x_25 bx_25 cx_25 => ?_)
        subst hQ
        exact W.iret (v := x_25) hx hb hr (fun t ht hW => ⟨⟨_, _, rfl, trivial, q3_of g hK ht hW⟩, g.2.2.1.F ht⟩) g.2.2.1.2.2 dX11_condition_84
      by_cases e_26 : x1_ = 3
      · refine lv_topi (fun z_27 ez_27 => ?_)
        obtain rfl : z_27 = 3 := ez_27.trans e_26
        have kb_3 : bd 3 3 (3 : Int32) := ⟨by decide, by decide⟩
        have b_28 : bd 3 3 x1_ := eqX (eq_f e_26) (bdT x1_) kb_3 (by decide)
        refine lv_tableIn (off := 54) (tgt := 85) hx hb dX11_condition_31 (by decide) (by decide) rfl (by decide) ?_
        refine lv_aload_n hx hb dX11_condition_85 rfl (lv_at hl 2 rfl) ?_
        refine g_getk (C := RX11) (T := TX11) (N := 8) hx hb hts (mc_ inX11) hown hK g rfl 4 (by decide) rfl (hts _ (List.mem_cons_of_mem _ t_952)) (fun _ h9 => h9) 1 rfl dX11_condition_86 ?_
        refine g_getr (K := 140) (C := RX7) (T := TX7) (N := 19) hx hb hts (mc_ inX7) hown hK g ma_7 ka_7 (by decide) rfl 7 (by decide) rfl (hts _ (List.mem_cons_of_mem _ t_649)) (fun _ h9 => h9) rfl dX11_condition_89 (fun a_29 ma_29 ka_29 g => ?_)
        refine lv_iload_n hx hb dX11_condition_92 rfl (lv_at hl 0 rfl) ?_
        refine g_iald hx hb hK g ma_29 ka_29 (by decide) rfl (in_bd b_10 (by decide)) dX11_condition_93 (fun x_30 bx_30 cx_30 => ?_)
        subst hQ
        exact W.iret (v := x_30) hx hb hr (fun t ht hW => ⟨⟨_, _, rfl, trivial, q3_of g hK ht hW⟩, g.2.2.1.F ht⟩) g.2.2.1.2.2 dX11_condition_94
      refine lv_tableOut (tgt := 95) hx hb dX11_condition_31 (by have a0 : x1_.toInt ≠ 0 := fun h => e_12 (Int32.toInt_inj.mp (h.trans (by decide))); have a1 : x1_.toInt ≠ 1 := fun h => e_17 (Int32.toInt_inj.mp (h.trans (by decide))); have a2 : x1_.toInt ≠ 2 := fun h => e_21 (Int32.toInt_inj.mp (h.trans (by decide))); have a3 : x1_.toInt ≠ 3 := fun h => e_26 (Int32.toInt_inj.mp (h.trans (by decide))); omega) (by decide) ?_
      refine lv_iconst (v := (-1)) hx hb dX11_condition_95 (by decide) ?_
      subst hQ
      exact W.iret (v := (-1)) hx hb hr (fun t ht hW => ⟨⟨_, _, rfl, trivial, q3_of g hK ht hW⟩, g.2.2.1.F ht⟩) g.2.2.1.2.2 dX11_condition_96
    · have fc_9 := nlt_f c_9
      refine lv_iconst (v := (-1)) hx hb dX11_condition_28 (by decide) ?_
      subst hQ
      exact W.iret (v := (-1)) hx hb hr (fun t ht hW => ⟨⟨_, _, rfl, trivial, q3_of g hK ht hW⟩, g.2.2.1.F ht⟩) g.2.2.1.2.2 dX11_condition_29
set_option maxHeartbeats 4000000 in
set_option maxRecDepth 100000 in
theorem r_X11_changed (l : Launch) (dC : Nat → ClassId) (dI : Nat → Nat → Nat) (L : List Nat) (kd : Nat → Nat) (tys : List (ClassId × FieldType)) (f0 : Nat → va_E) (sz : Nat) (hWT : WT L kd tys f0) (a0_ : Nat) (ma0_ : a0_ ∈ L) (ka0_ : kd a0_ = 11) (x1_ : Int32) : Met l yX11_changed (.code yX11_changed cX11_changed 2 (some .int) :: lw_g) ({ frames := 0, cells := 0, slots := 0, locals := 0 }) (va_Pc [.ref a0_, .int x1_] (P3 (dC, dI) L tys f0 sz)) (va_Qi (fun (r : Int32) (f : Nat → va_E) => (True)) (Q3 (dC, dI) L kd tys [] [] f0 sz) (pA L sz)) 0 0 (pA L sz) := by
  refine Met.ofW (cc := cX11_changed) (maxL := 2) (ret := (some .int)) (by decide) rfl ?_
  intro p e s m args below meth c s₁ B hml hv
  obtain ⟨rfl, hsz, hP, hK, hD0⟩ := hv
  have hx := B.exec
  have hb := B.bytes
  have hr := B.returns
  have hts := atoms_spec (ws := (.code yX11_changed cX11_changed 2 (some .int) :: lw_g)) B.pre
  have hown : s.vm.findClass RX11 = some m.cls := findClass_of_methodNamed B.named
  have hlocks := B.notSynchronized
  subst hsz
  have g : G3 (dC, dI) L kd tys s f0 [] [] f0 s.heap [] [] := G3.start hP hD0 hWT Fs.nil
  have hl := lv_entry ([.ref a0_, .int x1_]) (n := 2) (Nat.le_of_ble_eq_true rfl)
  rw [lg_entry_eq]
  generalize (lg_sl ([.ref a0_, .int x1_]) ++ List.replicate (2 - (lg_sl ([.ref a0_, .int x1_])).length) Slot.unset).toArray = ls at hl ⊢
  have hl : lv_has ls 2 [(0, .ref a0_), (1, .int x1_)] := hl
  refine W_q (fun Q hQ => ?_)
  refine lv_iload_n hx hb dX11_changed_0 rfl (lv_at hl 1 rfl) ?_
  have kb_0 : bd 0 0 (0 : Int32) := ⟨by decide, by decide⟩
  refine lv_if_ne (tgt := 15) hx hb dX11_changed_1 (by decide) (fun c_1 => ?_) (fun c_1 => ?_)
  · have fc_1 := neq_f c_1
    refine lv_iload_n hx hb dX11_changed_15 rfl (lv_at hl 1 rfl) ?_
    refine lv_iconst (v := 1) hx hb dX11_changed_16 (by decide) ?_
    have kb_1 : bd 1 1 (1 : Int32) := ⟨by decide, by decide⟩
    refine lv_icmp_ne (tgt := 33) hx hb dX11_changed_17 (by decide) (fun c_2 => ?_) (fun c_2 => ?_)
    · have fc_2 := neq_f c_2
      refine lv_iconst (v := (-1)) hx hb dX11_changed_33 (by decide) ?_
      subst hQ
      exact W.iret (v := (-1)) hx hb hr (fun t ht hW => ⟨⟨_, _, rfl, trivial, q3_of g hK ht hW⟩, g.2.2.1.F ht⟩) g.2.2.1.2.2 dX11_changed_34
    · have fc_2 := eq_f c_2
      have b_3 : bd 1 1 x1_ := eqX fc_2 (bdT x1_) kb_1 (by decide)
      refine lv_aload_n hx hb dX11_changed_20 rfl (lv_at hl 0 rfl) ?_
      refine g_getr (K := 10) (C := RX11) (T := TX11) (N := 8) hx hb hts (mc_ inX11) hown hK g ma0_ ka0_ (by decide) rfl 3 (by decide) rfl (hts _ (List.mem_cons_of_mem _ t_951)) (fun _ h9 => h9) rfl dX11_changed_21 (fun a_4 ma_4 ka_4 g => ?_)
      refine g_getr (K := 4) (C := RX10) (T := TX10) (N := 10) hx hb hts (mc_ inX10) hown hK g ma_4 ka_4 (by decide) rfl 4 (by decide) rfl (hts _ (List.mem_cons_of_mem _ t_918)) (fun _ h9 => h9) rfl dX11_changed_24 (fun a_5 ma_5 ka_5 g => ?_)
      refine g_geti (C := RX4) (T := TX4) (N := 17) hx hb hts (mc_ inX4) hown hK g ma_5 ka_5 (by decide) rfl 4 (by decide) rfl (hts _ (List.mem_cons_of_mem _ t_846)) (fun _ h9 => h9) rfl dX11_changed_27 (fun x_6 bx_6 g => ?_)
      refine lv_goto (tgt := 34) hx hb dX11_changed_30 (by decide) ?_
      subst hQ
      exact W.iret (v := x_6) hx hb hr (fun t ht hW => ⟨⟨_, _, rfl, trivial, q3_of g hK ht hW⟩, g.2.2.1.F ht⟩) g.2.2.1.2.2 dX11_changed_34
  · have fc_1 := eq_f c_1
    have b_7 : bd 0 0 x1_ := eqX fc_1 (bdT x1_) kb_0 (by decide)
    refine lv_aload_n hx hb dX11_changed_4 rfl (lv_at hl 0 rfl) ?_
    refine g_getr (K := 10) (C := RX11) (T := TX11) (N := 8) hx hb hts (mc_ inX11) hown hK g ma0_ ka0_ (by decide) rfl 3 (by decide) rfl (hts _ (List.mem_cons_of_mem _ t_951)) (fun _ h9 => h9) rfl dX11_changed_5 (fun a_8 ma_8 ka_8 g => ?_)
    refine g_getr (K := 4) (C := RX10) (T := TX10) (N := 10) hx hb hts (mc_ inX10) hown hK g ma_8 ka_8 (by decide) rfl 4 (by decide) rfl (hts _ (List.mem_cons_of_mem _ t_918)) (fun _ h9 => h9) rfl dX11_changed_8 (fun a_9 ma_9 ka_9 g => ?_)
    refine g_geti (C := RX4) (T := TX4) (N := 17) hx hb hts (mc_ inX4) hown hK g ma_9 ka_9 (by decide) rfl 3 (by decide) rfl (hts _ (List.mem_cons_of_mem _ t_844)) (fun _ h9 => h9) rfl dX11_changed_11 (fun x_10 bx_10 g => ?_)
    subst hQ
    exact W.iret (v := x_10) hx hb hr (fun t ht hW => ⟨⟨_, _, rfl, trivial, q3_of g hK ht hW⟩, g.2.2.1.F ht⟩) g.2.2.1.2.2 dX11_changed_14
set_option maxHeartbeats 4000000 in
set_option maxRecDepth 100000 in
theorem r_X8_letterOf (l : Launch) (dC : Nat → ClassId) (dI : Nat → Nat → Nat) (L : List Nat) (kd : Nat → Nat) (tys : List (ClassId × FieldType)) (f0 : Nat → va_E) (sz : Nat) (hWT : WT L kd tys f0) (x0_ : Int64) (x1_ : Int32) : Met l yX8_letterOf (.code yX8_letterOf cX8_letterOf 7 (some .int) :: lw_g) ({ frames := 0, cells := 0, slots := 0, locals := 0 }) (va_Pc [.long x0_, .int x1_] (P3 (dC, dI) L tys f0 sz)) (va_Qi (fun (r : Int32) (f : Nat → va_E) => (True)) (Q3 (dC, dI) L kd tys [] [] f0 sz) (pA L sz)) 0 0 (pA L sz) := by
  refine Met.ofW (cc := cX8_letterOf) (maxL := 7) (ret := (some .int)) (by decide) rfl ?_
  intro p e s m args below meth c s₁ B hml hv
  obtain ⟨rfl, hsz, hP, hK, hD0⟩ := hv
  have hx := B.exec
  have hb := B.bytes
  have hr := B.returns
  have hts := atoms_spec (ws := (.code yX8_letterOf cX8_letterOf 7 (some .int) :: lw_g)) B.pre
  have hown : s.vm.findClass RX8 = some m.cls := findClass_of_methodNamed B.named
  have hlocks := B.notSynchronized
  subst hsz
  have g : G3 (dC, dI) L kd tys s f0 [] [] f0 s.heap [] [] := G3.start hP hD0 hWT Fs.nil
  have hl := lv_entry ([.long x0_, .int x1_]) (n := 7) (Nat.le_of_ble_eq_true rfl)
  rw [lg_entry_eq]
  generalize (lg_sl ([.long x0_, .int x1_]) ++ List.replicate (7 - (lg_sl ([.long x0_, .int x1_])).length) Slot.unset).toArray = ls at hl ⊢
  have hl : lv_has ls 7 [(0, .long x0_), (2, .int x1_)] := hl
  refine W_q (fun Q hQ => ?_)
  refine lv_iconst (v := 0) hx hb dX8_letterOf_0 (by decide) ?_
  refine lv_istore_n (lv' := [(3, .int 0), (0, .long x0_), (2, .int x1_)]) hx hb dX8_letterOf_1 rfl hl (by decide) rfl (fun ls hl => ?_)
  refine lv_lload_n hx hb dX8_letterOf_2 rfl (lv_at hl 1 rfl) ?_
  refine lv_lstore (lv' := [(4, .long x0_), (3, .int 0), (0, .long x0_), (2, .int x1_)]) hx hb dX8_letterOf_3 hl (by decide) rfl (fun ls hl => ?_)
  have loop_1 : ∀ (n : Nat) (v5_4 : Int64) (v5_3 : Int32), bd 0 12 v5_3 → (12 - v5_3.toInt < (n : Int)) → ∀ (f : Nat → va_E) (H : Heap) (locs : List Loc) (ls : Array Slot), G3 (dC, dI) L kd tys s f0 [] [] f H locs [] → lv_has ls 7 [(4, .long v5_4), (3, .int v5_3), (0, .long x0_), (2, .int x1_)] → W p l e ({ frames := 0, cells := 0, slots := 0, locals := 0 } : Room) s m [.long x0_, .int x1_].toArray below meth c H locs 0 0 Q (F0 m 5 ls []) := by
    intro n5
    induction n5 with
    | zero =>
      intro v5_4 v5_3  bv5_3 hm5 f H locs ls g  hl
      exact absurd hm5 (by have h9_v5_3 := bv5_3; unfold bd at h9_v5_3; omega)
    | succ n5 ih5 =>
      intro v5_4 v5_3  bv5_3 hm5 f H locs ls g  hl
      refine lv_lload hx hb dX8_letterOf_5 (lv_at hl 0 rfl) ?_
      refine lv_lconst (v := 0) hx hb dX8_letterOf_7 (by decide) ?_
      refine W.lcmp hx hb dX8_letterOf_8 ?_
      refine lv_if_le (tgt := 32) hx hb dX8_letterOf_9 (by decide) (fun c_2 => ?_) (fun c_2 => ?_)
      · refine lv_iload_n hx hb dX8_letterOf_32 rfl (lv_at hl 3 rfl) ?_
        have kb_0 : bd 0 0 (0 : Int32) := ⟨by decide, by decide⟩
        refine lv_if_lt (tgt := 41) hx hb dX8_letterOf_33 (by decide) (fun c_3 => ?_) (fun c_3 => ?_)
        · have fc_3 := lt_f c_3
          have b_4 : bd (-2147483648) (-1) x1_ := ltL fc_3 (bdT x1_) kb_0 (by decide)
          refine lv_iconst (v := (-1)) hx hb dX8_letterOf_41 (by decide) ?_
          subst hQ
          exact W.iret (v := (-1)) hx hb hr (fun t ht hW => ⟨⟨_, _, rfl, trivial, q3_of g hK ht hW⟩, g.2.2.1.F ht⟩) g.2.2.1.2.2 dX8_letterOf_42
        · have fc_3 := nlt_f c_3
          have b_5 : bd 0 2147483647 x1_ := leR fc_3 kb_0 (bdT x1_) (by decide)
          refine lv_iload_n hx hb dX8_letterOf_36 rfl (lv_at hl 3 rfl) ?_
          refine lv_iload_n hx hb dX8_letterOf_37 rfl (lv_at hl 1 rfl) ?_
          refine lv_icmp_lt (tgt := 43) hx hb dX8_letterOf_38 (by decide) (fun c_6 => ?_) (fun c_6 => ?_)
          · have fc_6 := lt_f c_6
            have b_7 : bd 0 11 x1_ := ltL fc_6 b_5 bv5_3 (by decide)
            have b_8 : bd 1 12 v5_3 := ltR fc_6 b_5 bv5_3 (by decide)
            refine lv_lload_n hx hb dX8_letterOf_43 rfl (lv_at hl 2 rfl) ?_
            refine lv_lstore (lv' := [(4, .long x0_), (3, .int v5_3), (0, .long x0_), (2, .int x1_)]) hx hb dX8_letterOf_44 hl (by decide) rfl (fun ls hl => ?_)
            refine lv_iload_n hx hb dX8_letterOf_46 rfl (lv_at hl 1 rfl) ?_
            refine lv_iconst (v := 1) hx hb dX8_letterOf_47 (by decide) ?_
            have kb_1 : bd 1 1 (1 : Int32) := ⟨by decide, by decide⟩
            refine lv_isub hx hb dX8_letterOf_48 ?_
            refine lv_topi (fun y_9 ey_9 => ?_)
            have ty_9 := sub_bd ey_9 b_8 kb_1 (by decide)
            have b_10 : bd 0 11 y_9 := sub_rg ty_9 b_8 kb_1 (by decide)
            refine lv_istore (lv' := [(6, .int y_9), (4, .long x0_), (3, .int v5_3), (0, .long x0_), (2, .int x1_)]) hx hb dX8_letterOf_49 hl (by decide) rfl (fun ls hl => ?_)
            have loop_11 : ∀ (n : Nat) (v51_6 : Int32) (v51_4 : Int64), bd 0 11 v51_6 → (v51_6.toInt - 0 < (n : Int)) → ∀ (f : Nat → va_E) (H : Heap) (locs : List Loc) (ls : Array Slot), G3 (dC, dI) L kd tys s f0 [] [] f H locs [] → lv_has ls 7 [(6, .int v51_6), (4, .long v51_4), (3, .int v5_3), (0, .long x0_), (2, .int x1_)] → W p l e ({ frames := 0, cells := 0, slots := 0, locals := 0 } : Room) s m [.long x0_, .int x1_].toArray below meth c H locs 0 0 Q (F0 m 51 ls []) := by
              intro n51
              induction n51 with
              | zero =>
                intro v51_6 v51_4 bv51_6  hm51 f H locs ls g  hl
                exact absurd hm51 (by have h9_v51_6 := bv51_6; unfold bd at h9_v51_6; omega)
              | succ n51 ih51 =>
                intro v51_6 v51_4 bv51_6  hm51 f H locs ls g  hl
                refine lv_iload hx hb dX8_letterOf_51 (lv_at hl 0 rfl) ?_
                refine lv_iload_n hx hb dX8_letterOf_53 rfl (lv_at hl 4 rfl) ?_
                refine lv_icmp_le (tgt := 71) hx hb dX8_letterOf_54 (by decide) (fun c_12 => ?_) (fun c_12 => ?_)
                · have fc_12 := le_f c_12
                  refine lv_lload hx hb dX8_letterOf_71 (lv_at hl 1 rfl) ?_
                  refine lv_ldc2 (v := 38) hx hb hown (hts _ (List.mem_cons_of_mem _ t_283)) dX8_letterOf_73 ?_
                  refine lv_lrem hx hb dX8_letterOf_76 (by decide) ?_
                  refine lv_topl (fun y_13 ey_13 => ?_)
                  refine lv_l2i hx hb dX8_letterOf_77 rfl ?_
                  refine lv_topi (fun y_14 ey_14 => ?_)
                  refine lv_istore (lv' := [(6, .int y_14), (4, .long v51_4), (3, .int v5_3), (0, .long x0_), (2, .int x1_)]) hx hb dX8_letterOf_78 hl (by decide) rfl (fun ls hl => ?_)
                  refine lv_iload hx hb dX8_letterOf_80 (lv_at hl 0 rfl) ?_
                  refine lv_bipush (v := 37) hx hb dX8_letterOf_82 (by decide) ?_
                  have kb_37 : bd 37 37 (37 : Int32) := ⟨by decide, by decide⟩
                  refine lv_icmp_ne (tgt := 90) hx hb dX8_letterOf_84 (by decide) (fun c_15 => ?_) (fun c_15 => ?_)
                  · have fc_15 := neq_f c_15
                    refine lv_iload hx hb dX8_letterOf_90 (lv_at hl 0 rfl) ?_
                    refine lv_bipush (v := 26) hx hb dX8_letterOf_92 (by decide) ?_
                    have kb_26 : bd 26 26 (26 : Int32) := ⟨by decide, by decide⟩
                    refine lv_icmp_le (tgt := 108) hx hb dX8_letterOf_94 (by decide) (fun c_16 => ?_) (fun c_16 => ?_)
                    · have fc_16 := le_f c_16
                      have b_17 : bd (-2147483648) 26 y_14 := leL fc_16 (bdT y_14) kb_26 (by decide)
                      refine lv_bipush (v := 97) hx hb dX8_letterOf_108 (by decide) ?_
                      refine lv_iload hx hb dX8_letterOf_110 (lv_at hl 0 rfl) ?_
                      have kb_97 : bd 97 97 (97 : Int32) := ⟨by decide, by decide⟩
                      refine lv_iadd hx hb dX8_letterOf_112 ?_
                      refine lv_topi (fun y_18 ey_18 => ?_)
                      have ty_18 := add_bd ey_18 kb_97 b_17 (by decide)
                      have b_19 : bd (-2147483551) 123 y_18 := add_rg ty_18 kb_97 b_17 (by decide)
                      refine lv_iconst (v := 1) hx hb dX8_letterOf_113 (by decide) ?_
                      refine lv_isub hx hb dX8_letterOf_114 ?_
                      refine lv_topi (fun y_20 ey_20 => ?_)
                      have ty_20 := sub_bd ey_20 b_19 kb_1 (by decide)
                      have b_21 : bd (-2147483552) 122 y_20 := sub_rg ty_20 b_19 kb_1 (by decide)
                      subst hQ
                      exact W.iret (v := y_20) hx hb hr (fun t ht hW => ⟨⟨_, _, rfl, trivial, q3_of g hK ht hW⟩, g.2.2.1.F ht⟩) g.2.2.1.2.2 dX8_letterOf_115
                    · have fc_16 := nle_f c_16
                      have b_22 : bd 27 2147483647 y_14 := ltR fc_16 kb_26 (bdT y_14) (by decide)
                      refine lv_bipush (v := 48) hx hb dX8_letterOf_97 (by decide) ?_
                      refine lv_iload hx hb dX8_letterOf_99 (lv_at hl 0 rfl) ?_
                      have kb_48 : bd 48 48 (48 : Int32) := ⟨by decide, by decide⟩
                      refine lv_iadd hx hb dX8_letterOf_101 ?_
                      refine lv_topi (fun y_23 ey_23 => ?_)
                      refine lv_bipush (v := 27) hx hb dX8_letterOf_102 (by decide) ?_
                      have kb_27 : bd 27 27 (27 : Int32) := ⟨by decide, by decide⟩
                      refine lv_isub hx hb dX8_letterOf_104 ?_
                      refine lv_topi (fun y_24 ey_24 => ?_)
                      refine lv_goto (tgt := 115) hx hb dX8_letterOf_105 (by decide) ?_
                      subst hQ
                      exact W.iret (v := y_24) hx hb hr (fun t ht hW => ⟨⟨_, _, rfl, trivial, q3_of g hK ht hW⟩, g.2.2.1.F ht⟩) g.2.2.1.2.2 dX8_letterOf_115
                  · have fc_15 := eq_f c_15
                    have b_25 : bd 37 37 y_14 := eqX fc_15 (bdT y_14) kb_37 (by decide)
                    refine lv_bipush (v := 95) hx hb dX8_letterOf_87 (by decide) ?_
                    subst hQ
                    exact W.iret (v := 95) hx hb hr (fun t ht hW => ⟨⟨_, _, rfl, trivial, q3_of g hK ht hW⟩, g.2.2.1.F ht⟩) g.2.2.1.2.2 dX8_letterOf_89
                · have fc_12 := nle_f c_12
                  have b_26 : bd 0 10 x1_ := ltL fc_12 b_7 bv51_6 (by decide)
                  have b_27 : bd 1 11 v51_6 := ltR fc_12 b_7 bv51_6 (by decide)
                  refine lv_lload hx hb dX8_letterOf_57 (lv_at hl 1 rfl) ?_
                  refine lv_ldc2 (v := 38) hx hb hown (hts _ (List.mem_cons_of_mem _ t_283)) dX8_letterOf_59 ?_
                  refine lv_ldiv hx hb dX8_letterOf_62 (by decide) ?_
                  refine lv_topl (fun y_28 ey_28 => ?_)
                  refine lv_lstore (lv' := [(4, .long y_28), (6, .int v51_6), (3, .int v5_3), (0, .long x0_), (2, .int x1_)]) hx hb dX8_letterOf_63 hl (by decide) rfl (fun ls hl => ?_)
                  have kb_m1 : bd (-1) (-1) ((-1) : Int32) := ⟨by decide, by decide⟩
                  obtain ⟨y_29, ey_29⟩ : ∃ z : Int32, z = v51_6 + (-1) := ⟨_, rfl⟩
                  refine lv_iinc (v := y_29) (lv' := [(6, .int y_29), (4, .long y_28), (3, .int v5_3), (0, .long x0_), (2, .int x1_)]) hx hb dX8_letterOf_65 hl (k := 1) rfl (by rw [ey_29]; rfl) (by decide) rfl (fun ls hl => ?_)
                  have ty_29 := add_bd ey_29 b_27 kb_m1 (by decide)
                  have b_30 : bd 0 10 y_29 := add_rg ty_29 b_27 kb_m1 (by decide)
                  refine lv_goto (tgt := 51) hx hb dX8_letterOf_68 (by decide) ?_
                  have hl9 := lv_sub hl [0, 1, 2, 3, 4] (by rfl : lv_pick [(6, .int y_29), (4, .long y_28), (3, .int v5_3), (0, .long x0_), (2, .int x1_)] [0, 1, 2, 3, 4] = [(6, .int y_29), (4, .long y_28), (3, .int v5_3), (0, .long x0_), (2, .int x1_)])
                  have g9 := g.sub (fx' := []) [] rfl
                  exact ih51  y_29 y_28 (bd_sub b_30 (by decide)) (by have h9_0 := b_30; unfold bd at h9_0; have h9_1 := bv51_6; unfold bd at h9_1; have h9_2 := kb_0; unfold bd at h9_2; have h9_3 := kb_1; unfold bd at h9_3; have h9_4 := kb_m1; unfold bd at h9_4; omega) _ _ _ _ g9  hl9
            have hl9 := lv_sub hl [0, 1, 2, 3, 4] (by rfl : lv_pick [(6, .int y_9), (4, .long x0_), (3, .int v5_3), (0, .long x0_), (2, .int x1_)] [0, 1, 2, 3, 4] = [(6, .int y_9), (4, .long x0_), (3, .int v5_3), (0, .long x0_), (2, .int x1_)])
            have g9 := g.sub (fx' := []) [] rfl
            exact loop_11 (25) y_9 x0_ b_10 (by have h9_0 := b_10; unfold bd at h9_0; have h9_1 := kb_0; unfold bd at h9_1; have h9_2 := kb_1; unfold bd at h9_2; omega) _ _ _ _ g9  hl9
          · have fc_6 := nlt_f c_6
            refine lv_iconst (v := (-1)) hx hb dX8_letterOf_41 (by decide) ?_
            subst hQ
            exact W.iret (v := (-1)) hx hb hr (fun t ht hW => ⟨⟨_, _, rfl, trivial, q3_of g hK ht hW⟩, g.2.2.1.F ht⟩) g.2.2.1.2.2 dX8_letterOf_42
      · refine lv_iload_n hx hb dX8_letterOf_12 rfl (lv_at hl 1 rfl) ?_
        refine lv_bipush (v := 12) hx hb dX8_letterOf_13 (by decide) ?_
        have kb_12 : bd 12 12 (12 : Int32) := ⟨by decide, by decide⟩
        refine lv_icmp_ge (tgt := 32) hx hb dX8_letterOf_15 (by decide) (fun c_31 => ?_) (fun c_31 => ?_)
        · have fc_31 := le_f c_31
          have b_32 : bd 12 12 v5_3 := leR fc_31 kb_12 bv5_3 (by decide)
          refine lv_iload_n hx hb dX8_letterOf_32 rfl (lv_at hl 3 rfl) ?_
          have kb_0 : bd 0 0 (0 : Int32) := ⟨by decide, by decide⟩
          refine lv_if_lt (tgt := 41) hx hb dX8_letterOf_33 (by decide) (fun c_33 => ?_) (fun c_33 => ?_)
          · have fc_33 := lt_f c_33
            have b_34 : bd (-2147483648) (-1) x1_ := ltL fc_33 (bdT x1_) kb_0 (by decide)
            refine lv_iconst (v := (-1)) hx hb dX8_letterOf_41 (by decide) ?_
            subst hQ
            exact W.iret (v := (-1)) hx hb hr (fun t ht hW => ⟨⟨_, _, rfl, trivial, q3_of g hK ht hW⟩, g.2.2.1.F ht⟩) g.2.2.1.2.2 dX8_letterOf_42
          · have fc_33 := nlt_f c_33
            have b_35 : bd 0 2147483647 x1_ := leR fc_33 kb_0 (bdT x1_) (by decide)
            refine lv_iload_n hx hb dX8_letterOf_36 rfl (lv_at hl 3 rfl) ?_
            refine lv_iload_n hx hb dX8_letterOf_37 rfl (lv_at hl 1 rfl) ?_
            refine lv_icmp_lt (tgt := 43) hx hb dX8_letterOf_38 (by decide) (fun c_36 => ?_) (fun c_36 => ?_)
            · have fc_36 := lt_f c_36
              have b_37 : bd 0 11 x1_ := ltL fc_36 b_35 b_32 (by decide)
              refine lv_lload_n hx hb dX8_letterOf_43 rfl (lv_at hl 2 rfl) ?_
              refine lv_lstore (lv' := [(4, .long x0_), (3, .int v5_3), (0, .long x0_), (2, .int x1_)]) hx hb dX8_letterOf_44 hl (by decide) rfl (fun ls hl => ?_)
              refine lv_iload_n hx hb dX8_letterOf_46 rfl (lv_at hl 1 rfl) ?_
              refine lv_iconst (v := 1) hx hb dX8_letterOf_47 (by decide) ?_
              have kb_1 : bd 1 1 (1 : Int32) := ⟨by decide, by decide⟩
              refine lv_isub hx hb dX8_letterOf_48 ?_
              refine lv_topi (fun y_38 ey_38 => ?_)
              have ty_38 := sub_bd ey_38 b_32 kb_1 (by decide)
              have b_39 : bd 11 11 y_38 := sub_rg ty_38 b_32 kb_1 (by decide)
              refine lv_istore (lv' := [(6, .int y_38), (4, .long x0_), (3, .int v5_3), (0, .long x0_), (2, .int x1_)]) hx hb dX8_letterOf_49 hl (by decide) rfl (fun ls hl => ?_)
              have loop_40 : ∀ (n : Nat) (v51_6 : Int32) (v51_4 : Int64), bd 0 11 v51_6 → (v51_6.toInt - 0 < (n : Int)) → ∀ (f : Nat → va_E) (H : Heap) (locs : List Loc) (ls : Array Slot), G3 (dC, dI) L kd tys s f0 [] [] f H locs [] → lv_has ls 7 [(6, .int v51_6), (4, .long v51_4), (3, .int v5_3), (0, .long x0_), (2, .int x1_)] → W p l e ({ frames := 0, cells := 0, slots := 0, locals := 0 } : Room) s m [.long x0_, .int x1_].toArray below meth c H locs 0 0 Q (F0 m 51 ls []) := by
                intro n51
                induction n51 with
                | zero =>
                  intro v51_6 v51_4 bv51_6  hm51 f H locs ls g  hl
                  exact absurd hm51 (by have h9_v51_6 := bv51_6; unfold bd at h9_v51_6; omega)
                | succ n51 ih51 =>
                  intro v51_6 v51_4 bv51_6  hm51 f H locs ls g  hl
                  refine lv_iload hx hb dX8_letterOf_51 (lv_at hl 0 rfl) ?_
                  refine lv_iload_n hx hb dX8_letterOf_53 rfl (lv_at hl 4 rfl) ?_
                  refine lv_icmp_le (tgt := 71) hx hb dX8_letterOf_54 (by decide) (fun c_41 => ?_) (fun c_41 => ?_)
                  · have fc_41 := le_f c_41
                    refine lv_lload hx hb dX8_letterOf_71 (lv_at hl 1 rfl) ?_
                    refine lv_ldc2 (v := 38) hx hb hown (hts _ (List.mem_cons_of_mem _ t_283)) dX8_letterOf_73 ?_
                    refine lv_lrem hx hb dX8_letterOf_76 (by decide) ?_
                    refine lv_topl (fun y_42 ey_42 => ?_)
                    refine lv_l2i hx hb dX8_letterOf_77 rfl ?_
                    refine lv_topi (fun y_43 ey_43 => ?_)
                    refine lv_istore (lv' := [(6, .int y_43), (4, .long v51_4), (3, .int v5_3), (0, .long x0_), (2, .int x1_)]) hx hb dX8_letterOf_78 hl (by decide) rfl (fun ls hl => ?_)
                    refine lv_iload hx hb dX8_letterOf_80 (lv_at hl 0 rfl) ?_
                    refine lv_bipush (v := 37) hx hb dX8_letterOf_82 (by decide) ?_
                    have kb_37 : bd 37 37 (37 : Int32) := ⟨by decide, by decide⟩
                    refine lv_icmp_ne (tgt := 90) hx hb dX8_letterOf_84 (by decide) (fun c_44 => ?_) (fun c_44 => ?_)
                    · have fc_44 := neq_f c_44
                      refine lv_iload hx hb dX8_letterOf_90 (lv_at hl 0 rfl) ?_
                      refine lv_bipush (v := 26) hx hb dX8_letterOf_92 (by decide) ?_
                      have kb_26 : bd 26 26 (26 : Int32) := ⟨by decide, by decide⟩
                      refine lv_icmp_le (tgt := 108) hx hb dX8_letterOf_94 (by decide) (fun c_45 => ?_) (fun c_45 => ?_)
                      · have fc_45 := le_f c_45
                        have b_46 : bd (-2147483648) 26 y_43 := leL fc_45 (bdT y_43) kb_26 (by decide)
                        refine lv_bipush (v := 97) hx hb dX8_letterOf_108 (by decide) ?_
                        refine lv_iload hx hb dX8_letterOf_110 (lv_at hl 0 rfl) ?_
                        have kb_97 : bd 97 97 (97 : Int32) := ⟨by decide, by decide⟩
                        refine lv_iadd hx hb dX8_letterOf_112 ?_
                        refine lv_topi (fun y_47 ey_47 => ?_)
                        have ty_47 := add_bd ey_47 kb_97 b_46 (by decide)
                        have b_48 : bd (-2147483551) 123 y_47 := add_rg ty_47 kb_97 b_46 (by decide)
                        refine lv_iconst (v := 1) hx hb dX8_letterOf_113 (by decide) ?_
                        refine lv_isub hx hb dX8_letterOf_114 ?_
                        refine lv_topi (fun y_49 ey_49 => ?_)
                        have ty_49 := sub_bd ey_49 b_48 kb_1 (by decide)
                        have b_50 : bd (-2147483552) 122 y_49 := sub_rg ty_49 b_48 kb_1 (by decide)
                        subst hQ
                        exact W.iret (v := y_49) hx hb hr (fun t ht hW => ⟨⟨_, _, rfl, trivial, q3_of g hK ht hW⟩, g.2.2.1.F ht⟩) g.2.2.1.2.2 dX8_letterOf_115
                      · have fc_45 := nle_f c_45
                        have b_51 : bd 27 2147483647 y_43 := ltR fc_45 kb_26 (bdT y_43) (by decide)
                        refine lv_bipush (v := 48) hx hb dX8_letterOf_97 (by decide) ?_
                        refine lv_iload hx hb dX8_letterOf_99 (lv_at hl 0 rfl) ?_
                        have kb_48 : bd 48 48 (48 : Int32) := ⟨by decide, by decide⟩
                        refine lv_iadd hx hb dX8_letterOf_101 ?_
                        refine lv_topi (fun y_52 ey_52 => ?_)
                        refine lv_bipush (v := 27) hx hb dX8_letterOf_102 (by decide) ?_
                        have kb_27 : bd 27 27 (27 : Int32) := ⟨by decide, by decide⟩
                        refine lv_isub hx hb dX8_letterOf_104 ?_
                        refine lv_topi (fun y_53 ey_53 => ?_)
                        refine lv_goto (tgt := 115) hx hb dX8_letterOf_105 (by decide) ?_
                        subst hQ
                        exact W.iret (v := y_53) hx hb hr (fun t ht hW => ⟨⟨_, _, rfl, trivial, q3_of g hK ht hW⟩, g.2.2.1.F ht⟩) g.2.2.1.2.2 dX8_letterOf_115
                    · have fc_44 := eq_f c_44
                      have b_54 : bd 37 37 y_43 := eqX fc_44 (bdT y_43) kb_37 (by decide)
                      refine lv_bipush (v := 95) hx hb dX8_letterOf_87 (by decide) ?_
                      subst hQ
                      exact W.iret (v := 95) hx hb hr (fun t ht hW => ⟨⟨_, _, rfl, trivial, q3_of g hK ht hW⟩, g.2.2.1.F ht⟩) g.2.2.1.2.2 dX8_letterOf_89
                  · have fc_41 := nle_f c_41
                    have b_55 : bd 0 10 x1_ := ltL fc_41 b_37 bv51_6 (by decide)
                    have b_56 : bd 1 11 v51_6 := ltR fc_41 b_37 bv51_6 (by decide)
                    refine lv_lload hx hb dX8_letterOf_57 (lv_at hl 1 rfl) ?_
                    refine lv_ldc2 (v := 38) hx hb hown (hts _ (List.mem_cons_of_mem _ t_283)) dX8_letterOf_59 ?_
                    refine lv_ldiv hx hb dX8_letterOf_62 (by decide) ?_
                    refine lv_topl (fun y_57 ey_57 => ?_)
                    refine lv_lstore (lv' := [(4, .long y_57), (6, .int v51_6), (3, .int v5_3), (0, .long x0_), (2, .int x1_)]) hx hb dX8_letterOf_63 hl (by decide) rfl (fun ls hl => ?_)
                    have kb_m1 : bd (-1) (-1) ((-1) : Int32) := ⟨by decide, by decide⟩
                    obtain ⟨y_58, ey_58⟩ : ∃ z : Int32, z = v51_6 + (-1) := ⟨_, rfl⟩
                    refine lv_iinc (v := y_58) (lv' := [(6, .int y_58), (4, .long y_57), (3, .int v5_3), (0, .long x0_), (2, .int x1_)]) hx hb dX8_letterOf_65 hl (k := 1) rfl (by rw [ey_58]; rfl) (by decide) rfl (fun ls hl => ?_)
                    have ty_58 := add_bd ey_58 b_56 kb_m1 (by decide)
                    have b_59 : bd 0 10 y_58 := add_rg ty_58 b_56 kb_m1 (by decide)
                    refine lv_goto (tgt := 51) hx hb dX8_letterOf_68 (by decide) ?_
                    have hl9 := lv_sub hl [0, 1, 2, 3, 4] (by rfl : lv_pick [(6, .int y_58), (4, .long y_57), (3, .int v5_3), (0, .long x0_), (2, .int x1_)] [0, 1, 2, 3, 4] = [(6, .int y_58), (4, .long y_57), (3, .int v5_3), (0, .long x0_), (2, .int x1_)])
                    have g9 := g.sub (fx' := []) [] rfl
                    exact ih51  y_58 y_57 (bd_sub b_59 (by decide)) (by have h9_0 := b_59; unfold bd at h9_0; have h9_1 := bv51_6; unfold bd at h9_1; have h9_2 := kb_0; unfold bd at h9_2; have h9_3 := kb_1; unfold bd at h9_3; have h9_4 := kb_12; unfold bd at h9_4; have h9_5 := kb_m1; unfold bd at h9_5; omega) _ _ _ _ g9  hl9
              have hl9 := lv_sub hl [0, 1, 2, 3, 4] (by rfl : lv_pick [(6, .int y_38), (4, .long x0_), (3, .int v5_3), (0, .long x0_), (2, .int x1_)] [0, 1, 2, 3, 4] = [(6, .int y_38), (4, .long x0_), (3, .int v5_3), (0, .long x0_), (2, .int x1_)])
              have g9 := g.sub (fx' := []) [] rfl
              exact loop_40 (25) y_38 x0_ (bd_sub b_39 (by decide)) (by have h9_0 := b_39; unfold bd at h9_0; have h9_1 := kb_0; unfold bd at h9_1; have h9_2 := kb_1; unfold bd at h9_2; have h9_3 := kb_12; unfold bd at h9_3; omega) _ _ _ _ g9  hl9
            · have fc_36 := nlt_f c_36
              have b_60 : bd 12 2147483647 x1_ := leR fc_36 b_32 b_35 (by decide)
              refine lv_iconst (v := (-1)) hx hb dX8_letterOf_41 (by decide) ?_
              subst hQ
              exact W.iret (v := (-1)) hx hb hr (fun t ht hW => ⟨⟨_, _, rfl, trivial, q3_of g hK ht hW⟩, g.2.2.1.F ht⟩) g.2.2.1.2.2 dX8_letterOf_42
        · have fc_31 := nle_f c_31
          have b_61 : bd 0 11 v5_3 := ltL fc_31 bv5_3 kb_12 (by decide)
          have kb_1 : bd 1 1 (1 : Int32) := ⟨by decide, by decide⟩
          obtain ⟨y_62, ey_62⟩ : ∃ z : Int32, z = v5_3 + 1 := ⟨_, rfl⟩
          refine lv_iinc (v := y_62) (lv' := [(3, .int y_62), (4, .long v5_4), (0, .long x0_), (2, .int x1_)]) hx hb dX8_letterOf_18 hl (k := 1) rfl (by rw [ey_62]; rfl) (by decide) rfl (fun ls hl => ?_)
          have ty_62 := add_bd ey_62 b_61 kb_1 (by decide)
          have b_63 : bd 1 12 y_62 := add_rg ty_62 b_61 kb_1 (by decide)
          refine lv_lload hx hb dX8_letterOf_21 (lv_at hl 1 rfl) ?_
          refine lv_ldc2 (v := 38) hx hb hown (hts _ (List.mem_cons_of_mem _ t_283)) dX8_letterOf_23 ?_
          refine lv_ldiv hx hb dX8_letterOf_26 (by decide) ?_
          refine lv_topl (fun y_64 ey_64 => ?_)
          refine lv_lstore (lv' := [(4, .long y_64), (3, .int y_62), (0, .long x0_), (2, .int x1_)]) hx hb dX8_letterOf_27 hl (by decide) rfl (fun ls hl => ?_)
          refine lv_goto (tgt := 5) hx hb dX8_letterOf_29 (by decide) ?_
          have hl9 := lv_sub hl [0, 1, 2, 3] (by rfl : lv_pick [(4, .long y_64), (3, .int y_62), (0, .long x0_), (2, .int x1_)] [0, 1, 2, 3] = [(4, .long y_64), (3, .int y_62), (0, .long x0_), (2, .int x1_)])
          have g9 := g.sub (fx' := []) [] rfl
          exact ih5  y_64 y_62 (bd_sub b_63 (by decide)) (by have h9_0 := b_63; unfold bd at h9_0; have h9_1 := bv5_3; unfold bd at h9_1; have h9_2 := kb_1; unfold bd at h9_2; have h9_3 := kb_12; unfold bd at h9_3; omega) _ _ _ _ g9  hl9
  have kb_0 : bd 0 0 (0 : Int32) := ⟨by decide, by decide⟩
  have hl9 := lv_sub hl [0, 1, 2, 3] (by rfl : lv_pick [(4, .long x0_), (3, .int 0), (0, .long x0_), (2, .int x1_)] [0, 1, 2, 3] = [(4, .long x0_), (3, .int 0), (0, .long x0_), (2, .int x1_)])
  have g9 := g.sub (fx' := []) [] rfl
  exact loop_1 (27) x0_ 0 (bd_sub kb_0 (by decide)) (by have h9_0 := kb_0; unfold bd at h9_0; omega) _ _ _ _ g9  hl9
set_option maxHeartbeats 4000000 in
set_option maxRecDepth 100000 in
theorem r_X11_thrown (l : Launch) (dC : Nat → ClassId) (dI : Nat → Nat → Nat) (L : List Nat) (kd : Nat → Nat) (tys : List (ClassId × FieldType)) (f0 : Nat → va_E) (sz : Nat) (hWT : WT L kd tys f0) (a0_ : Nat) (ma0_ : a0_ ∈ L) (ka0_ : kd a0_ = 11) (x1_ : Int32) : Met l yX11_thrown (.code yX11_thrown cX11_thrown 2 (some .int) :: lw_g) ({ frames := 1, cells := 0, slots := 0, locals := 26 }) (va_Pc [.ref a0_, .int x1_] (P3 (dC, dI) L tys f0 sz)) (va_Qi (fun (r : Int32) (f : Nat → va_E) => (True)) (Q3 (dC, dI) L kd tys [] [] f0 sz) (pA L sz)) 0 0 (pA L sz) := by
  refine Met.ofW (cc := cX11_thrown) (maxL := 2) (ret := (some .int)) (by decide) rfl ?_
  intro p e s m args below meth c s₁ B hml hv
  obtain ⟨rfl, hsz, hP, hK, hD0⟩ := hv
  have hx := B.exec
  have hb := B.bytes
  have hr := B.returns
  have hts := atoms_spec (ws := (.code yX11_thrown cX11_thrown 2 (some .int) :: lw_g)) B.pre
  have hown : s.vm.findClass RX11 = some m.cls := findClass_of_methodNamed B.named
  have hlocks := B.notSynchronized
  subst hsz
  have g : G3 (dC, dI) L kd tys s f0 [] [] f0 s.heap [] [] := G3.start hP hD0 hWT Fs.nil
  have hl := lv_entry ([.ref a0_, .int x1_]) (n := 2) (Nat.le_of_ble_eq_true rfl)
  rw [lg_entry_eq]
  generalize (lg_sl ([.ref a0_, .int x1_]) ++ List.replicate (2 - (lg_sl ([.ref a0_, .int x1_])).length) Slot.unset).toArray = ls at hl ⊢
  have hl : lv_has ls 2 [(0, .ref a0_), (1, .int x1_)] := hl
  refine W_q (fun Q hQ => ?_)
  refine lv_aload_n hx hb dX11_thrown_0 rfl (lv_at hl 0 rfl) ?_
  refine g_getr (K := 10) (C := RX11) (T := TX11) (N := 8) hx hb hts (mc_ inX11) hown hK g ma0_ ka0_ (by decide) rfl 3 (by decide) rfl (hts _ (List.mem_cons_of_mem _ t_951)) (fun _ h9 => h9) rfl dX11_thrown_1 (fun a_1 ma_1 ka_1 g => ?_)
  refine g_getr (K := 4) (C := RX10) (T := TX10) (N := 10) hx hb hts (mc_ inX10) hown hK g ma_1 ka_1 (by decide) rfl 4 (by decide) rfl (hts _ (List.mem_cons_of_mem _ t_918)) (fun _ h9 => h9) rfl dX11_thrown_4 (fun a_2 ma_2 ka_2 g => ?_)
  refine g_getl (C := RX4) (T := TX4) (N := 17) hx hb hts (mc_ inX4) hown hK g ma_2 ka_2 (by decide) rfl 5 (by decide) rfl (hts _ (List.mem_cons_of_mem _ t_849)) (fun _ h9 => h9) rfl dX11_thrown_7 (fun x_3 g => ?_)
  refine lv_iload_n hx hb dX11_thrown_10 rfl (lv_at hl 1 rfl) ?_
  refine g_calli (va_runS (As := [.long x_3, .int x1_]) (rest := []) ⟨hx, hb, hml, hown, hts⟩ (r_X8_letterOf l dC dI L kd tys f0 s.heap.size g.2.2.2.1 x_3 x1_) (va_cwS 2 hts (gS_ t_1802 t_1803 t_184 t_1804) rfl rfl rfl (by decide +kernel) ⟨(Nat.le_of_ble_eq_true rfl), (Nat.le_of_ble_eq_true rfl)⟩) (pre3S g hK) rfl rfl hl.1 rfl (lv_room (Nat.le_of_ble_eq_true rfl)) dX11_thrown_11 ⟨(Nat.le_of_ble_eq_true rfl), (Nat.le_of_ble_eq_true rfl)⟩) g hK (by decide) (by decide) (fx' := [(4, 5, a_2, .long x_3), (10, 4, a_1, .ref a_2), (11, 3, a0_, .ref a_1)]) rfl (fun r_4 fr_4 H locs hp hMr_4 g => ?_)
  subst hQ
  exact W.iret (v := r_4) hx hb hr (fun t ht hW => ⟨⟨_, _, rfl, trivial, q3_of g hK ht hW⟩, g.2.2.1.F ht⟩) g.2.2.1.2.2 dX11_thrown_14
set_option maxHeartbeats 4000000 in
set_option maxRecDepth 100000 in
theorem r_X11_row (l : Launch) (dC : Nat → ClassId) (dI : Nat → Nat → Nat) (L : List Nat) (kd : Nat → Nat) (tys : List (ClassId × FieldType)) (f0 : Nat → va_E) (sz : Nat) (hWT : WT L kd tys f0) (a0_ : Nat) (ma0_ : a0_ ∈ L) (ka0_ : kd a0_ = 11) : Met l yX11_row (.code yX11_row cX11_row 1 (some .int) :: lw_g) ({ frames := 0, cells := 0, slots := 0, locals := 0 }) (va_Pc [.ref a0_] (P3 (dC, dI) L tys f0 sz)) (va_Qi (fun (r : Int32) (f : Nat → va_E) => (bd 0 10 r ∧ True)) (Q3 (dC, dI) L kd tys [] [] f0 sz) (pA L sz)) 0 0 (pA L sz) := by
  refine Met.ofW (cc := cX11_row) (maxL := 1) (ret := (some .int)) (by decide) rfl ?_
  intro p e s m args below meth c s₁ B hml hv
  obtain ⟨rfl, hsz, hP, hK, hD0⟩ := hv
  have hx := B.exec
  have hb := B.bytes
  have hr := B.returns
  have hts := atoms_spec (ws := (.code yX11_row cX11_row 1 (some .int) :: lw_g)) B.pre
  have hown : s.vm.findClass RX11 = some m.cls := findClass_of_methodNamed B.named
  have hlocks := B.notSynchronized
  subst hsz
  have g : G3 (dC, dI) L kd tys s f0 [] [] f0 s.heap [] [] := G3.start hP hD0 hWT Fs.nil
  have hl := lv_entry ([.ref a0_]) (n := 1) (Nat.le_of_ble_eq_true rfl)
  rw [lg_entry_eq]
  generalize (lg_sl ([.ref a0_]) ++ List.replicate (1 - (lg_sl ([.ref a0_])).length) Slot.unset).toArray = ls at hl ⊢
  have hl : lv_has ls 1 [(0, .ref a0_)] := hl
  refine W_q (fun Q hQ => ?_)
  refine lv_aload_n hx hb dX11_row_0 rfl (lv_at hl 0 rfl) ?_
  refine g_getr (K := 10) (C := RX11) (T := TX11) (N := 8) hx hb hts (mc_ inX11) hown hK g ma0_ ka0_ (by decide) rfl 3 (by decide) rfl (hts _ (List.mem_cons_of_mem _ t_951)) (fun _ h9 => h9) rfl dX11_row_1 (fun a_1 ma_1 ka_1 g => ?_)
  refine g_getr (K := 3) (C := RX10) (T := TX10) (N := 10) hx hb hts (mc_ inX10) hown hK g ma_1 ka_1 (by decide) rfl 2 (by decide) rfl (hts _ (List.mem_cons_of_mem _ t_915)) (fun _ h9 => h9) rfl dX11_row_4 (fun a_2 ma_2 ka_2 g => ?_)
  refine g_geti (C := RX3) (T := TX3) (N := 6) hx hb hts (mc_ inX3) hown hK g ma_2 ka_2 (by decide) rfl 0 (by decide) rfl (hts _ (List.mem_cons_of_mem _ t_803)) (fun _ h9 => h9) rfl dX11_row_7 (fun x_3 bx_3 g => ?_)
  subst hQ
  exact W.iret (v := x_3) hx hb hr (fun t ht hW => ⟨⟨_, _, rfl, ⟨bx_3, trivial⟩, q3_of g hK ht hW⟩, g.2.2.1.F ht⟩) g.2.2.1.2.2 dX11_row_10
set_option maxHeartbeats 4000000 in
set_option maxRecDepth 100000 in
theorem r_X11_told (l : Launch) (dC : Nat → ClassId) (dI : Nat → Nat → Nat) (L : List Nat) (kd : Nat → Nat) (tys : List (ClassId × FieldType)) (f0 : Nat → va_E) (sz : Nat) (hWT : WT L kd tys f0) (a0_ : Nat) (ma0_ : a0_ ∈ L) (ka0_ : kd a0_ = 11) (x1_ : Int32) (x2_ : Int32) : Met l yX11_told (.code yX11_told cX11_told 4 (some .int) :: lw_g) ({ frames := 0, cells := 0, slots := 0, locals := 0 }) (va_Pc [.ref a0_, .int x1_, .int x2_] (P3 (dC, dI) L tys f0 sz)) (va_Qi (fun (r : Int32) (f : Nat → va_E) => (True)) (Q3 (dC, dI) L kd tys [] [] f0 sz) (pA L sz)) 0 0 (pA L sz) := by
  refine Met.ofW (cc := cX11_told) (maxL := 4) (ret := (some .int)) (by decide) rfl ?_
  intro p e s m args below meth c s₁ B hml hv
  obtain ⟨rfl, hsz, hP, hK, hD0⟩ := hv
  have hx := B.exec
  have hb := B.bytes
  have hr := B.returns
  have hts := atoms_spec (ws := (.code yX11_told cX11_told 4 (some .int) :: lw_g)) B.pre
  have hown : s.vm.findClass RX11 = some m.cls := findClass_of_methodNamed B.named
  have hlocks := B.notSynchronized
  subst hsz
  have g : G3 (dC, dI) L kd tys s f0 [] [] f0 s.heap [] [] := G3.start hP hD0 hWT Fs.nil
  have hl := lv_entry ([.ref a0_, .int x1_, .int x2_]) (n := 4) (Nat.le_of_ble_eq_true rfl)
  rw [lg_entry_eq]
  generalize (lg_sl ([.ref a0_, .int x1_, .int x2_]) ++ List.replicate (4 - (lg_sl ([.ref a0_, .int x1_, .int x2_])).length) Slot.unset).toArray = ls at hl ⊢
  have hl : lv_has ls 4 [(0, .ref a0_), (1, .int x1_), (2, .int x2_)] := hl
  refine W_q (fun Q hQ => ?_)
  refine lv_aload_n hx hb dX11_told_0 rfl (lv_at hl 0 rfl) ?_
  refine g_getr (K := 10) (C := RX11) (T := TX11) (N := 8) hx hb hts (mc_ inX11) hown hK g ma0_ ka0_ (by decide) rfl 3 (by decide) rfl (hts _ (List.mem_cons_of_mem _ t_951)) (fun _ h9 => h9) rfl dX11_told_1 (fun a_1 ma_1 ka_1 g => ?_)
  refine g_getr (K := 3) (C := RX10) (T := TX10) (N := 10) hx hb hts (mc_ inX10) hown hK g ma_1 ka_1 (by decide) rfl 2 (by decide) rfl (hts _ (List.mem_cons_of_mem _ t_915)) (fun _ h9 => h9) rfl dX11_told_4 (fun a_2 ma_2 ka_2 g => ?_)
  refine lv_astore_n (lv' := [(3, .ref a_2), (0, .ref a0_), (1, .int x1_), (2, .int x2_)]) hx hb dX11_told_7 rfl hl (by decide) rfl (fun ls hl => ?_)
  refine lv_iload_n hx hb dX11_told_8 rfl (lv_at hl 2 rfl) ?_
  have kb_0 : bd 0 0 (0 : Int32) := ⟨by decide, by decide⟩
  refine lv_if_lt (tgt := 20) hx hb dX11_told_9 (by decide) (fun c_3 => ?_) (fun c_3 => ?_)
  · have fc_3 := lt_f c_3
    have b_4 : bd (-2147483648) (-1) x1_ := ltL fc_3 (bdT x1_) kb_0 (by decide)
    refine lv_iconst (v := (-1)) hx hb dX11_told_20 (by decide) ?_
    subst hQ
    exact W.iret (v := (-1)) hx hb hr (fun t ht hW => ⟨⟨_, _, rfl, trivial, q3_of g hK ht hW⟩, g.2.2.1.F ht⟩) g.2.2.1.2.2 dX11_told_21
  · have fc_3 := nlt_f c_3
    have b_5 : bd 0 2147483647 x1_ := leR fc_3 kb_0 (bdT x1_) (by decide)
    refine lv_iload_n hx hb dX11_told_12 rfl (lv_at hl 2 rfl) ?_
    refine lv_aload_n hx hb dX11_told_13 rfl (lv_at hl 0 rfl) ?_
    refine g_geti (C := RX3) (T := TX3) (N := 6) hx hb hts (mc_ inX3) hown hK g ma_2 ka_2 (by decide) rfl 0 (by decide) rfl (hts _ (List.mem_cons_of_mem _ t_803)) (fun _ h9 => h9) rfl dX11_told_14 (fun x_6 bx_6 g => ?_)
    refine lv_icmp_lt (tgt := 22) hx hb dX11_told_17 (by decide) (fun c_7 => ?_) (fun c_7 => ?_)
    · have fc_7 := lt_f c_7
      have b_8 : bd 0 9 x1_ := ltL fc_7 b_5 bx_6 (by decide)
      have b_9 : bd 1 10 x_6 := ltR fc_7 b_5 bx_6 (by decide)
      refine lv_iload_n hx hb dX11_told_22 rfl (lv_at hl 3 rfl) ?_
      by_cases e_10 : x2_ = 0
      · refine lv_topi (fun z_11 ez_11 => ?_)
        obtain rfl : z_11 = 0 := ez_11.trans e_10
        have b_12 : bd 0 0 x2_ := eqX (eq_f e_10) (bdT x2_) kb_0 (by decide)
        refine lv_tableIn (off := 41) (tgt := 64) hx hb dX11_told_23 (by decide) (by decide) rfl (by decide) ?_
        refine lv_aload_n hx hb dX11_told_64 rfl (lv_at hl 0 rfl) ?_
        refine g_getr (K := 122) (C := RX3) (T := TX3) (N := 6) hx hb hts (mc_ inX3) hown hK g ma_2 ka_2 (by decide) rfl 1 (by decide) rfl (hts _ (List.mem_cons_of_mem _ t_806)) (fun _ h9 => h9) rfl dX11_told_65 (fun a_13 ma_13 ka_13 g => ?_)
        refine lv_iload_n hx hb dX11_told_68 rfl (lv_at hl 2 rfl) ?_
        refine g_iald hx hb hK g ma_13 ka_13 (by decide) rfl (in_bd b_8 (by decide)) dX11_told_69 (fun x_14 bx_14 cx_14 => ?_)
        subst hQ
        exact W.iret (v := x_14) hx hb hr (fun t ht hW => ⟨⟨_, _, rfl, trivial, q3_of g hK ht hW⟩, g.2.2.1.F ht⟩) g.2.2.1.2.2 dX11_told_70
      by_cases e_15 : x2_ = 1
      · refine lv_topi (fun z_16 ez_16 => ?_)
        obtain rfl : z_16 = 1 := ez_16.trans e_15
        have kb_1 : bd 1 1 (1 : Int32) := ⟨by decide, by decide⟩
        have b_17 : bd 1 1 x2_ := eqX (eq_f e_15) (bdT x2_) kb_1 (by decide)
        refine lv_tableIn (off := 48) (tgt := 71) hx hb dX11_told_23 (by decide) (by decide) rfl (by decide) ?_
        refine lv_aload_n hx hb dX11_told_71 rfl (lv_at hl 0 rfl) ?_
        refine g_getr (K := 123) (C := RX3) (T := TX3) (N := 6) hx hb hts (mc_ inX3) hown hK g ma_2 ka_2 (by decide) rfl 2 (by decide) rfl (hts _ (List.mem_cons_of_mem _ t_809)) (fun _ h9 => h9) rfl dX11_told_72 (fun a_18 ma_18 ka_18 g => ?_)
        refine lv_iload_n hx hb dX11_told_75 rfl (lv_at hl 2 rfl) ?_
        refine g_iald hx hb hK g ma_18 ka_18 (by decide) rfl (in_bd b_8 (by decide)) dX11_told_76 (fun x_19 bx_19 cx_19 => ?_)
        subst hQ
        exact W.iret (v := x_19) hx hb hr (fun t ht hW => ⟨⟨_, _, rfl, trivial, q3_of g hK ht hW⟩, g.2.2.1.F ht⟩) g.2.2.1.2.2 dX11_told_77
      by_cases e_20 : x2_ = 2
      · refine lv_topi (fun z_21 ez_21 => ?_)
        obtain rfl : z_21 = 2 := ez_21.trans e_20
        have kb_2 : bd 2 2 (2 : Int32) := ⟨by decide, by decide⟩
        have b_22 : bd 2 2 x2_ := eqX (eq_f e_20) (bdT x2_) kb_2 (by decide)
        refine lv_tableIn (off := 55) (tgt := 78) hx hb dX11_told_23 (by decide) (by decide) rfl (by decide) ?_
        refine lv_aload_n hx hb dX11_told_78 rfl (lv_at hl 0 rfl) ?_
        refine g_getr (K := 124) (C := RX3) (T := TX3) (N := 6) hx hb hts (mc_ inX3) hown hK g ma_2 ka_2 (by decide) rfl 3 (by decide) rfl (hts _ (List.mem_cons_of_mem _ t_812)) (fun _ h9 => h9) rfl dX11_told_79 (fun a_23 ma_23 ka_23 g => ?_)
        refine lv_iload_n hx hb dX11_told_82 rfl (lv_at hl 2 rfl) ?_
        refine g_aald hx hb hK g ma_23 ka_23 (by decide) rfl (by decide) (in_bd b_8 (by decide)) dX11_told_83 (fun a_24 ma_24 ua_24 wa_24 => ?_)
        have ka_24 : kd a_24 = 103 := by omega
        refine lv_iconst (v := 0) hx hb dX11_told_84 (by decide) ?_
        refine g_iald hx hb hK g ma_24 ka_24 (by decide) rfl (by unfold vp_in; decide) dX11_told_85 (fun x_25 bx_25 cx_25 => ?_)
        subst hQ
        exact W.iret (v := x_25) hx hb hr (fun t ht hW => ⟨⟨_, _, rfl, trivial, q3_of g hK ht hW⟩, g.2.2.1.F ht⟩) g.2.2.1.2.2 dX11_told_86
      by_cases e_26 : x2_ = 3
      · refine lv_topi (fun z_27 ez_27 => ?_)
        obtain rfl : z_27 = 3 := ez_27.trans e_26
        have kb_3 : bd 3 3 (3 : Int32) := ⟨by decide, by decide⟩
        have b_28 : bd 3 3 x2_ := eqX (eq_f e_26) (bdT x2_) kb_3 (by decide)
        refine lv_tableIn (off := 64) (tgt := 87) hx hb dX11_told_23 (by decide) (by decide) rfl (by decide) ?_
        refine lv_aload_n hx hb dX11_told_87 rfl (lv_at hl 0 rfl) ?_
        refine g_getr (K := 124) (C := RX3) (T := TX3) (N := 6) hx hb hts (mc_ inX3) hown hK g ma_2 ka_2 (by decide) rfl 3 (by decide) rfl (hts _ (List.mem_cons_of_mem _ t_812)) (fun _ h9 => h9) rfl dX11_told_88 (fun a_29 ma_29 ka_29 g => ?_)
        refine lv_iload_n hx hb dX11_told_91 rfl (lv_at hl 2 rfl) ?_
        refine g_aald hx hb hK g ma_29 ka_29 (by decide) rfl (by decide) (in_bd b_8 (by decide)) dX11_told_92 (fun a_30 ma_30 ua_30 wa_30 => ?_)
        have ka_30 : kd a_30 = 103 := by omega
        refine lv_iconst (v := 1) hx hb dX11_told_93 (by decide) ?_
        refine g_iald hx hb hK g ma_30 ka_30 (by decide) rfl (by unfold vp_in; decide) dX11_told_94 (fun x_31 bx_31 cx_31 => ?_)
        subst hQ
        exact W.iret (v := x_31) hx hb hr (fun t ht hW => ⟨⟨_, _, rfl, trivial, q3_of g hK ht hW⟩, g.2.2.1.F ht⟩) g.2.2.1.2.2 dX11_told_95
      by_cases e_32 : x2_ = 4
      · refine lv_topi (fun z_33 ez_33 => ?_)
        obtain rfl : z_33 = 4 := ez_33.trans e_32
        have kb_4 : bd 4 4 (4 : Int32) := ⟨by decide, by decide⟩
        have b_34 : bd 4 4 x2_ := eqX (eq_f e_32) (bdT x2_) kb_4 (by decide)
        refine lv_tableIn (off := 73) (tgt := 96) hx hb dX11_told_23 (by decide) (by decide) rfl (by decide) ?_
        refine lv_aload_n hx hb dX11_told_96 rfl (lv_at hl 0 rfl) ?_
        refine g_getr (K := 124) (C := RX3) (T := TX3) (N := 6) hx hb hts (mc_ inX3) hown hK g ma_2 ka_2 (by decide) rfl 3 (by decide) rfl (hts _ (List.mem_cons_of_mem _ t_812)) (fun _ h9 => h9) rfl dX11_told_97 (fun a_35 ma_35 ka_35 g => ?_)
        refine lv_iload_n hx hb dX11_told_100 rfl (lv_at hl 2 rfl) ?_
        refine g_aald hx hb hK g ma_35 ka_35 (by decide) rfl (by decide) (in_bd b_8 (by decide)) dX11_told_101 (fun a_36 ma_36 ua_36 wa_36 => ?_)
        have ka_36 : kd a_36 = 103 := by omega
        refine lv_iconst (v := 2) hx hb dX11_told_102 (by decide) ?_
        refine g_iald hx hb hK g ma_36 ka_36 (by decide) rfl (by unfold vp_in; decide) dX11_told_103 (fun x_37 bx_37 cx_37 => ?_)
        subst hQ
        exact W.iret (v := x_37) hx hb hr (fun t ht hW => ⟨⟨_, _, rfl, trivial, q3_of g hK ht hW⟩, g.2.2.1.F ht⟩) g.2.2.1.2.2 dX11_told_104
      by_cases e_38 : x2_ = 5
      · refine lv_topi (fun z_39 ez_39 => ?_)
        obtain rfl : z_39 = 5 := ez_39.trans e_38
        have kb_5 : bd 5 5 (5 : Int32) := ⟨by decide, by decide⟩
        have b_40 : bd 5 5 x2_ := eqX (eq_f e_38) (bdT x2_) kb_5 (by decide)
        refine lv_tableIn (off := 82) (tgt := 105) hx hb dX11_told_23 (by decide) (by decide) rfl (by decide) ?_
        refine lv_aload_n hx hb dX11_told_105 rfl (lv_at hl 1 rfl) ?_
        refine g_getk (C := RX11) (T := TX11) (N := 8) hx hb hts (mc_ inX11) hown hK g rfl 3 (by decide) rfl (hts _ (List.mem_cons_of_mem _ t_951)) (fun _ h9 => h9) 2 rfl dX11_told_106 ?_
        refine g_getr (K := 4) (C := RX10) (T := TX10) (N := 10) hx hb hts (mc_ inX10) hown hK g ma_1 ka_1 (by decide) rfl 4 (by decide) rfl (hts _ (List.mem_cons_of_mem _ t_918)) (fun _ h9 => h9) rfl dX11_told_109 (fun a_41 ma_41 ka_41 g => ?_)
        refine g_getr (K := 130) (C := RX4) (T := TX4) (N := 17) hx hb hts (mc_ inX4) hown hK g ma_41 ka_41 (by decide) rfl 12 (by decide) rfl (hts _ (List.mem_cons_of_mem _ t_869)) (fun _ h9 => h9) rfl dX11_told_112 (fun a_42 ma_42 ka_42 g => ?_)
        refine lv_iload_n hx hb dX11_told_115 rfl (lv_at hl 2 rfl) ?_
        refine g_iald hx hb hK g ma_42 ka_42 (by decide) rfl (in_bd b_8 (by decide)) dX11_told_116 (fun x_43 bx_43 cx_43 => ?_)
        subst hQ
        exact W.iret (v := x_43) hx hb hr (fun t ht hW => ⟨⟨_, _, rfl, trivial, q3_of g hK ht hW⟩, g.2.2.1.F ht⟩) g.2.2.1.2.2 dX11_told_117
      by_cases e_44 : x2_ = 6
      · refine lv_topi (fun z_45 ez_45 => ?_)
        obtain rfl : z_45 = 6 := ez_45.trans e_44
        have kb_6 : bd 6 6 (6 : Int32) := ⟨by decide, by decide⟩
        have b_46 : bd 6 6 x2_ := eqX (eq_f e_44) (bdT x2_) kb_6 (by decide)
        refine lv_tableIn (off := 95) (tgt := 118) hx hb dX11_told_23 (by decide) (by decide) rfl (by decide) ?_
        refine lv_aload_n hx hb dX11_told_118 rfl (lv_at hl 1 rfl) ?_
        refine g_getk (C := RX11) (T := TX11) (N := 8) hx hb hts (mc_ inX11) hown hK g rfl 3 (by decide) rfl (hts _ (List.mem_cons_of_mem _ t_951)) (fun _ h9 => h9) 2 rfl dX11_told_119 ?_
        refine g_getr (K := 4) (C := RX10) (T := TX10) (N := 10) hx hb hts (mc_ inX10) hown hK g ma_1 ka_1 (by decide) rfl 4 (by decide) rfl (hts _ (List.mem_cons_of_mem _ t_918)) (fun _ h9 => h9) rfl dX11_told_122 (fun a_47 ma_47 ka_47 g => ?_)
        refine g_getr (K := 131) (C := RX4) (T := TX4) (N := 17) hx hb hts (mc_ inX4) hown hK g ma_47 ka_47 (by decide) rfl 13 (by decide) rfl (hts _ (List.mem_cons_of_mem _ t_872)) (fun _ h9 => h9) rfl dX11_told_125 (fun a_48 ma_48 ka_48 g => ?_)
        refine lv_iload_n hx hb dX11_told_128 rfl (lv_at hl 2 rfl) ?_
        refine g_iald hx hb hK g ma_48 ka_48 (by decide) rfl (in_bd b_8 (by decide)) dX11_told_129 (fun x_49 bx_49 cx_49 => ?_)
        subst hQ
        exact W.iret (v := x_49) hx hb hr (fun t ht hW => ⟨⟨_, _, rfl, trivial, q3_of g hK ht hW⟩, g.2.2.1.F ht⟩) g.2.2.1.2.2 dX11_told_130
      refine lv_tableOut (tgt := 131) hx hb dX11_told_23 (by have a0 : x2_.toInt ≠ 0 := fun h => e_10 (Int32.toInt_inj.mp (h.trans (by decide))); have a1 : x2_.toInt ≠ 1 := fun h => e_15 (Int32.toInt_inj.mp (h.trans (by decide))); have a2 : x2_.toInt ≠ 2 := fun h => e_20 (Int32.toInt_inj.mp (h.trans (by decide))); have a3 : x2_.toInt ≠ 3 := fun h => e_26 (Int32.toInt_inj.mp (h.trans (by decide))); have a4 : x2_.toInt ≠ 4 := fun h => e_32 (Int32.toInt_inj.mp (h.trans (by decide))); have a5 : x2_.toInt ≠ 5 := fun h => e_38 (Int32.toInt_inj.mp (h.trans (by decide))); have a6 : x2_.toInt ≠ 6 := fun h => e_44 (Int32.toInt_inj.mp (h.trans (by decide))); omega) (by decide) ?_
      refine lv_iconst (v := (-1)) hx hb dX11_told_131 (by decide) ?_
      subst hQ
      exact W.iret (v := (-1)) hx hb hr (fun t ht hW => ⟨⟨_, _, rfl, trivial, q3_of g hK ht hW⟩, g.2.2.1.F ht⟩) g.2.2.1.2.2 dX11_told_132
    · have fc_7 := nlt_f c_7
      refine lv_iconst (v := (-1)) hx hb dX11_told_20 (by decide) ?_
      subst hQ
      exact W.iret (v := (-1)) hx hb hr (fun t ht hW => ⟨⟨_, _, rfl, trivial, q3_of g hK ht hW⟩, g.2.2.1.F ht⟩) g.2.2.1.2.2 dX11_told_21
set_option maxHeartbeats 4000000 in
set_option maxRecDepth 100000 in
theorem r_X7_cellsOf (l : Launch) (dC : Nat → ClassId) (dI : Nat → Nat → Nat) (L : List Nat) (kd : Nat → Nat) (tys : List (ClassId × FieldType)) (f0 : Nat → va_E) (sz : Nat) (hWT : WT L kd tys f0) (a0_ : Nat) (ma0_ : a0_ ∈ L) (ka0_ : kd a0_ = 7) (x1_ : Int32) : Met l yX7_cellsOf (.code yX7_cellsOf cX7_cellsOf 2 (some .int) :: lw_g) ({ frames := 0, cells := 0, slots := 0, locals := 0 }) (va_Pc [.ref a0_, .int x1_] (P3 (dC, dI) L tys f0 sz)) (va_Qi (fun (r : Int32) (f : Nat → va_E) => (bd 0 24 r ∧ True)) (Q3 (dC, dI) L kd tys [] [] f0 sz) (pA L sz)) 0 0 (pA L sz) := by
  refine Met.ofW (cc := cX7_cellsOf) (maxL := 2) (ret := (some .int)) (by decide) rfl ?_
  intro p e s m args below meth c s₁ B hml hv
  obtain ⟨rfl, hsz, hP, hK, hD0⟩ := hv
  have hx := B.exec
  have hb := B.bytes
  have hr := B.returns
  have hts := atoms_spec (ws := (.code yX7_cellsOf cX7_cellsOf 2 (some .int) :: lw_g)) B.pre
  have hown : s.vm.findClass RX7 = some m.cls := findClass_of_methodNamed B.named
  have hlocks := B.notSynchronized
  subst hsz
  have g : G3 (dC, dI) L kd tys s f0 [] [] f0 s.heap [] [] := G3.start hP hD0 hWT Fs.nil
  have hl := lv_entry ([.ref a0_, .int x1_]) (n := 2) (Nat.le_of_ble_eq_true rfl)
  rw [lg_entry_eq]
  generalize (lg_sl ([.ref a0_, .int x1_]) ++ List.replicate (2 - (lg_sl ([.ref a0_, .int x1_])).length) Slot.unset).toArray = ls at hl ⊢
  have hl : lv_has ls 2 [(0, .ref a0_), (1, .int x1_)] := hl
  refine W_q (fun Q hQ => ?_)
  refine lv_iload_n hx hb dX7_cellsOf_0 rfl (lv_at hl 1 rfl) ?_
  have kb_0 : bd 0 0 (0 : Int32) := ⟨by decide, by decide⟩
  refine lv_if_lt (tgt := 24) hx hb dX7_cellsOf_1 (by decide) (fun c_1 => ?_) (fun c_1 => ?_)
  · have fc_1 := lt_f c_1
    have b_2 : bd (-2147483648) (-1) x1_ := ltL fc_1 (bdT x1_) kb_0 (by decide)
    refine lv_iconst (v := 0) hx hb dX7_cellsOf_24 (by decide) ?_
    subst hQ
    exact W.iret (v := 0) hx hb hr (fun t ht hW => ⟨⟨_, _, rfl, ⟨(bd_sub kb_0 (by decide)), trivial⟩, q3_of g hK ht hW⟩, g.2.2.1.F ht⟩) g.2.2.1.2.2 dX7_cellsOf_25
  · have fc_1 := nlt_f c_1
    have b_3 : bd 0 2147483647 x1_ := leR fc_1 kb_0 (bdT x1_) (by decide)
    refine lv_iload_n hx hb dX7_cellsOf_4 rfl (lv_at hl 1 rfl) ?_
    refine lv_aload_n hx hb dX7_cellsOf_5 rfl (lv_at hl 0 rfl) ?_
    refine g_geti (C := RX7) (T := TX7) (N := 19) hx hb hts (mc_ inX7) hown hK g ma0_ ka0_ (by decide) rfl 1 (by decide) rfl (hts _ (List.mem_cons_of_mem _ t_626)) (fun _ h9 => h9) rfl dX7_cellsOf_6 (fun x_4 bx_4 g => ?_)
    refine lv_icmp_ge (tgt := 24) hx hb dX7_cellsOf_9 (by decide) (fun c_5 => ?_) (fun c_5 => ?_)
    · have fc_5 := le_f c_5
      refine lv_iconst (v := 0) hx hb dX7_cellsOf_24 (by decide) ?_
      subst hQ
      exact W.iret (v := 0) hx hb hr (fun t ht hW => ⟨⟨_, _, rfl, ⟨(bd_sub kb_0 (by decide)), trivial⟩, q3_of g hK ht hW⟩, g.2.2.1.F ht⟩) g.2.2.1.2.2 dX7_cellsOf_25
    · have fc_5 := nle_f c_5
      have b_6 : bd 0 7 x1_ := ltL fc_5 b_3 bx_4 (by decide)
      have b_7 : bd 1 8 x_4 := ltR fc_5 b_3 bx_4 (by decide)
      refine lv_aload_n hx hb dX7_cellsOf_12 rfl (lv_at hl 0 rfl) ?_
      refine g_getr (K := 136) (C := RX7) (T := TX7) (N := 19) hx hb hts (mc_ inX7) hown hK g ma0_ ka0_ (by decide) rfl 0 (by decide) rfl (hts _ (List.mem_cons_of_mem _ t_620)) (fun _ h9 => h9) rfl dX7_cellsOf_13 (fun a_8 ma_8 ka_8 g => ?_)
      refine lv_iload_n hx hb dX7_cellsOf_16 rfl (lv_at hl 1 rfl) ?_
      refine g_aald hx hb hK g ma_8 ka_8 (by decide) rfl (by decide) (in_bd b_6 (by decide)) dX7_cellsOf_17 (fun a_9 ma_9 ua_9 wa_9 => ?_)
      have ka_9 : kd a_9 = 9 := by omega
      refine g_geti (C := RX9) (T := TX9) (N := 13) hx hb hts (mc_ inX9) hown hK g ma_9 ka_9 (by decide) rfl 7 (by decide) rfl (hts _ (List.mem_cons_of_mem _ t_494)) (fun _ h9 => h9) rfl dX7_cellsOf_18 (fun x_10 bx_10 g => ?_)
      refine lv_goto (tgt := 25) hx hb dX7_cellsOf_21 (by decide) ?_
      subst hQ
      exact W.iret (v := x_10) hx hb hr (fun t ht hW => ⟨⟨_, _, rfl, ⟨bx_10, trivial⟩, q3_of g hK ht hW⟩, g.2.2.1.F ht⟩) g.2.2.1.2.2 dX7_cellsOf_25
set_option maxHeartbeats 4000000 in
set_option maxRecDepth 100000 in
theorem r_X11_cell (l : Launch) (dC : Nat → ClassId) (dI : Nat → Nat → Nat) (L : List Nat) (kd : Nat → Nat) (tys : List (ClassId × FieldType)) (f0 : Nat → va_E) (sz : Nat) (hWT : WT L kd tys f0) (a0_ : Nat) (ma0_ : a0_ ∈ L) (ka0_ : kd a0_ = 11) (x1_ : Int32) (x2_ : Int32) : Met l yX11_cell (.code yX11_cell cX11_cell 4 (some .long) :: lw_g) ({ frames := 1, cells := 0, slots := 0, locals := 21 }) (va_Pc [.ref a0_, .int x1_, .int x2_] (P3 (dC, dI) L tys f0 sz)) (va_Ql (fun (r : Int64) (f : Nat → va_E) => (True)) (Q3 (dC, dI) L kd tys [] [] f0 sz) (pA L sz)) 0 0 (pA L sz) := by
  refine Met.ofW (cc := cX11_cell) (maxL := 4) (ret := (some .long)) (by decide) rfl ?_
  intro p e s m args below meth c s₁ B hml hv
  obtain ⟨rfl, hsz, hP, hK, hD0⟩ := hv
  have hx := B.exec
  have hb := B.bytes
  have hr := B.returns
  have hts := atoms_spec (ws := (.code yX11_cell cX11_cell 4 (some .long) :: lw_g)) B.pre
  have hown : s.vm.findClass RX11 = some m.cls := findClass_of_methodNamed B.named
  have hlocks := B.notSynchronized
  subst hsz
  have g : G3 (dC, dI) L kd tys s f0 [] [] f0 s.heap [] [] := G3.start hP hD0 hWT Fs.nil
  have hl := lv_entry ([.ref a0_, .int x1_, .int x2_]) (n := 4) (Nat.le_of_ble_eq_true rfl)
  rw [lg_entry_eq]
  generalize (lg_sl ([.ref a0_, .int x1_, .int x2_]) ++ List.replicate (4 - (lg_sl ([.ref a0_, .int x1_, .int x2_])).length) Slot.unset).toArray = ls at hl ⊢
  have hl : lv_has ls 4 [(0, .ref a0_), (1, .int x1_), (2, .int x2_)] := hl
  refine W_q (fun Q hQ => ?_)
  refine lv_aload_n hx hb dX11_cell_0 rfl (lv_at hl 0 rfl) ?_
  refine g_getr (K := 10) (C := RX11) (T := TX11) (N := 8) hx hb hts (mc_ inX11) hown hK g ma0_ ka0_ (by decide) rfl 3 (by decide) rfl (hts _ (List.mem_cons_of_mem _ t_951)) (fun _ h9 => h9) rfl dX11_cell_1 (fun a_1 ma_1 ka_1 g => ?_)
  refine g_getr (K := 4) (C := RX10) (T := TX10) (N := 10) hx hb hts (mc_ inX10) hown hK g ma_1 ka_1 (by decide) rfl 4 (by decide) rfl (hts _ (List.mem_cons_of_mem _ t_918)) (fun _ h9 => h9) rfl dX11_cell_4 (fun a_2 ma_2 ka_2 g => ?_)
  refine lv_astore_n (lv' := [(3, .ref a_2), (0, .ref a0_), (1, .int x1_), (2, .int x2_)]) hx hb dX11_cell_7 rfl hl (by decide) rfl (fun ls hl => ?_)
  refine lv_iload_n hx hb dX11_cell_8 rfl (lv_at hl 2 rfl) ?_
  have kb_0 : bd 0 0 (0 : Int32) := ⟨by decide, by decide⟩
  refine lv_if_lt (tgt := 41) hx hb dX11_cell_9 (by decide) (fun c_3 => ?_) (fun c_3 => ?_)
  · have fc_3 := lt_f c_3
    have b_4 : bd (-2147483648) (-1) x1_ := ltL fc_3 (bdT x1_) kb_0 (by decide)
    refine lv_ldc2 (v := (-9223372036854775808)) hx hb hown (hts _ (List.mem_cons_of_mem _ t_1821)) dX11_cell_41 ?_
    subst hQ
    exact W.lret (v := (-9223372036854775808)) hx hb hr (fun t ht hW => ⟨⟨_, _, rfl, trivial, q3_of g hK ht hW⟩, g.2.2.1.F ht⟩) g.2.2.1.2.2 dX11_cell_44
  · have fc_3 := nlt_f c_3
    have b_5 : bd 0 2147483647 x1_ := leR fc_3 kb_0 (bdT x1_) (by decide)
    refine lv_iload_n hx hb dX11_cell_12 rfl (lv_at hl 2 rfl) ?_
    refine lv_aload_n hx hb dX11_cell_13 rfl (lv_at hl 0 rfl) ?_
    refine g_geti (C := RX4) (T := TX4) (N := 17) hx hb hts (mc_ inX4) hown hK g ma_2 ka_2 (by decide) rfl 6 (by decide) rfl (hts _ (List.mem_cons_of_mem _ t_852)) (fun _ h9 => h9) rfl dX11_cell_14 (fun x_6 bx_6 g => ?_)
    refine lv_icmp_ge (tgt := 41) hx hb dX11_cell_17 (by decide) (fun c_7 => ?_) (fun c_7 => ?_)
    · have fc_7 := le_f c_7
      refine lv_ldc2 (v := (-9223372036854775808)) hx hb hown (hts _ (List.mem_cons_of_mem _ t_1821)) dX11_cell_41 ?_
      subst hQ
      exact W.lret (v := (-9223372036854775808)) hx hb hr (fun t ht hW => ⟨⟨_, _, rfl, trivial, q3_of g hK ht hW⟩, g.2.2.1.F ht⟩) g.2.2.1.2.2 dX11_cell_44
    · have fc_7 := nle_f c_7
      have b_8 : bd 0 2 x1_ := ltL fc_7 b_5 bx_6 (by decide)
      have b_9 : bd 1 3 x_6 := ltR fc_7 b_5 bx_6 (by decide)
      refine lv_iload_n hx hb dX11_cell_20 rfl (lv_at hl 3 rfl) ?_
      refine lv_if_lt (tgt := 41) hx hb dX11_cell_21 (by decide) (fun c_10 => ?_) (fun c_10 => ?_)
      · have fc_10 := lt_f c_10
        have b_11 : bd (-2147483648) (-1) x2_ := ltL fc_10 (bdT x2_) kb_0 (by decide)
        refine lv_ldc2 (v := (-9223372036854775808)) hx hb hown (hts _ (List.mem_cons_of_mem _ t_1821)) dX11_cell_41 ?_
        subst hQ
        exact W.lret (v := (-9223372036854775808)) hx hb hr (fun t ht hW => ⟨⟨_, _, rfl, trivial, q3_of g hK ht hW⟩, g.2.2.1.F ht⟩) g.2.2.1.2.2 dX11_cell_44
      · have fc_10 := nlt_f c_10
        have b_12 : bd 0 2147483647 x2_ := leR fc_10 kb_0 (bdT x2_) (by decide)
        refine lv_iload_n hx hb dX11_cell_24 rfl (lv_at hl 3 rfl) ?_
        refine lv_aload_n hx hb dX11_cell_25 rfl (lv_at hl 1 rfl) ?_
        refine g_getr (K := 7) (C := RX11) (T := TX11) (N := 8) hx hb hts (mc_ inX11) hown hK g ma0_ ka0_ (by decide) rfl 4 (by decide) rfl (hts _ (List.mem_cons_of_mem _ t_952)) (fun _ h9 => h9) rfl dX11_cell_26 (fun a_13 ma_13 ka_13 g => ?_)
        refine lv_aload_n hx hb dX11_cell_29 rfl (lv_at hl 0 rfl) ?_
        refine g_getr (K := 126) (C := RX4) (T := TX4) (N := 17) hx hb hts (mc_ inX4) hown hK g ma_2 ka_2 (by decide) rfl 7 (by decide) rfl (hts _ (List.mem_cons_of_mem _ t_855)) (fun _ h9 => h9) rfl dX11_cell_30 (fun a_14 ma_14 ka_14 g => ?_)
        refine lv_iload_n hx hb dX11_cell_33 rfl (lv_at hl 2 rfl) ?_
        refine g_iald hx hb hK g ma_14 ka_14 (by decide) rfl (in_bd b_8 (by decide)) dX11_cell_34 (fun x_15 bx_15 cx_15 => ?_)
        refine g_calli (va_runV (As := [.int x_15]) (rest := [.int x2_]) ⟨hx, hb, hml, hown, hts⟩ (r_X7_cellsOf l dC dI L kd tys f0 s.heap.size g.2.2.2.1 a_13 ma_13 ka_13 x_15) (cwV 1 hts (gV_ t_1817 t_1818 t_1819 t_191 t_1820) rfl rfl rfl (by decide +kernel) ⟨(Nat.le_of_ble_eq_true rfl), (Nat.le_of_ble_eq_true rfl)⟩) (pre3V g hK ma_13 ka_13 (by decide) (q := (RX7, TX7, 19)) rfl) rfl rfl hl.1 rfl (lv_room (Nat.le_of_ble_eq_true rfl)) dX11_cell_35 ⟨(Nat.le_of_ble_eq_true rfl), (Nat.le_of_ble_eq_true rfl)⟩) g hK (by decide) (by decide) (fx' := [(4, 7, a_2, .ref a_14), (11, 4, a0_, .ref a_13), (4, 6, a_2, .int x_6), (10, 4, a_1, .ref a_2), (11, 3, a0_, .ref a_1)]) rfl (fun r_16 fr_16 H locs hp hMr_16 g => ?_)
        obtain ⟨h_17, -⟩ := hp
        refine lv_icmp_lt (tgt := 45) hx hb dX11_cell_38 (by decide) (fun c_18 => ?_) (fun c_18 => ?_)
        · have fc_18 := lt_f c_18
          have b_19 : bd 0 23 x2_ := ltL fc_18 b_12 h_17 (by decide)
          have b_20 : bd 1 24 r_16 := ltR fc_18 b_12 h_17 (by decide)
          refine lv_aload_n hx hb dX11_cell_45 rfl (lv_at hl 0 rfl) ?_
          refine g_getr (K := 128) (C := RX4) (T := TX4) (N := 17) hx hb hts (mc_ inX4) hown hK g ma_2 ka_2 (by decide) rfl 9 (by decide) rfl (hts _ (List.mem_cons_of_mem _ t_861)) (fun _ h9 => h9) rfl dX11_cell_46 (fun a_21 ma_21 ka_21 g => ?_)
          refine lv_iload_n hx hb dX11_cell_49 rfl (lv_at hl 2 rfl) ?_
          refine g_aald hx hb hK g ma_21 ka_21 (by decide) rfl (by decide) (in_bd b_8 (by decide)) dX11_cell_50 (fun a_22 ma_22 ua_22 wa_22 => ?_)
          have ka_22 : kd a_22 = 101 := by omega
          refine lv_iload_n hx hb dX11_cell_51 rfl (lv_at hl 3 rfl) ?_
          refine g_iald hx hb hK g ma_22 ka_22 (by decide) rfl (in_bd b_19 (by decide)) dX11_cell_52 (fun x_23 bx_23 cx_23 => ?_)
          refine lv_i2l hx hb dX11_cell_53 rfl ?_
          refine lv_topl (fun y_24 ey_24 => ?_)
          subst hQ
          exact W.lret (v := y_24) hx hb hr (fun t ht hW => ⟨⟨_, _, rfl, trivial, q3_of g hK ht hW⟩, g.2.2.1.F ht⟩) g.2.2.1.2.2 dX11_cell_54
        · have fc_18 := nlt_f c_18
          refine lv_ldc2 (v := (-9223372036854775808)) hx hb hown (hts _ (List.mem_cons_of_mem _ t_1821)) dX11_cell_41 ?_
          subst hQ
          exact W.lret (v := (-9223372036854775808)) hx hb hr (fun t ht hW => ⟨⟨_, _, rfl, trivial, q3_of g hK ht hW⟩, g.2.2.1.F ht⟩) g.2.2.1.2.2 dX11_cell_44
set_option maxHeartbeats 4000000 in
set_option maxRecDepth 100000 in
theorem r_X11_beside (l : Launch) (dC : Nat → ClassId) (dI : Nat → Nat → Nat) (L : List Nat) (kd : Nat → Nat) (tys : List (ClassId × FieldType)) (f0 : Nat → va_E) (sz : Nat) (hWT : WT L kd tys f0) (a0_ : Nat) (ma0_ : a0_ ∈ L) (ka0_ : kd a0_ = 11) (x1_ : Int32) (x2_ : Int32) : Met l yX11_beside (.code yX11_beside cX11_beside 4 (some .long) :: lw_g) ({ frames := 1, cells := 0, slots := 0, locals := 21 }) (va_Pc [.ref a0_, .int x1_, .int x2_] (P3 (dC, dI) L tys f0 sz)) (va_Ql (fun (r : Int64) (f : Nat → va_E) => (True)) (Q3 (dC, dI) L kd tys [] [] f0 sz) (pA L sz)) 0 0 (pA L sz) := by
  refine Met.ofW (cc := cX11_beside) (maxL := 4) (ret := (some .long)) (by decide) rfl ?_
  intro p e s m args below meth c s₁ B hml hv
  obtain ⟨rfl, hsz, hP, hK, hD0⟩ := hv
  have hx := B.exec
  have hb := B.bytes
  have hr := B.returns
  have hts := atoms_spec (ws := (.code yX11_beside cX11_beside 4 (some .long) :: lw_g)) B.pre
  have hown : s.vm.findClass RX11 = some m.cls := findClass_of_methodNamed B.named
  have hlocks := B.notSynchronized
  subst hsz
  have g : G3 (dC, dI) L kd tys s f0 [] [] f0 s.heap [] [] := G3.start hP hD0 hWT Fs.nil
  have hl := lv_entry ([.ref a0_, .int x1_, .int x2_]) (n := 4) (Nat.le_of_ble_eq_true rfl)
  rw [lg_entry_eq]
  generalize (lg_sl ([.ref a0_, .int x1_, .int x2_]) ++ List.replicate (4 - (lg_sl ([.ref a0_, .int x1_, .int x2_])).length) Slot.unset).toArray = ls at hl ⊢
  have hl : lv_has ls 4 [(0, .ref a0_), (1, .int x1_), (2, .int x2_)] := hl
  refine W_q (fun Q hQ => ?_)
  refine lv_aload_n hx hb dX11_beside_0 rfl (lv_at hl 0 rfl) ?_
  refine g_getr (K := 10) (C := RX11) (T := TX11) (N := 8) hx hb hts (mc_ inX11) hown hK g ma0_ ka0_ (by decide) rfl 3 (by decide) rfl (hts _ (List.mem_cons_of_mem _ t_951)) (fun _ h9 => h9) rfl dX11_beside_1 (fun a_1 ma_1 ka_1 g => ?_)
  refine g_getr (K := 4) (C := RX10) (T := TX10) (N := 10) hx hb hts (mc_ inX10) hown hK g ma_1 ka_1 (by decide) rfl 4 (by decide) rfl (hts _ (List.mem_cons_of_mem _ t_918)) (fun _ h9 => h9) rfl dX11_beside_4 (fun a_2 ma_2 ka_2 g => ?_)
  refine lv_astore_n (lv' := [(3, .ref a_2), (0, .ref a0_), (1, .int x1_), (2, .int x2_)]) hx hb dX11_beside_7 rfl hl (by decide) rfl (fun ls hl => ?_)
  refine lv_iload_n hx hb dX11_beside_8 rfl (lv_at hl 2 rfl) ?_
  have kb_0 : bd 0 0 (0 : Int32) := ⟨by decide, by decide⟩
  refine lv_if_lt (tgt := 41) hx hb dX11_beside_9 (by decide) (fun c_3 => ?_) (fun c_3 => ?_)
  · have fc_3 := lt_f c_3
    have b_4 : bd (-2147483648) (-1) x1_ := ltL fc_3 (bdT x1_) kb_0 (by decide)
    refine lv_ldc2 (v := (-9223372036854775808)) hx hb hown (hts _ (List.mem_cons_of_mem _ t_1821)) dX11_beside_41 ?_
    subst hQ
    exact W.lret (v := (-9223372036854775808)) hx hb hr (fun t ht hW => ⟨⟨_, _, rfl, trivial, q3_of g hK ht hW⟩, g.2.2.1.F ht⟩) g.2.2.1.2.2 dX11_beside_44
  · have fc_3 := nlt_f c_3
    have b_5 : bd 0 2147483647 x1_ := leR fc_3 kb_0 (bdT x1_) (by decide)
    refine lv_iload_n hx hb dX11_beside_12 rfl (lv_at hl 2 rfl) ?_
    refine lv_aload_n hx hb dX11_beside_13 rfl (lv_at hl 0 rfl) ?_
    refine g_geti (C := RX4) (T := TX4) (N := 17) hx hb hts (mc_ inX4) hown hK g ma_2 ka_2 (by decide) rfl 6 (by decide) rfl (hts _ (List.mem_cons_of_mem _ t_852)) (fun _ h9 => h9) rfl dX11_beside_14 (fun x_6 bx_6 g => ?_)
    refine lv_icmp_ge (tgt := 41) hx hb dX11_beside_17 (by decide) (fun c_7 => ?_) (fun c_7 => ?_)
    · have fc_7 := le_f c_7
      refine lv_ldc2 (v := (-9223372036854775808)) hx hb hown (hts _ (List.mem_cons_of_mem _ t_1821)) dX11_beside_41 ?_
      subst hQ
      exact W.lret (v := (-9223372036854775808)) hx hb hr (fun t ht hW => ⟨⟨_, _, rfl, trivial, q3_of g hK ht hW⟩, g.2.2.1.F ht⟩) g.2.2.1.2.2 dX11_beside_44
    · have fc_7 := nle_f c_7
      have b_8 : bd 0 2 x1_ := ltL fc_7 b_5 bx_6 (by decide)
      have b_9 : bd 1 3 x_6 := ltR fc_7 b_5 bx_6 (by decide)
      refine lv_iload_n hx hb dX11_beside_20 rfl (lv_at hl 3 rfl) ?_
      refine lv_if_lt (tgt := 41) hx hb dX11_beside_21 (by decide) (fun c_10 => ?_) (fun c_10 => ?_)
      · have fc_10 := lt_f c_10
        have b_11 : bd (-2147483648) (-1) x2_ := ltL fc_10 (bdT x2_) kb_0 (by decide)
        refine lv_ldc2 (v := (-9223372036854775808)) hx hb hown (hts _ (List.mem_cons_of_mem _ t_1821)) dX11_beside_41 ?_
        subst hQ
        exact W.lret (v := (-9223372036854775808)) hx hb hr (fun t ht hW => ⟨⟨_, _, rfl, trivial, q3_of g hK ht hW⟩, g.2.2.1.F ht⟩) g.2.2.1.2.2 dX11_beside_44
      · have fc_10 := nlt_f c_10
        have b_12 : bd 0 2147483647 x2_ := leR fc_10 kb_0 (bdT x2_) (by decide)
        refine lv_iload_n hx hb dX11_beside_24 rfl (lv_at hl 3 rfl) ?_
        refine lv_aload_n hx hb dX11_beside_25 rfl (lv_at hl 1 rfl) ?_
        refine g_getr (K := 7) (C := RX11) (T := TX11) (N := 8) hx hb hts (mc_ inX11) hown hK g ma0_ ka0_ (by decide) rfl 4 (by decide) rfl (hts _ (List.mem_cons_of_mem _ t_952)) (fun _ h9 => h9) rfl dX11_beside_26 (fun a_13 ma_13 ka_13 g => ?_)
        refine lv_aload_n hx hb dX11_beside_29 rfl (lv_at hl 0 rfl) ?_
        refine g_getr (K := 127) (C := RX4) (T := TX4) (N := 17) hx hb hts (mc_ inX4) hown hK g ma_2 ka_2 (by decide) rfl 8 (by decide) rfl (hts _ (List.mem_cons_of_mem _ t_858)) (fun _ h9 => h9) rfl dX11_beside_30 (fun a_14 ma_14 ka_14 g => ?_)
        refine lv_iload_n hx hb dX11_beside_33 rfl (lv_at hl 2 rfl) ?_
        refine g_iald hx hb hK g ma_14 ka_14 (by decide) rfl (in_bd b_8 (by decide)) dX11_beside_34 (fun x_15 bx_15 cx_15 => ?_)
        refine g_calli (va_runV (As := [.int x_15]) (rest := [.int x2_]) ⟨hx, hb, hml, hown, hts⟩ (r_X7_cellsOf l dC dI L kd tys f0 s.heap.size g.2.2.2.1 a_13 ma_13 ka_13 x_15) (cwV 1 hts (gV_ t_1817 t_1818 t_1819 t_191 t_1820) rfl rfl rfl (by decide +kernel) ⟨(Nat.le_of_ble_eq_true rfl), (Nat.le_of_ble_eq_true rfl)⟩) (pre3V g hK ma_13 ka_13 (by decide) (q := (RX7, TX7, 19)) rfl) rfl rfl hl.1 rfl (lv_room (Nat.le_of_ble_eq_true rfl)) dX11_beside_35 ⟨(Nat.le_of_ble_eq_true rfl), (Nat.le_of_ble_eq_true rfl)⟩) g hK (by decide) (by decide) (fx' := [(4, 8, a_2, .ref a_14), (11, 4, a0_, .ref a_13), (4, 6, a_2, .int x_6), (10, 4, a_1, .ref a_2), (11, 3, a0_, .ref a_1)]) rfl (fun r_16 fr_16 H locs hp hMr_16 g => ?_)
        obtain ⟨h_17, -⟩ := hp
        refine lv_icmp_lt (tgt := 45) hx hb dX11_beside_38 (by decide) (fun c_18 => ?_) (fun c_18 => ?_)
        · have fc_18 := lt_f c_18
          have b_19 : bd 0 23 x2_ := ltL fc_18 b_12 h_17 (by decide)
          have b_20 : bd 1 24 r_16 := ltR fc_18 b_12 h_17 (by decide)
          refine lv_aload_n hx hb dX11_beside_45 rfl (lv_at hl 0 rfl) ?_
          refine g_getr (K := 129) (C := RX4) (T := TX4) (N := 17) hx hb hts (mc_ inX4) hown hK g ma_2 ka_2 (by decide) rfl 10 (by decide) rfl (hts _ (List.mem_cons_of_mem _ t_864)) (fun _ h9 => h9) rfl dX11_beside_46 (fun a_21 ma_21 ka_21 g => ?_)
          refine lv_iload_n hx hb dX11_beside_49 rfl (lv_at hl 2 rfl) ?_
          refine g_aald hx hb hK g ma_21 ka_21 (by decide) rfl (by decide) (in_bd b_8 (by decide)) dX11_beside_50 (fun a_22 ma_22 ua_22 wa_22 => ?_)
          have ka_22 : kd a_22 = 101 := by omega
          refine lv_iload_n hx hb dX11_beside_51 rfl (lv_at hl 3 rfl) ?_
          refine g_iald hx hb hK g ma_22 ka_22 (by decide) rfl (in_bd b_19 (by decide)) dX11_beside_52 (fun x_23 bx_23 cx_23 => ?_)
          refine lv_i2l hx hb dX11_beside_53 rfl ?_
          refine lv_topl (fun y_24 ey_24 => ?_)
          subst hQ
          exact W.lret (v := y_24) hx hb hr (fun t ht hW => ⟨⟨_, _, rfl, trivial, q3_of g hK ht hW⟩, g.2.2.1.F ht⟩) g.2.2.1.2.2 dX11_beside_54
        · have fc_18 := nlt_f c_18
          refine lv_ldc2 (v := (-9223372036854775808)) hx hb hown (hts _ (List.mem_cons_of_mem _ t_1821)) dX11_beside_41 ?_
          subst hQ
          exact W.lret (v := (-9223372036854775808)) hx hb hr (fun t ht hW => ⟨⟨_, _, rfl, trivial, q3_of g hK ht hW⟩, g.2.2.1.F ht⟩) g.2.2.1.2.2 dX11_beside_44
set_option maxHeartbeats 4000000 in
set_option maxRecDepth 100000 in
theorem r_X11_count (l : Launch) (dC : Nat → ClassId) (dI : Nat → Nat → Nat) (L : List Nat) (kd : Nat → Nat) (tys : List (ClassId × FieldType)) (f0 : Nat → va_E) (sz : Nat) (hWT : WT L kd tys f0) (a0_ : Nat) (ma0_ : a0_ ∈ L) (ka0_ : kd a0_ = 11) (x1_ : Int32) : Met l yX11_count (.code yX11_count cX11_count 2 (some .int) :: lw_g) ({ frames := 0, cells := 0, slots := 0, locals := 0 }) (va_Pc [.ref a0_, .int x1_] (P3 (dC, dI) L tys f0 sz)) (va_Qi (fun (r : Int32) (f : Nat → va_E) => (True)) (Q3 (dC, dI) L kd tys [] [] f0 sz) (pA L sz)) 0 0 (pA L sz) := by
  refine Met.ofW (cc := cX11_count) (maxL := 2) (ret := (some .int)) (by decide) rfl ?_
  intro p e s m args below meth c s₁ B hml hv
  obtain ⟨rfl, hsz, hP, hK, hD0⟩ := hv
  have hx := B.exec
  have hb := B.bytes
  have hr := B.returns
  have hts := atoms_spec (ws := (.code yX11_count cX11_count 2 (some .int) :: lw_g)) B.pre
  have hown : s.vm.findClass RX11 = some m.cls := findClass_of_methodNamed B.named
  have hlocks := B.notSynchronized
  subst hsz
  have g : G3 (dC, dI) L kd tys s f0 [] [] f0 s.heap [] [] := G3.start hP hD0 hWT Fs.nil
  have hl := lv_entry ([.ref a0_, .int x1_]) (n := 2) (Nat.le_of_ble_eq_true rfl)
  rw [lg_entry_eq]
  generalize (lg_sl ([.ref a0_, .int x1_]) ++ List.replicate (2 - (lg_sl ([.ref a0_, .int x1_])).length) Slot.unset).toArray = ls at hl ⊢
  have hl : lv_has ls 2 [(0, .ref a0_), (1, .int x1_)] := hl
  refine W_q (fun Q hQ => ?_)
  refine lv_iload_n hx hb dX11_count_0 rfl (lv_at hl 1 rfl) ?_
  by_cases e_1 : x1_ = 0
  · refine lv_topi (fun z_2 ez_2 => ?_)
    obtain rfl : z_2 = 0 := ez_2.trans e_1
    have kb_0 : bd 0 0 (0 : Int32) := ⟨by decide, by decide⟩
    have b_3 : bd 0 0 x1_ := eqX (eq_f e_1) (bdT x1_) kb_0 (by decide)
    refine lv_tableIn (off := 31) (tgt := 32) hx hb dX11_count_1 (by decide) (by decide) rfl (by decide) ?_
    refine lv_aload_n hx hb dX11_count_32 rfl (lv_at hl 0 rfl) ?_
    refine g_getr (K := 7) (C := RX11) (T := TX11) (N := 8) hx hb hts (mc_ inX11) hown hK g ma0_ ka0_ (by decide) rfl 4 (by decide) rfl (hts _ (List.mem_cons_of_mem _ t_952)) (fun _ h9 => h9) rfl dX11_count_33 (fun a_4 ma_4 ka_4 g => ?_)
    refine g_geti (C := RX7) (T := TX7) (N := 19) hx hb hts (mc_ inX7) hown hK g ma_4 ka_4 (by decide) rfl 1 (by decide) rfl (hts _ (List.mem_cons_of_mem _ t_627)) (fun _ h9 => h9) rfl dX11_count_36 (fun x_5 bx_5 g => ?_)
    subst hQ
    exact W.iret (v := x_5) hx hb hr (fun t ht hW => ⟨⟨_, _, rfl, trivial, q3_of g hK ht hW⟩, g.2.2.1.F ht⟩) g.2.2.1.2.2 dX11_count_39
  by_cases e_6 : x1_ = 1
  · refine lv_topi (fun z_7 ez_7 => ?_)
    obtain rfl : z_7 = 1 := ez_7.trans e_6
    have kb_1 : bd 1 1 (1 : Int32) := ⟨by decide, by decide⟩
    have b_8 : bd 1 1 x1_ := eqX (eq_f e_6) (bdT x1_) kb_1 (by decide)
    refine lv_tableIn (off := 39) (tgt := 40) hx hb dX11_count_1 (by decide) (by decide) rfl (by decide) ?_
    refine lv_aload_n hx hb dX11_count_40 rfl (lv_at hl 0 rfl) ?_
    refine g_geti (C := RX11) (T := TX11) (N := 8) hx hb hts (mc_ inX11) hown hK g ma0_ ka0_ (by decide) rfl 1 (by decide) rfl (hts _ (List.mem_cons_of_mem _ t_949)) (fun _ h9 => h9) rfl dX11_count_41 (fun x_9 bx_9 g => ?_)
    subst hQ
    exact W.iret (v := x_9) hx hb hr (fun t ht hW => ⟨⟨_, _, rfl, trivial, q3_of g hK ht hW⟩, g.2.2.1.F ht⟩) g.2.2.1.2.2 dX11_count_44
  by_cases e_10 : x1_ = 2
  · refine lv_topi (fun z_11 ez_11 => ?_)
    obtain rfl : z_11 = 2 := ez_11.trans e_10
    have kb_2 : bd 2 2 (2 : Int32) := ⟨by decide, by decide⟩
    have b_12 : bd 2 2 x1_ := eqX (eq_f e_10) (bdT x1_) kb_2 (by decide)
    refine lv_tableIn (off := 44) (tgt := 45) hx hb dX11_count_1 (by decide) (by decide) rfl (by decide) ?_
    refine lv_aload_n hx hb dX11_count_45 rfl (lv_at hl 0 rfl) ?_
    refine g_getr (K := 7) (C := RX11) (T := TX11) (N := 8) hx hb hts (mc_ inX11) hown hK g ma0_ ka0_ (by decide) rfl 4 (by decide) rfl (hts _ (List.mem_cons_of_mem _ t_952)) (fun _ h9 => h9) rfl dX11_count_46 (fun a_13 ma_13 ka_13 g => ?_)
    refine g_geti (C := RX7) (T := TX7) (N := 19) hx hb hts (mc_ inX7) hown hK g ma_13 ka_13 (by decide) rfl 18 (by decide) rfl (hts _ (List.mem_cons_of_mem _ t_682)) (fun _ h9 => h9) rfl dX11_count_49 (fun x_14 bx_14 g => ?_)
    subst hQ
    exact W.iret (v := x_14) hx hb hr (fun t ht hW => ⟨⟨_, _, rfl, trivial, q3_of g hK ht hW⟩, g.2.2.1.F ht⟩) g.2.2.1.2.2 dX11_count_52
  by_cases e_15 : x1_ = 3
  · refine lv_topi (fun z_16 ez_16 => ?_)
    obtain rfl : z_16 = 3 := ez_16.trans e_15
    have kb_3 : bd 3 3 (3 : Int32) := ⟨by decide, by decide⟩
    have b_17 : bd 3 3 x1_ := eqX (eq_f e_15) (bdT x1_) kb_3 (by decide)
    refine lv_tableIn (off := 52) (tgt := 53) hx hb dX11_count_1 (by decide) (by decide) rfl (by decide) ?_
    refine lv_aload_n hx hb dX11_count_53 rfl (lv_at hl 0 rfl) ?_
    refine g_getr (K := 10) (C := RX11) (T := TX11) (N := 8) hx hb hts (mc_ inX11) hown hK g ma0_ ka0_ (by decide) rfl 3 (by decide) rfl (hts _ (List.mem_cons_of_mem _ t_951)) (fun _ h9 => h9) rfl dX11_count_54 (fun a_18 ma_18 ka_18 g => ?_)
    refine g_getr (K := 4) (C := RX10) (T := TX10) (N := 10) hx hb hts (mc_ inX10) hown hK g ma_18 ka_18 (by decide) rfl 4 (by decide) rfl (hts _ (List.mem_cons_of_mem _ t_918)) (fun _ h9 => h9) rfl dX11_count_57 (fun a_19 ma_19 ka_19 g => ?_)
    refine g_geti (C := RX4) (T := TX4) (N := 17) hx hb hts (mc_ inX4) hown hK g ma_19 ka_19 (by decide) rfl 6 (by decide) rfl (hts _ (List.mem_cons_of_mem _ t_852)) (fun _ h9 => h9) rfl dX11_count_60 (fun x_20 bx_20 g => ?_)
    subst hQ
    exact W.iret (v := x_20) hx hb hr (fun t ht hW => ⟨⟨_, _, rfl, trivial, q3_of g hK ht hW⟩, g.2.2.1.F ht⟩) g.2.2.1.2.2 dX11_count_63
  refine lv_tableOut (tgt := 64) hx hb dX11_count_1 (by have a0 : x1_.toInt ≠ 0 := fun h => e_1 (Int32.toInt_inj.mp (h.trans (by decide))); have a1 : x1_.toInt ≠ 1 := fun h => e_6 (Int32.toInt_inj.mp (h.trans (by decide))); have a2 : x1_.toInt ≠ 2 := fun h => e_10 (Int32.toInt_inj.mp (h.trans (by decide))); have a3 : x1_.toInt ≠ 3 := fun h => e_15 (Int32.toInt_inj.mp (h.trans (by decide))); omega) (by decide) ?_
  refine lv_iconst (v := (-1)) hx hb dX11_count_64 (by decide) ?_
  subst hQ
  exact W.iret (v := (-1)) hx hb hr (fun t ht hW => ⟨⟨_, _, rfl, trivial, q3_of g hK ht hW⟩, g.2.2.1.F ht⟩) g.2.2.1.2.2 dX11_count_65
