set_option maxHeartbeats 4000000 in
set_option maxRecDepth 100000 in
theorem r_X10_askGives_2 (l : Launch) (dC : Nat → ClassId) (dI : Nat → Nat → Nat) (L : List Nat) (kd : Nat → Nat) (tys : List (ClassId × FieldType)) (f0 : Nat → va_E) (sz : Nat) (hWT : WT L kd tys f0) (a0_ : Nat) (ma0_ : a0_ ∈ L) (ka0_ : kd a0_ = 10) (a1_ : Nat) (ma1_ : a1_ ∈ L) (ka1_ : kd a1_ = 4) (x2_ : Int32) (bx2_ : bd 0 2 x2_) (x3_ : Int32) (bx3_ : bd 0 95 x3_) (q0_ : Nat) (mq0_ : q0_ ∈ L) (kq0_ : kd q0_ = 1) (q1_ : Nat) (mq1_ : q1_ ∈ L) (kq1_ : kd q1_ = 7) (q2_ : Nat) (mq2_ : q2_ ∈ L) (kq2_ : kd q2_ = 9) (y0_ : Int32) (by0_ : bd 0 8 y0_) (y1_ : Int32) (by1_ : bd (-1) 2147483647 y1_) (y2_ : Int32) (by2_ : bd (-1) 2147483647 y2_) (y3_ : Int32) (by3_ : bd (-1) 2147483647 y3_) (y4_ : Int32) (by4_ : bd (-1) 2147483647 y4_) (y5_ : Int32) (by5_ : bd 1 8 y5_) (y6_ : Int32) (by6_ : bd 1 3 y6_) (y7_ : Int32) (by7_ : bd 0 9 y7_) (hGcq1_ : cOK f0 q1_) (hfx : Fs L kd f0 [(10, 1, a0_, .ref q0_), (1, 0, q0_, .ref q1_), (1, 1, q0_, .ref q2_), (4, 0, a1_, .int y0_), (4, 4, a1_, .int y1_), (4, 3, a1_, .int y2_), (4, 2, a1_, .int y3_), (4, 1, a1_, .int y4_), (7, 1, q1_, .int y5_), (4, 6, a1_, .int y6_), (4, 14, a1_, .int y7_)]) : Met l yX10_askGives (.code yX10_askGives cX10_askGives 8 none :: lw_g) ({ frames := 3, cells := 0, slots := 0, locals := 73 }) (va_Pc [.ref a0_, .ref a1_, .int x2_, .int x3_] (P3 (dC, dI) L tys f0 sz)) (va_Qv (fun (f : Nat → va_E) => (∃ z0_ : Int32, bd 0 8 z0_ ∧ ∃ z1_ : Int32, bd (-1) 2147483647 z1_ ∧ ∃ z2_ : Int32, bd (-1) 2147483647 z2_ ∧ Fs L kd f [(4, 0, a1_, .int z0_), (4, 2, a1_, .int z1_), (4, 1, a1_, .int z2_)])) (Q3 (dC, dI) L kd tys [(1, 5), (1, 6), (1, 8), (1, 11), (1, 12), (1, 13), (1, 14), (1, 15), (1, 16), (1, 17), (4, 0), (4, 1), (4, 2), (4, 5)] [100, 116, 117, 146] f0 sz) (pA L sz)) 0 0 (pA L sz) := by
  refine Met.ofW (cc := cX10_askGives) (maxL := 8) (ret := none) (by decide) rfl ?_
  intro p e s m args below meth c s₁ B hml hv
  obtain ⟨rfl, hsz, hP, hK, hD0⟩ := hv
  have hx := B.exec
  have hb := B.bytes
  have hr := B.returns
  have hts := atoms_spec (ws := (.code yX10_askGives cX10_askGives 8 none :: lw_g)) B.pre
  have hown : s.vm.findClass RX10 = some m.cls := findClass_of_methodNamed B.named
  have hlocks := B.notSynchronized
  subst hsz
  have g : G3 (dC, dI) L kd tys s f0 [(1, 5), (1, 6), (1, 8), (1, 11), (1, 12), (1, 13), (1, 14), (1, 15), (1, 16), (1, 17), (4, 0), (4, 1), (4, 2), (4, 5)] [100, 116, 117, 146] f0 s.heap [] [(10, 1, a0_, .ref q0_), (1, 0, q0_, .ref q1_), (1, 1, q0_, .ref q2_), (4, 0, a1_, .int y0_), (4, 4, a1_, .int y1_), (4, 3, a1_, .int y2_), (4, 2, a1_, .int y3_), (4, 1, a1_, .int y4_), (7, 1, q1_, .int y5_), (4, 6, a1_, .int y6_), (4, 14, a1_, .int y7_)] := G3.start hP hD0 hWT hfx
  have hl := lv_entry ([.ref a0_, .ref a1_, .int x2_, .int x3_]) (n := 8) (Nat.le_of_ble_eq_true rfl)
  rw [lg_entry_eq]
  generalize (lg_sl ([.ref a0_, .ref a1_, .int x2_, .int x3_]) ++ List.replicate (8 - (lg_sl ([.ref a0_, .ref a1_, .int x2_, .int x3_])).length) Slot.unset).toArray = ls at hl ⊢
  have hl : lv_has ls 8 [(0, .ref a0_), (1, .ref a1_), (2, .int x2_), (3, .int x3_)] := hl
  refine W_q (fun Q hQ => ?_)
  refine lv_aload_n hx hb dX10_askGives_0 rfl (lv_at hl 1 rfl) ?_
  refine g_getk (C := RX4) (T := TX4) (N := 17) hx hb hts (mc_ inX4) hown hK g rfl 0 (by decide) rfl (hts _ (List.mem_cons_of_mem _ t_837)) (fun _ h9 => h9) 3 rfl dX10_askGives_1 ?_
  have kb_0 : bd 0 0 (0 : Int32) := ⟨by decide, by decide⟩
  refine lv_if_ne (tgt := 15) hx hb dX10_askGives_4 (by decide) (fun c_1 => ?_) (fun c_1 => ?_)
  · have fc_1 := neq_f c_1
    have b_2 : bd 1 8 y0_ := neX fc_1 by0_ kb_0 (by decide)
    subst hQ
    exact W.vret hx hb hr (fun t ht hW => ⟨⟨_, rfl, ⟨y0_, (bd_sub b_2 (by decide)), y3_, by3_, y4_, by4_, (g.fcts [3, 6, 7] rfl)⟩, q3_of g hK ht hW⟩, g.2.2.1.F ht⟩) g.2.2.1.2.2 dX10_askGives_15
  · have fc_1 := eq_f c_1
    have b_3 : bd 0 0 y0_ := eqX fc_1 by0_ kb_0 (by decide)
    refine lv_aload_n hx hb dX10_askGives_7 rfl (lv_at hl 1 rfl) ?_
    refine g_geti (C := RX4) (T := TX4) (N := 17) hx hb hts (mc_ inX4) hown hK g ma1_ ka1_ (by decide) rfl 15 (by decide) rfl (hts _ (List.mem_cons_of_mem _ t_875)) (fun _ h9 => h9) rfl dX10_askGives_8 (fun x_4 bx_4 g => ?_)
    refine lv_iconst (v := 1) hx hb dX10_askGives_11 (by decide) ?_
    have kb_1 : bd 1 1 (1 : Int32) := ⟨by decide, by decide⟩
    refine lv_icmp_eq (tgt := 16) hx hb dX10_askGives_12 (by decide) (fun c_5 => ?_) (fun c_5 => ?_)
    · have fc_5 := eq_f c_5
      have b_6 : bd 1 1 x_4 := eqX fc_5 (bdT x_4) kb_1 (by decide)
      refine lv_iload_n hx hb dX10_askGives_16 rfl (lv_at hl 3 rfl) ?_
      refine lv_istore (lv' := [(4, .int x3_), (0, .ref a0_), (1, .ref a1_), (2, .int x2_), (3, .int x3_)]) hx hb dX10_askGives_17 hl (by decide) rfl (fun ls hl => ?_)
      refine lv_iconst (v := 0) hx hb dX10_askGives_19 (by decide) ?_
      refine lv_istore (lv' := [(5, .int 0), (4, .int x3_), (0, .ref a0_), (1, .ref a1_), (2, .int x2_), (3, .int x3_)]) hx hb dX10_askGives_20 hl (by decide) rfl (fun ls hl => ?_)
      have loop_7 : ∀ (n : Nat) (v22_5 : Int32) (v22_4 : Int32), bd 0 8 v22_5 → bd (-1) 95 v22_4 → (8 - v22_5.toInt < (n : Int)) → ∀ (f : Nat → va_E) (H : Heap) (locs : List Loc) (ls : Array Slot), G3 (dC, dI) L kd tys s f0 [(1, 5), (1, 6), (1, 8), (1, 11), (1, 12), (1, 13), (1, 14), (1, 15), (1, 16), (1, 17), (4, 0), (4, 1), (4, 2), (4, 5)] [100, 116, 117, 146] f H locs [(4, 15, a1_, .int x_4), (10, 1, a0_, .ref q0_), (1, 0, q0_, .ref q1_), (1, 1, q0_, .ref q2_), (4, 0, a1_, .int y0_), (4, 4, a1_, .int y1_), (4, 3, a1_, .int y2_), (4, 2, a1_, .int y3_), (4, 1, a1_, .int y4_), (7, 1, q1_, .int y5_), (4, 6, a1_, .int y6_), (4, 14, a1_, .int y7_)] → cOK f q1_ → lv_has ls 8 [(5, .int v22_5), (4, .int v22_4), (0, .ref a0_), (1, .ref a1_), (2, .int x2_), (3, .int x3_)] → W p l e ({ frames := 3, cells := 0, slots := 0, locals := 73 } : Room) s m [.ref a0_, .ref a1_, .int x2_, .int x3_].toArray below meth c H locs 0 0 Q (F0 m 22 ls []) := by
        intro n22
        induction n22 with
        | zero =>
          intro v22_5 v22_4 bv22_5 bv22_4 hm22 f H locs ls g hG22_c_q1_ hl
          exact absurd hm22 (by have h9_v22_5 := bv22_5; unfold bd at h9_v22_5; have h9_v22_4 := bv22_4; unfold bd at h9_v22_4; omega)
        | succ n22 ih22 =>
          intro v22_5 v22_4 bv22_5 bv22_4 hm22 f H locs ls g hG22_c_q1_ hl
          refine lv_iload hx hb dX10_askGives_22 (lv_at hl 0 rfl) ?_
          refine lv_bipush (v := 8) hx hb dX10_askGives_24 (by decide) ?_
          have kb_8 : bd 8 8 (8 : Int32) := ⟨by decide, by decide⟩
          refine lv_icmp_ge (tgt := 133) hx hb dX10_askGives_26 (by decide) (fun c_8 => ?_) (fun c_8 => ?_)
          · have fc_8 := le_f c_8
            have b_9 : bd 8 8 v22_5 := leR fc_8 kb_8 bv22_5 (by decide)
            subst hQ
            exact W.vret hx hb hr (fun t ht hW => ⟨⟨_, rfl, ⟨y0_, (bd_sub b_3 (by decide)), y3_, by3_, y4_, by4_, (g.fcts [4, 7, 8] rfl)⟩, q3_of g hK ht hW⟩, g.2.2.1.F ht⟩) g.2.2.1.2.2 dX10_askGives_133
          · have fc_8 := nle_f c_8
            have b_10 : bd 0 7 v22_5 := ltL fc_8 bv22_5 kb_8 (by decide)
            refine lv_iload hx hb dX10_askGives_29 (lv_at hl 1 rfl) ?_
            refine lv_iconst (v := (-1)) hx hb dX10_askGives_31 (by decide) ?_
            have kb_m1 : bd (-1) (-1) ((-1) : Int32) := ⟨by decide, by decide⟩
            refine lv_icmp_eq (tgt := 133) hx hb dX10_askGives_32 (by decide) (fun c_11 => ?_) (fun c_11 => ?_)
            · have fc_11 := eq_f c_11
              have b_12 : bd (-1) (-1) v22_4 := eqX fc_11 bv22_4 kb_m1 (by decide)
              subst hQ
              exact W.vret hx hb hr (fun t ht hW => ⟨⟨_, rfl, ⟨y0_, (bd_sub b_3 (by decide)), y3_, by3_, y4_, by4_, (g.fcts [4, 7, 8] rfl)⟩, q3_of g hK ht hW⟩, g.2.2.1.F ht⟩) g.2.2.1.2.2 dX10_askGives_133
            · have fc_11 := neq_f c_11
              have b_13 : bd 0 95 v22_4 := neX fc_11 bv22_4 kb_m1 (by decide)
              refine lv_aload_n hx hb dX10_askGives_35 rfl (lv_at hl 2 rfl) ?_
              refine lv_iload hx hb dX10_askGives_36 (lv_at hl 1 rfl) ?_
              have go_ := g
              refine g_calli (va_runV (As := [.int v22_4]) (rest := []) ⟨hx, hb, hml, hown, hts⟩ (r_X10_lastMark l dC dI L kd tys f H.size g.2.2.2.1 a0_ ma0_ ka0_ v22_4 b_13) (cwV 1 hts (gV_ t_1620 t_1622 t_71 t_194 t_1623) rfl rfl rfl (by decide +kernel) ⟨(Nat.le_of_ble_eq_true rfl), (Nat.le_of_ble_eq_true rfl)⟩) (pre3V g hK ma0_ ka0_ (by decide) (q := (RX10, TX10, 10)) rfl) rfl rfl hl.1 rfl (lv_room (Nat.le_of_ble_eq_true rfl)) dX10_askGives_38 ⟨(Nat.le_of_ble_eq_true rfl), (Nat.le_of_ble_eq_true rfl)⟩) g hK (by decide) (by decide) (fx' := [(4, 15, a1_, .int x_4), (10, 1, a0_, .ref q0_), (1, 0, q0_, .ref q1_), (1, 1, q0_, .ref q2_), (4, 0, a1_, .int y0_), (4, 4, a1_, .int y1_), (4, 3, a1_, .int y2_), (4, 2, a1_, .int y3_), (4, 1, a1_, .int y4_), (7, 1, q1_, .int y5_), (4, 6, a1_, .int y6_), (4, 14, a1_, .int y7_)]) rfl (fun r_14 fr_14 H locs hp hMr_14 g => ?_)
              obtain ⟨h_15, -⟩ := hp
              have hG_16 := cOK.frame hMr_14 go_.2.2.2.1 mq1_ kq1_ (by decide) (by decide) hG22_c_q1_
              refine lv_istore (lv' := [(6, .int r_14), (5, .int v22_5), (4, .int v22_4), (0, .ref a0_), (1, .ref a1_), (2, .int x2_), (3, .int x3_)]) hx hb dX10_askGives_41 hl (by decide) rfl (fun ls hl => ?_)
              refine lv_aload_n hx hb dX10_askGives_43 rfl (lv_at hl 3 rfl) ?_
              refine g_getr (K := 7) (C := RX10) (T := TX10) (N := 10) hx hb hts (mc_ inX10) hown hK g ma0_ ka0_ (by decide) rfl 0 (by decide) rfl (hts _ (List.mem_cons_of_mem _ t_912)) (fun _ h9 => h9) rfl dX10_askGives_44 (fun a_17 ma_17 ka_17 g => ?_)
              refine g_getr (K := 137) (C := RX7) (T := TX7) (N := 19) hx hb hts (mc_ inX7) hown hK g ma_17 ka_17 (by decide) rfl 2 (by decide) rfl (hts _ (List.mem_cons_of_mem _ t_634)) (fun _ h9 => h9) rfl dX10_askGives_47 (fun a_18 ma_18 ka_18 g => ?_)
              refine lv_iload hx hb dX10_askGives_50 (lv_at hl 2 rfl) ?_
              refine g_aald hx hb hK g ma_18 ka_18 (by decide) rfl (by decide) (in_bd b_13 (by decide)) dX10_askGives_52 (fun a_19 ma_19 ua_19 wa_19 => ?_)
              have ka_19 : kd a_19 = 6 := by omega
              refine g_geti (C := RX6) (T := TX6) (N := 13) hx hb hts (mc_ inX6) hown hK g ma_19 ka_19 (by decide) rfl 11 (by decide) rfl (hts _ (List.mem_cons_of_mem _ t_590)) (fun _ h9 => h9) rfl dX10_askGives_53 (fun x_20 bx_20 g => ?_)
              refine lv_istore (lv' := [(7, .int x_20), (6, .int r_14), (5, .int v22_5), (4, .int v22_4), (0, .ref a0_), (1, .ref a1_), (2, .int x2_), (3, .int x3_)]) hx hb dX10_askGives_56 hl (by decide) rfl (fun ls hl => ?_)
              have loop_21 : ∀ (n : Nat) (v58_7 : Int32), bd 0 500 v58_7 → (500 - v58_7.toInt < (n : Int)) → ∀ (f : Nat → va_E) (H : Heap) (locs : List Loc) (ls : Array Slot), G3 (dC, dI) L kd tys s f0 [(1, 5), (1, 6), (1, 8), (1, 11), (1, 12), (1, 13), (1, 14), (1, 15), (1, 16), (1, 17), (4, 0), (4, 1), (4, 2), (4, 5)] [100, 116, 117, 146] f H locs [(6, 11, a_19, .int x_20), (7, 2, a_17, .ref a_18), (10, 0, a0_, .ref a_17), (4, 15, a1_, .int x_4), (10, 1, a0_, .ref q0_), (1, 0, q0_, .ref q1_), (1, 1, q0_, .ref q2_), (4, 0, a1_, .int y0_), (4, 4, a1_, .int y1_), (4, 3, a1_, .int y2_), (4, 2, a1_, .int y3_), (4, 1, a1_, .int y4_), (7, 1, q1_, .int y5_), (4, 6, a1_, .int y6_), (4, 14, a1_, .int y7_)] → cOK f q1_ → lv_has ls 8 [(7, .int v58_7), (6, .int r_14), (5, .int v22_5), (4, .int v22_4), (0, .ref a0_), (1, .ref a1_), (2, .int x2_), (3, .int x3_)] → W p l e ({ frames := 3, cells := 0, slots := 0, locals := 73 } : Room) s m [.ref a0_, .ref a1_, .int x2_, .int x3_].toArray below meth c H locs 0 0 Q (F0 m 58 ls []) := by
                intro n58
                induction n58 with
                | zero =>
                  intro v58_7 bv58_7 hm58 f H locs ls g hG58_c_q1_ hl
                  exact absurd hm58 (by have h9_v58_7 := bv58_7; unfold bd at h9_v58_7; omega)
                | succ n58 ih58 =>
                  intro v58_7 bv58_7 hm58 f H locs ls g hG58_c_q1_ hl
                  refine lv_iload hx hb dX10_askGives_58 (lv_at hl 0 rfl) ?_
                  refine lv_iload hx hb dX10_askGives_60 (lv_at hl 1 rfl) ?_
                  refine lv_icmp_gt (tgt := 119) hx hb dX10_askGives_62 (by decide) (fun c_22 => ?_) (fun c_22 => ?_)
                  · have fc_22 := lt_f c_22
                    refine lv_aload_n hx hb dX10_askGives_119 rfl (lv_at hl 4 rfl) ?_
                    refine lv_iload hx hb dX10_askGives_120 (lv_at hl 3 rfl) ?_
                    have go_ := g
                    refine g_calli (va_runV (As := [.int v22_4]) (rest := []) ⟨hx, hb, hml, hown, hts⟩ (r_X10_upwards l dC dI L kd tys f H.size g.2.2.2.1 a0_ ma0_ ka0_ v22_4) (cwV 1 hts (gV_ t_1625 t_1627 t_72 t_194 t_1628) rfl rfl rfl (by decide +kernel) ⟨(Nat.le_of_ble_eq_true rfl), (Nat.le_of_ble_eq_true rfl)⟩) (pre3V g hK ma0_ ka0_ (by decide) (q := (RX10, TX10, 10)) rfl) rfl rfl hl.1 rfl (lv_room (Nat.le_of_ble_eq_true rfl)) dX10_askGives_122 ⟨(Nat.le_of_ble_eq_true rfl), (Nat.le_of_ble_eq_true rfl)⟩) g hK (by decide) (by decide) (fx' := [(6, 11, a_19, .int x_20), (7, 2, a_17, .ref a_18), (10, 0, a0_, .ref a_17), (4, 15, a1_, .int x_4), (10, 1, a0_, .ref q0_), (1, 0, q0_, .ref q1_), (1, 1, q0_, .ref q2_), (4, 0, a1_, .int y0_), (4, 4, a1_, .int y1_), (4, 3, a1_, .int y2_), (4, 2, a1_, .int y3_), (4, 1, a1_, .int y4_), (7, 1, q1_, .int y5_), (4, 6, a1_, .int y6_), (4, 14, a1_, .int y7_)]) rfl (fun r_23 fr_23 H locs hp hMr_23 g => ?_)
                    obtain ⟨h_24, -⟩ := hp
                    have hG_25 := cOK.frame hMr_23 go_.2.2.2.1 mq1_ kq1_ (by decide) (by decide) hG58_c_q1_
                    refine lv_istore (lv' := [(4, .int r_23), (7, .int v58_7), (6, .int r_14), (5, .int v22_5), (0, .ref a0_), (1, .ref a1_), (2, .int x2_), (3, .int x3_)]) hx hb dX10_askGives_125 hl (by decide) rfl (fun ls hl => ?_)
                    obtain ⟨y_26, ey_26⟩ : ∃ z : Int32, z = v22_5 + 1 := ⟨_, rfl⟩
                    refine lv_iinc (v := y_26) (lv' := [(5, .int y_26), (4, .int r_23), (7, .int v58_7), (6, .int r_14), (0, .ref a0_), (1, .ref a1_), (2, .int x2_), (3, .int x3_)]) hx hb dX10_askGives_127 hl (k := 3) rfl (by rw [ey_26]; rfl) (by decide) rfl (fun ls hl => ?_)
                    have ty_26 := add_bd ey_26 b_10 kb_1 (by decide)
                    have b_27 : bd 1 8 y_26 := add_rg ty_26 b_10 kb_1 (by decide)
                    refine lv_goto (tgt := 22) hx hb dX10_askGives_130 (by decide) ?_
                    have hl9 := lv_sub hl [0, 1, 4, 5, 6, 7] (by rfl : lv_pick [(5, .int y_26), (4, .int r_23), (7, .int v58_7), (6, .int r_14), (0, .ref a0_), (1, .ref a1_), (2, .int x2_), (3, .int x3_)] [0, 1, 4, 5, 6, 7] = [(5, .int y_26), (4, .int r_23), (0, .ref a0_), (1, .ref a1_), (2, .int x2_), (3, .int x3_)])
                    have g9 := g.sub (fx' := [(4, 15, a1_, .int x_4), (10, 1, a0_, .ref q0_), (1, 0, q0_, .ref q1_), (1, 1, q0_, .ref q2_), (4, 0, a1_, .int y0_), (4, 4, a1_, .int y1_), (4, 3, a1_, .int y2_), (4, 2, a1_, .int y3_), (4, 1, a1_, .int y4_), (7, 1, q1_, .int y5_), (4, 6, a1_, .int y6_), (4, 14, a1_, .int y7_)]) [3, 4, 5, 6, 7, 8, 9, 10, 11, 12, 13, 14] rfl
                    exact ih22  y_26 r_23 (bd_sub b_27 (by decide)) h_24 (by have h9_0 := b_27; unfold bd at h9_0; have h9_1 := bv22_4; unfold bd at h9_1; have h9_2 := bv22_5; unfold bd at h9_2; have h9_3 := h_24; unfold bd at h9_3; have h9_4 := kb_0; unfold bd at h9_4; have h9_5 := kb_1; unfold bd at h9_5; have h9_6 := kb_8; unfold bd at h9_6; have h9_7 := kb_m1; unfold bd at h9_7; omega) _ _ _ _ g9 hG_25 hl9
                  · have fc_22 := nlt_f c_22
                    have b_28 : bd 0 499 v58_7 := leL fc_22 bv58_7 h_15 (by decide)
                    have b_29 : bd 0 499 r_14 := leR fc_22 bv58_7 h_15 (by decide)
                    refine lv_aload_n hx hb dX10_askGives_65 rfl (lv_at hl 4 rfl) ?_
                    refine g_getk (C := RX10) (T := TX10) (N := 10) hx hb hts (mc_ inX10) hown hK g rfl 0 (by decide) rfl (hts _ (List.mem_cons_of_mem _ t_912)) (fun _ h9 => h9) 2 rfl dX10_askGives_66 ?_
                    refine g_getr (K := 140) (C := RX7) (T := TX7) (N := 19) hx hb hts (mc_ inX7) hown hK g ma_17 ka_17 (by decide) rfl 7 (by decide) rfl (hts _ (List.mem_cons_of_mem _ t_650)) (fun _ h9 => h9) rfl dX10_askGives_69 (fun a_30 ma_30 ka_30 g => ?_)
                    refine lv_iload hx hb dX10_askGives_72 (lv_at hl 0 rfl) ?_
                    refine g_iald hx hb hK g ma_30 ka_30 (by decide) rfl (in_bd b_28 (by decide)) dX10_askGives_74 (fun x_31 bx_31 cx_31 => ?_)
                    refine lv_iconst (v := 2) hx hb dX10_askGives_75 (by decide) ?_
                    have kb_2 : bd 2 2 (2 : Int32) := ⟨by decide, by decide⟩
                    refine lv_icmp_ne (tgt := 113) hx hb dX10_askGives_76 (by decide) (fun c_32 => ?_) (fun c_32 => ?_)
                    · have fc_32 := neq_f c_32
                      obtain ⟨y_33, ey_33⟩ : ∃ z : Int32, z = v58_7 + 1 := ⟨_, rfl⟩
                      refine lv_iinc (v := y_33) (lv' := [(7, .int y_33), (6, .int r_14), (5, .int v22_5), (4, .int v22_4), (0, .ref a0_), (1, .ref a1_), (2, .int x2_), (3, .int x3_)]) hx hb dX10_askGives_113 hl (k := 0) rfl (by rw [ey_33]; rfl) (by decide) rfl (fun ls hl => ?_)
                      have ty_33 := add_bd ey_33 b_28 kb_1 (by decide)
                      have b_34 : bd 1 500 y_33 := add_rg ty_33 b_28 kb_1 (by decide)
                      refine lv_goto (tgt := 58) hx hb dX10_askGives_116 (by decide) ?_
                      have hl9 := lv_sub hl [0, 1, 2, 3, 4, 5, 6, 7] (by rfl : lv_pick [(7, .int y_33), (6, .int r_14), (5, .int v22_5), (4, .int v22_4), (0, .ref a0_), (1, .ref a1_), (2, .int x2_), (3, .int x3_)] [0, 1, 2, 3, 4, 5, 6, 7] = [(7, .int y_33), (6, .int r_14), (5, .int v22_5), (4, .int v22_4), (0, .ref a0_), (1, .ref a1_), (2, .int x2_), (3, .int x3_)])
                      have g9 := g.sub (fx' := [(6, 11, a_19, .int x_20), (7, 2, a_17, .ref a_18), (10, 0, a0_, .ref a_17), (4, 15, a1_, .int x_4), (10, 1, a0_, .ref q0_), (1, 0, q0_, .ref q1_), (1, 1, q0_, .ref q2_), (4, 0, a1_, .int y0_), (4, 4, a1_, .int y1_), (4, 3, a1_, .int y2_), (4, 2, a1_, .int y3_), (4, 1, a1_, .int y4_), (7, 1, q1_, .int y5_), (4, 6, a1_, .int y6_), (4, 14, a1_, .int y7_)]) [1, 2, 3, 4, 5, 6, 7, 8, 9, 10, 11, 12, 13, 14, 15] rfl
                      exact ih58  y_33 (bd_sub b_34 (by decide)) (by have h9_0 := b_34; unfold bd at h9_0; have h9_1 := bv58_7; unfold bd at h9_1; have h9_2 := kb_0; unfold bd at h9_2; have h9_3 := kb_1; unfold bd at h9_3; have h9_4 := kb_2; unfold bd at h9_4; have h9_5 := kb_8; unfold bd at h9_5; have h9_6 := kb_m1; unfold bd at h9_6; omega) _ _ _ _ g9 hG58_c_q1_ hl9
                    · have fc_32 := eq_f c_32
                      have b_35 : bd 2 2 x_31 := eqX fc_32 (bdT x_31) kb_2 (by decide)
                      refine lv_aload_n hx hb dX10_askGives_79 rfl (lv_at hl 4 rfl) ?_
                      refine lv_aload_n hx hb dX10_askGives_80 rfl (lv_at hl 5 rfl) ?_
                      refine lv_iload hx hb dX10_askGives_81 (lv_at hl 0 rfl) ?_
                      refine lv_iload_n hx hb dX10_askGives_83 rfl (lv_at hl 6 rfl) ?_
                      have go_ := g
                      refine g_calli (va_runV (As := [.ref a1_, .int v58_7, .int x2_]) (rest := []) ⟨hx, hb, hml, hown, hts⟩ (r_X10_holds_17 l dC dI L kd tys f H.size g.2.2.2.1 a0_ ma0_ ka0_ a1_ ma1_ ka1_ v58_7 b_28 x2_ bx2_ q0_ mq0_ kq0_ q1_ mq1_ kq1_ q2_ mq2_ kq2_ x_4 b_6 y0_ b_3 y1_ by1_ y2_ by2_ y3_ by3_ y4_ by4_ y5_ by5_ y6_ by6_ y7_ by7_ hG58_c_q1_ (g.fcts [5, 6, 7, 4, 8, 9, 10, 11, 12, 13, 14, 15] rfl)) (cwV 3 hts (gV_ t_1547 t_1549 t_57 t_194 t_1550) rfl rfl rfl (by decide +kernel) ⟨(Nat.le_of_ble_eq_true rfl), (Nat.le_of_ble_eq_true rfl)⟩) (pre3V g hK ma0_ ka0_ (by decide) (q := (RX10, TX10, 10)) rfl) rfl rfl hl.1 rfl (lv_room (Nat.le_of_ble_eq_true rfl)) dX10_askGives_84 ⟨(Nat.le_of_ble_eq_true rfl), (Nat.le_of_ble_eq_true rfl)⟩) g hK (by decide) (by decide) (fx' := [(7, 7, a_17, .ref a_30), (6, 11, a_19, .int x_20), (7, 2, a_17, .ref a_18), (10, 0, a0_, .ref a_17), (4, 15, a1_, .int x_4), (10, 1, a0_, .ref q0_), (1, 0, q0_, .ref q1_), (1, 1, q0_, .ref q2_), (4, 4, a1_, .int y1_), (4, 3, a1_, .int y2_), (7, 1, q1_, .int y5_), (4, 6, a1_, .int y6_), (4, 14, a1_, .int y7_)]) rfl (fun r_36 fr_36 H locs hp hMr_36 g => ?_)
                      rcases hp with ⟨h_37, x_38, h_39, x_40, h_41, x_42, h_43, hF_44⟩ | ⟨h_45, x_46, h_47, hF_48⟩
                      · have hG_49 := cOK.frame hMr_36 go_.2.2.2.1 mq1_ kq1_ (by decide) (by decide) hG58_c_q1_
                        obtain rfl : r_36 = 0 := h_37
                        have g := g.more hF_44
                        refine lv_if_ne (tgt := 113) hx hb dX10_askGives_87 (by decide) (fun c_ => absurd c_ (by decide)) (fun c_ => ?_)
                        refine lv_aload_n hx hb dX10_askGives_90 rfl (lv_at hl 5 rfl) ?_
                        refine lv_aload_n hx hb dX10_askGives_91 rfl (lv_at hl 5 rfl) ?_
                        refine g_getk (C := RX4) (T := TX4) (N := 17) hx hb hts (mc_ inX4) hown hK g rfl 0 (by decide) rfl (hts _ (List.mem_cons_of_mem _ t_837)) (fun _ h9 => h9) 2 rfl dX10_askGives_92 ?_
                        refine lv_if_ne (tgt := 102) hx hb dX10_askGives_95 (by decide) (fun c_50 => ?_) (fun c_50 => ?_)
                        · have fc_50 := neq_f c_50
                          have b_51 : bd 1 7 x_42 := neX fc_50 h_43 kb_0 (by decide)
                          refine lv_aload_n hx hb dX10_askGives_102 rfl (lv_at hl 5 rfl) ?_
                          refine g_getk (C := RX4) (T := TX4) (N := 17) hx hb hts (mc_ inX4) hown hK g rfl 0 (by decide) rfl (hts _ (List.mem_cons_of_mem _ t_837)) (fun _ h9 => h9) 2 rfl dX10_askGives_103 ?_
                          refine lv_iload hx hb dX10_askGives_106 (lv_at hl 0 rfl) ?_
                          refine lv_iload_n hx hb dX10_askGives_108 rfl (lv_at hl 6 rfl) ?_
                          have go_ := g
                          refine g_callv (va_runV (As := [.int x_42, .int v58_7, .int x2_]) (rest := []) ⟨hx, hb, hml, hown, hts⟩ (r_X4_breakBy l dC dI L kd tys fr_36 H.size g.2.2.2.1 a1_ ma1_ ka1_ x_42 v58_7 x2_) (cwV 3 hts (gV_ t_1606 t_1607 t_1608 t_197 t_1609) rfl rfl rfl (by decide +kernel) ⟨(Nat.le_of_ble_eq_true rfl), (Nat.le_of_ble_eq_true rfl)⟩) (pre3V g hK ma1_ ka1_ (by decide) (q := (RX4, TX4, 17)) rfl) rfl rfl hl.1 rfl (lv_room (Nat.le_of_ble_eq_true rfl)) dX10_askGives_109 ⟨(Nat.le_of_ble_eq_true rfl), (Nat.le_of_ble_eq_true rfl)⟩) g hK (by decide) (by decide) (fx' := [(1, 12, q0_, .int 0), (1, 5, q0_, .int 1), (7, 7, a_17, .ref a_30), (6, 11, a_19, .int x_20), (7, 2, a_17, .ref a_18), (10, 0, a0_, .ref a_17), (4, 15, a1_, .int x_4), (10, 1, a0_, .ref q0_), (1, 0, q0_, .ref q1_), (1, 1, q0_, .ref q2_), (4, 4, a1_, .int y1_), (4, 3, a1_, .int y2_), (7, 1, q1_, .int y5_), (4, 6, a1_, .int y6_), (4, 14, a1_, .int y7_)]) rfl (fun fr_52 H locs hp hMr_52 g => ?_)
                          have hF_53 := hp
                          have hG_54 := cOK.frame hMr_52 go_.2.2.2.1 mq1_ kq1_ (by decide) (by decide) hG_49
                          have g := g.more hF_53
                          subst hQ
                          exact W.vret hx hb hr (fun t ht hW => ⟨⟨_, rfl, ⟨x_42, (bd_sub b_51 (by decide)), x2_, (bd_sub bx2_ (by decide)), v58_7, (bd_sub b_28 (by decide)), (g.fcts [2, 0, 1] rfl)⟩, q3_of g hK ht hW⟩, g.2.2.1.F ht⟩) g.2.2.1.2.2 dX10_askGives_112
                        · have fc_50 := eq_f c_50
                          have b_55 : bd 0 0 x_42 := eqX fc_50 h_43 kb_0 (by decide)
                          refine lv_iconst (v := 1) hx hb dX10_askGives_98 (by decide) ?_
                          refine lv_goto (tgt := 106) hx hb dX10_askGives_99 (by decide) ?_
                          refine lv_iload hx hb dX10_askGives_106 (lv_at hl 0 rfl) ?_
                          refine lv_iload_n hx hb dX10_askGives_108 rfl (lv_at hl 6 rfl) ?_
                          have go_ := g
                          refine g_callv (va_runV (As := [.int 1, .int v58_7, .int x2_]) (rest := []) ⟨hx, hb, hml, hown, hts⟩ (r_X4_breakBy l dC dI L kd tys fr_36 H.size g.2.2.2.1 a1_ ma1_ ka1_ 1 v58_7 x2_) (cwV 3 hts (gV_ t_1606 t_1607 t_1608 t_197 t_1609) rfl rfl rfl (by decide +kernel) ⟨(Nat.le_of_ble_eq_true rfl), (Nat.le_of_ble_eq_true rfl)⟩) (pre3V g hK ma1_ ka1_ (by decide) (q := (RX4, TX4, 17)) rfl) rfl rfl hl.1 rfl (lv_room (Nat.le_of_ble_eq_true rfl)) dX10_askGives_109 ⟨(Nat.le_of_ble_eq_true rfl), (Nat.le_of_ble_eq_true rfl)⟩) g hK (by decide) (by decide) (fx' := [(1, 12, q0_, .int 0), (1, 5, q0_, .int 1), (7, 7, a_17, .ref a_30), (6, 11, a_19, .int x_20), (7, 2, a_17, .ref a_18), (10, 0, a0_, .ref a_17), (4, 15, a1_, .int x_4), (10, 1, a0_, .ref q0_), (1, 0, q0_, .ref q1_), (1, 1, q0_, .ref q2_), (4, 4, a1_, .int y1_), (4, 3, a1_, .int y2_), (7, 1, q1_, .int y5_), (4, 6, a1_, .int y6_), (4, 14, a1_, .int y7_)]) rfl (fun fr_56 H locs hp hMr_56 g => ?_)
                          have hF_57 := hp
                          have hG_58 := cOK.frame hMr_56 go_.2.2.2.1 mq1_ kq1_ (by decide) (by decide) hG_49
                          have g := g.more hF_57
                          subst hQ
                          exact W.vret hx hb hr (fun t ht hW => ⟨⟨_, rfl, ⟨1, (bd_sub kb_1 (by decide)), x2_, (bd_sub bx2_ (by decide)), v58_7, (bd_sub b_28 (by decide)), (g.fcts [2, 0, 1] rfl)⟩, q3_of g hK ht hW⟩, g.2.2.1.F ht⟩) g.2.2.1.2.2 dX10_askGives_112
                      · have hG_59 := cOK.frame hMr_36 go_.2.2.2.1 mq1_ kq1_ (by decide) (by decide) hG58_c_q1_
                        obtain rfl : r_36 = 1 := h_45
                        have g := g.more hF_48
                        refine lv_if_ne (tgt := 113) hx hb dX10_askGives_87 (by decide) (fun c_ => ?_) (fun c_ => absurd c_ (by decide))
                        obtain ⟨y_60, ey_60⟩ : ∃ z : Int32, z = v58_7 + 1 := ⟨_, rfl⟩
                        refine lv_iinc (v := y_60) (lv' := [(7, .int y_60), (6, .int r_14), (5, .int v22_5), (4, .int v22_4), (0, .ref a0_), (1, .ref a1_), (2, .int x2_), (3, .int x3_)]) hx hb dX10_askGives_113 hl (k := 0) rfl (by rw [ey_60]; rfl) (by decide) rfl (fun ls hl => ?_)
                        have ty_60 := add_bd ey_60 b_28 kb_1 (by decide)
                        have b_61 : bd 1 500 y_60 := add_rg ty_60 b_28 kb_1 (by decide)
                        refine lv_goto (tgt := 58) hx hb dX10_askGives_116 (by decide) ?_
                        have hl9 := lv_sub hl [0, 1, 2, 3, 4, 5, 6, 7] (by rfl : lv_pick [(7, .int y_60), (6, .int r_14), (5, .int v22_5), (4, .int v22_4), (0, .ref a0_), (1, .ref a1_), (2, .int x2_), (3, .int x3_)] [0, 1, 2, 3, 4, 5, 6, 7] = [(7, .int y_60), (6, .int r_14), (5, .int v22_5), (4, .int v22_4), (0, .ref a0_), (1, .ref a1_), (2, .int x2_), (3, .int x3_)])
                        have g9 := g.sub (fx' := [(6, 11, a_19, .int x_20), (7, 2, a_17, .ref a_18), (10, 0, a0_, .ref a_17), (4, 15, a1_, .int x_4), (10, 1, a0_, .ref q0_), (1, 0, q0_, .ref q1_), (1, 1, q0_, .ref q2_), (4, 0, a1_, .int y0_), (4, 4, a1_, .int y1_), (4, 3, a1_, .int y2_), (4, 2, a1_, .int y3_), (4, 1, a1_, .int y4_), (7, 1, q1_, .int y5_), (4, 6, a1_, .int y6_), (4, 14, a1_, .int y7_)]) [7, 8, 9, 10, 11, 12, 13, 3, 14, 15, 4, 5, 16, 17, 18] rfl
                        exact ih58  y_60 (bd_sub b_61 (by decide)) (by have h9_0 := b_61; unfold bd at h9_0; have h9_1 := bv58_7; unfold bd at h9_1; have h9_2 := kb_0; unfold bd at h9_2; have h9_3 := kb_1; unfold bd at h9_3; have h9_4 := kb_2; unfold bd at h9_4; have h9_5 := kb_8; unfold bd at h9_5; have h9_6 := kb_m1; unfold bd at h9_6; omega) _ _ _ _ g9 hG_59 hl9
              have hl9 := lv_sub hl [0, 1, 2, 3, 4, 5, 6, 7] (by rfl : lv_pick [(7, .int x_20), (6, .int r_14), (5, .int v22_5), (4, .int v22_4), (0, .ref a0_), (1, .ref a1_), (2, .int x2_), (3, .int x3_)] [0, 1, 2, 3, 4, 5, 6, 7] = [(7, .int x_20), (6, .int r_14), (5, .int v22_5), (4, .int v22_4), (0, .ref a0_), (1, .ref a1_), (2, .int x2_), (3, .int x3_)])
              have g9 := g.sub (fx' := [(6, 11, a_19, .int x_20), (7, 2, a_17, .ref a_18), (10, 0, a0_, .ref a_17), (4, 15, a1_, .int x_4), (10, 1, a0_, .ref q0_), (1, 0, q0_, .ref q1_), (1, 1, q0_, .ref q2_), (4, 0, a1_, .int y0_), (4, 4, a1_, .int y1_), (4, 3, a1_, .int y2_), (4, 2, a1_, .int y3_), (4, 1, a1_, .int y4_), (7, 1, q1_, .int y5_), (4, 6, a1_, .int y6_), (4, 14, a1_, .int y7_)]) [0, 1, 2, 3, 4, 5, 6, 7, 8, 9, 10, 11, 12, 13, 14] rfl
              exact loop_21 (1003) x_20 bx_20 (by have h9_0 := bx_20; unfold bd at h9_0; have h9_1 := kb_0; unfold bd at h9_1; have h9_2 := kb_1; unfold bd at h9_2; have h9_3 := kb_8; unfold bd at h9_3; have h9_4 := kb_m1; unfold bd at h9_4; omega) _ _ _ _ g9 hG_16 hl9
      have hl9 := lv_sub hl [0, 1, 2, 3, 4, 5] (by rfl : lv_pick [(5, .int 0), (4, .int x3_), (0, .ref a0_), (1, .ref a1_), (2, .int x2_), (3, .int x3_)] [0, 1, 2, 3, 4, 5] = [(5, .int 0), (4, .int x3_), (0, .ref a0_), (1, .ref a1_), (2, .int x2_), (3, .int x3_)])
      have g9 := g.sub (fx' := [(4, 15, a1_, .int x_4), (10, 1, a0_, .ref q0_), (1, 0, q0_, .ref q1_), (1, 1, q0_, .ref q2_), (4, 0, a1_, .int y0_), (4, 4, a1_, .int y1_), (4, 3, a1_, .int y2_), (4, 2, a1_, .int y3_), (4, 1, a1_, .int y4_), (7, 1, q1_, .int y5_), (4, 6, a1_, .int y6_), (4, 14, a1_, .int y7_)]) [0, 1, 2, 3, 4, 5, 6, 7, 8, 9, 10, 11] rfl
      exact loop_7 (19) 0 x3_ (bd_sub kb_0 (by decide)) (bd_sub bx3_ (by decide)) (by have h9_0 := bx3_; unfold bd at h9_0; have h9_1 := kb_0; unfold bd at h9_1; have h9_2 := kb_1; unfold bd at h9_2; omega) _ _ _ _ g9 hGcq1_ hl9
    · have fc_5 := neq_f c_5
      subst hQ
      exact W.vret hx hb hr (fun t ht hW => ⟨⟨_, rfl, ⟨y0_, (bd_sub b_3 (by decide)), y3_, by3_, y4_, by4_, (g.fcts [4, 7, 8] rfl)⟩, q3_of g hK ht hW⟩, g.2.2.1.F ht⟩) g.2.2.1.2.2 dX10_askGives_15
set_option maxHeartbeats 4000000 in
set_option maxRecDepth 100000 in
theorem r_X10_holds_19 (l : Launch) (dC : Nat → ClassId) (dI : Nat → Nat → Nat) (L : List Nat) (kd : Nat → Nat) (tys : List (ClassId × FieldType)) (f0 : Nat → va_E) (sz : Nat) (hWT : WT L kd tys f0) (a0_ : Nat) (ma0_ : a0_ ∈ L) (ka0_ : kd a0_ = 10) (a1_ : Nat) (ma1_ : a1_ ∈ L) (ka1_ : kd a1_ = 4) (x2_ : Int32) (bx2_ : bd 0 499 x2_) (x3_ : Int32) (bx3_ : bd 0 2 x3_) (q0_ : Nat) (mq0_ : q0_ ∈ L) (kq0_ : kd q0_ = 1) (q1_ : Nat) (mq1_ : q1_ ∈ L) (kq1_ : kd q1_ = 7) (q2_ : Nat) (mq2_ : q2_ ∈ L) (kq2_ : kd q2_ = 9) (y0_ : Int32) (by0_ : bd 1 500 y0_) (y1_ : Int32) (by1_ : bd 0 0 y1_) (y2_ : Int32) (by2_ : bd (-1) 2147483647 y2_) (y3_ : Int32) (by3_ : bd (-1) 2147483647 y3_) (y4_ : Int32) (by4_ : bd (-1) 2147483647 y4_) (y5_ : Int32) (by5_ : bd (-1) 2147483647 y5_) (y6_ : Int32) (by6_ : bd 1 8 y6_) (y7_ : Int32) (by7_ : bd 1 3 y7_) (y8_ : Int32) (by8_ : bd 0 9 y8_) (hGcq1_ : cOK f0 q1_) (hfx : Fs L kd f0 [(10, 1, a0_, .ref q0_), (1, 0, q0_, .ref q1_), (1, 1, q0_, .ref q2_), (7, 13, q1_, .int y0_), (4, 0, a1_, .int y1_), (4, 2, a1_, .int y2_), (4, 1, a1_, .int y3_), (4, 4, a1_, .int y4_), (4, 3, a1_, .int y5_), (7, 1, q1_, .int y6_), (4, 6, a1_, .int y7_), (4, 14, a1_, .int y8_)]) : Met l yX10_holds (.code yX10_holds cX10_holds 4 (some .boolean) :: lw_g) ({ frames := 2, cells := 0, slots := 0, locals := 50 }) (va_Pc [.ref a0_, .ref a1_, .int x2_, .int x3_] (P3 (dC, dI) L tys f0 sz)) (va_Qi (fun (r : Int32) (f : Nat → va_E) => (r = 0 ∧ ∃ z0_ : Int32, bd (-1) 2147483647 z0_ ∧ ∃ z1_ : Int32, bd (-1) 2147483647 z1_ ∧ ∃ z2_ : Int32, bd 0 7 z2_ ∧ Fs L kd f [(4, 2, a1_, .int z0_), (4, 1, a1_, .int z1_), (4, 0, a1_, .int z2_), (1, 12, q0_, .int 0), (1, 5, q0_, .int 1)]) ∨ (r = 1 ∧ ∃ z0_ : Int32, bd 1 1 z0_ ∧ Fs L kd f [(1, 15, q0_, .int z0_), (1, 12, q0_, .int 0), (1, 5, q0_, .int 1), (4, 0, a1_, .int y1_), (4, 2, a1_, .int y2_), (4, 1, a1_, .int y3_)])) (Q3 (dC, dI) L kd tys [(1, 5), (1, 6), (1, 8), (1, 11), (1, 12), (1, 13), (1, 14), (1, 15), (1, 16), (1, 17), (4, 0), (4, 1), (4, 2), (4, 5)] [100, 116, 117, 146] f0 sz) (pA L sz)) 0 0 (pA L sz) := by
  refine Met.ofW (cc := cX10_holds) (maxL := 4) (ret := (some .boolean)) (by decide) rfl ?_
  intro p e s m args below meth c s₁ B hml hv
  obtain ⟨rfl, hsz, hP, hK, hD0⟩ := hv
  have hx := B.exec
  have hb := B.bytes
  have hr := B.returns
  have hts := atoms_spec (ws := (.code yX10_holds cX10_holds 4 (some .boolean) :: lw_g)) B.pre
  have hown : s.vm.findClass RX10 = some m.cls := findClass_of_methodNamed B.named
  have hlocks := B.notSynchronized
  subst hsz
  have g : G3 (dC, dI) L kd tys s f0 [(1, 5), (1, 6), (1, 8), (1, 11), (1, 12), (1, 13), (1, 14), (1, 15), (1, 16), (1, 17), (4, 0), (4, 1), (4, 2), (4, 5)] [100, 116, 117, 146] f0 s.heap [] [(10, 1, a0_, .ref q0_), (1, 0, q0_, .ref q1_), (1, 1, q0_, .ref q2_), (7, 13, q1_, .int y0_), (4, 0, a1_, .int y1_), (4, 2, a1_, .int y2_), (4, 1, a1_, .int y3_), (4, 4, a1_, .int y4_), (4, 3, a1_, .int y5_), (7, 1, q1_, .int y6_), (4, 6, a1_, .int y7_), (4, 14, a1_, .int y8_)] := G3.start hP hD0 hWT hfx
  have hl := lv_entry ([.ref a0_, .ref a1_, .int x2_, .int x3_]) (n := 4) (Nat.le_of_ble_eq_true rfl)
  rw [lg_entry_eq]
  generalize (lg_sl ([.ref a0_, .ref a1_, .int x2_, .int x3_]) ++ List.replicate (4 - (lg_sl ([.ref a0_, .ref a1_, .int x2_, .int x3_])).length) Slot.unset).toArray = ls at hl ⊢
  have hl : lv_has ls 4 [(0, .ref a0_), (1, .ref a1_), (2, .int x2_), (3, .int x3_)] := hl
  refine W_q (fun Q hQ => ?_)
  refine lv_aload_n hx hb dX10_holds_0 rfl (lv_at hl 0 rfl) ?_
  refine g_getk (C := RX10) (T := TX10) (N := 10) hx hb hts (mc_ inX10) hown hK g rfl 1 (by decide) rfl (hts _ (List.mem_cons_of_mem _ t_913)) (fun _ h9 => h9) 0 rfl dX10_holds_1 ?_
  refine lv_aload_n hx hb dX10_holds_4 rfl (lv_at hl 0 rfl) ?_
  refine g_getr (K := 7) (C := RX10) (T := TX10) (N := 10) hx hb hts (mc_ inX10) hown hK g ma0_ ka0_ (by decide) rfl 0 (by decide) rfl (hts _ (List.mem_cons_of_mem _ t_912)) (fun _ h9 => h9) rfl dX10_holds_5 (fun a_1 ma_1 ka_1 g => ?_)
  refine g_getr (K := 141) (C := RX7) (T := TX7) (N := 19) hx hb hts (mc_ inX7) hown hK g ma_1 ka_1 (by decide) rfl 8 (by decide) rfl (hts _ (List.mem_cons_of_mem _ t_652)) (fun _ h9 => h9) rfl dX10_holds_8 (fun a_2 ma_2 ka_2 g => ?_)
  refine lv_iload_n hx hb dX10_holds_11 rfl (lv_at hl 2 rfl) ?_
  refine g_iald hx hb hK g ma_2 ka_2 (by decide) rfl (in_bd bx2_ (by decide)) dX10_holds_12 (fun x_3 bx_3 cx_3 => ?_)
  refine lv_aload_n hx hb dX10_holds_13 rfl (lv_at hl 1 rfl) ?_
  refine g_geti (C := RX4) (T := TX4) (N := 17) hx hb hts (mc_ inX4) hown hK g ma1_ ka1_ (by decide) rfl 16 (by decide) rfl (hts _ (List.mem_cons_of_mem _ t_876)) (fun _ h9 => h9) rfl dX10_holds_14 (fun x_4 bx_4 g => ?_)
  have go_ := g
  refine g_callv (va_runV (As := [.int x_3, .int x_4]) (rest := []) ⟨hx, hb, hml, hown, hts⟩ (r_X1_readyToAsk l dC dI L kd tys f0 s.heap.size g.2.2.2.1 q0_ mq0_ kq0_ x_3 x_4) (cwV 2 hts (gV_ t_1551 t_1552 t_1553 t_195 t_1554) rfl rfl rfl (by decide +kernel) ⟨(Nat.le_of_ble_eq_true rfl), (Nat.le_of_ble_eq_true rfl)⟩) (pre3V g hK mq0_ kq0_ (by decide) (q := (RX1, TX1, 18)) rfl) rfl rfl hl.1 rfl (lv_room (Nat.le_of_ble_eq_true rfl)) dX10_holds_17 ⟨(Nat.le_of_ble_eq_true rfl), (Nat.le_of_ble_eq_true rfl)⟩) g hK (by decide) (by decide) (fx' := [(4, 16, a1_, .int x_4), (7, 8, a_1, .ref a_2), (10, 0, a0_, .ref a_1), (10, 1, a0_, .ref q0_), (1, 0, q0_, .ref q1_), (1, 1, q0_, .ref q2_), (7, 13, q1_, .int y0_), (4, 0, a1_, .int y1_), (4, 2, a1_, .int y2_), (4, 1, a1_, .int y3_), (4, 4, a1_, .int y4_), (4, 3, a1_, .int y5_), (7, 1, q1_, .int y6_), (4, 6, a1_, .int y7_), (4, 14, a1_, .int y8_)]) rfl (fun fr_5 H locs hp hMr_5 g => ?_)
  have hF_6 := hp
  have hG_7 := cOK.frame hMr_5 go_.2.2.2.1 mq1_ kq1_ (by decide) (by decide) hGcq1_
  have g := g.more hF_6
  refine lv_aload_n hx hb dX10_holds_20 rfl (lv_at hl 0 rfl) ?_
  refine g_getk (C := RX10) (T := TX10) (N := 10) hx hb hts (mc_ inX10) hown hK g rfl 1 (by decide) rfl (hts _ (List.mem_cons_of_mem _ t_913)) (fun _ h9 => h9) 7 rfl dX10_holds_21 ?_
  have kb_0 : bd 0 0 (0 : Int32) := ⟨by decide, by decide⟩
  have kb_1 : bd 1 1 (1 : Int32) := ⟨by decide, by decide⟩
  have go_ := g
  refine g_callv (va_runV (As := []) (rest := []) ⟨hx, hb, hml, hown, hts⟩ (r_X1_go l dC dI L kd tys fr_5 H.size g.2.2.2.1 q0_ mq0_ kq0_ q1_ mq1_ kq1_ q2_ mq2_ kq2_ 0 kb_0 1 kb_1 y0_ by0_ y6_ by6_ hG_7 (g.fcts [8, 9, 1, 3, 10, 16] rfl)) (cwV 0 hts (gV_ t_1555 t_1556 t_1557 t_195 t_1558) rfl rfl rfl (by decide +kernel) ⟨(Nat.le_of_ble_eq_true rfl), (Nat.le_of_ble_eq_true rfl)⟩) (pre3V g hK mq0_ kq0_ (by decide) (q := (RX1, TX1, 18)) rfl) rfl rfl hl.1 rfl (lv_room (Nat.le_of_ble_eq_true rfl)) dX10_holds_24 ⟨(Nat.le_of_ble_eq_true rfl), (Nat.le_of_ble_eq_true rfl)⟩) g hK (by decide) (by decide) (fx' := [(1, 12, q0_, .int 0), (1, 6, q0_, .int x_4), (1, 5, q0_, .int 1), (4, 16, a1_, .int x_4), (7, 8, a_1, .ref a_2), (10, 0, a0_, .ref a_1), (10, 1, a0_, .ref q0_), (1, 0, q0_, .ref q1_), (1, 1, q0_, .ref q2_), (7, 13, q1_, .int y0_), (4, 0, a1_, .int y1_), (4, 2, a1_, .int y2_), (4, 1, a1_, .int y3_), (4, 4, a1_, .int y4_), (4, 3, a1_, .int y5_), (7, 1, q1_, .int y6_), (4, 6, a1_, .int y7_), (4, 14, a1_, .int y8_)]) rfl (fun fr_8 H locs hp hMr_8 g => ?_)
  have hG_9 := cOK.frame hMr_8 go_.2.2.2.1 mq1_ kq1_ (by decide) (by decide) hG_7
  refine lv_aload_n hx hb dX10_holds_27 rfl (lv_at hl 0 rfl) ?_
  refine g_getk (C := RX10) (T := TX10) (N := 10) hx hb hts (mc_ inX10) hown hK g rfl 1 (by decide) rfl (hts _ (List.mem_cons_of_mem _ t_913)) (fun _ h9 => h9) 6 rfl dX10_holds_28 ?_
  refine g_geti (C := RX1) (T := TX1) (N := 18) hx hb hts (mc_ inX1) hown hK g mq0_ kq0_ (by decide) rfl 15 (by decide) rfl (hts _ (List.mem_cons_of_mem _ t_751)) (fun _ h9 => h9) rfl dX10_holds_31 (fun x_10 bx_10 g => ?_)
  refine lv_iconst (v := 1) hx hb dX10_holds_34 (by decide) ?_
  refine lv_icmp_ne (tgt := 54) hx hb dX10_holds_35 (by decide) (fun c_11 => ?_) (fun c_11 => ?_)
  · have fc_11 := neq_f c_11
    refine lv_aload_n hx hb dX10_holds_54 rfl (lv_at hl 0 rfl) ?_
    refine g_getk (C := RX10) (T := TX10) (N := 10) hx hb hts (mc_ inX10) hown hK g rfl 1 (by decide) rfl (hts _ (List.mem_cons_of_mem _ t_913)) (fun _ h9 => h9) 7 rfl dX10_holds_55 ?_
    refine g_getk (C := RX1) (T := TX1) (N := 18) hx hb hts (mc_ inX1) hown hK g rfl 15 (by decide) rfl (hts _ (List.mem_cons_of_mem _ t_751)) (fun _ h9 => h9) 0 rfl dX10_holds_58 ?_
    refine lv_iconst (v := 2) hx hb dX10_holds_61 (by decide) ?_
    have kb_2 : bd 2 2 (2 : Int32) := ⟨by decide, by decide⟩
    refine lv_icmp_ne (tgt := 76) hx hb dX10_holds_62 (by decide) (fun c_12 => ?_) (fun c_12 => ?_)
    · have fc_12 := neq_f c_12
      refine lv_aload_n hx hb dX10_holds_76 rfl (lv_at hl 1 rfl) ?_
      refine lv_aload_n hx hb dX10_holds_77 rfl (lv_at hl 0 rfl) ?_
      refine g_getk (C := RX10) (T := TX10) (N := 10) hx hb hts (mc_ inX10) hown hK g rfl 1 (by decide) rfl (hts _ (List.mem_cons_of_mem _ t_913)) (fun _ h9 => h9) 7 rfl dX10_holds_78 ?_
      refine g_getk (C := RX1) (T := TX1) (N := 18) hx hb hts (mc_ inX1) hown hK g rfl 15 (by decide) rfl (hts _ (List.mem_cons_of_mem _ t_751)) (fun _ h9 => h9) 0 rfl dX10_holds_81 ?_
      refine lv_iconst (v := 4) hx hb dX10_holds_84 (by decide) ?_
      have kb_4 : bd 4 4 (4 : Int32) := ⟨by decide, by decide⟩
      refine lv_icmp_ne (tgt := 92) hx hb dX10_holds_85 (by decide) (fun c_13 => ?_) (fun c_13 => ?_)
      · have fc_13 := neq_f c_13
        refine lv_bipush (v := 7) hx hb dX10_holds_92 (by decide) ?_
        refine lv_iload_n hx hb dX10_holds_94 rfl (lv_at hl 2 rfl) ?_
        refine lv_iload_n hx hb dX10_holds_95 rfl (lv_at hl 3 rfl) ?_
        have go_ := g
        refine g_callv (va_runV (As := [.int 7, .int x2_, .int x3_]) (rest := []) ⟨hx, hb, hml, hown, hts⟩ (r_X4_breakBy l dC dI L kd tys fr_8 H.size g.2.2.2.1 a1_ ma1_ ka1_ 7 x2_ x3_) (cwV 3 hts (gV_ t_1606 t_1607 t_1608 t_197 t_1609) rfl rfl rfl (by decide +kernel) ⟨(Nat.le_of_ble_eq_true rfl), (Nat.le_of_ble_eq_true rfl)⟩) (pre3V g hK ma1_ ka1_ (by decide) (q := (RX4, TX4, 17)) rfl) rfl rfl hl.1 rfl (lv_room (Nat.le_of_ble_eq_true rfl)) dX10_holds_96 ⟨(Nat.le_of_ble_eq_true rfl), (Nat.le_of_ble_eq_true rfl)⟩) g hK (by decide) (by decide) (fx' := [(1, 15, q0_, .int x_10), (1, 12, q0_, .int 0), (1, 6, q0_, .int x_4), (1, 5, q0_, .int 1), (4, 16, a1_, .int x_4), (7, 8, a_1, .ref a_2), (10, 0, a0_, .ref a_1), (10, 1, a0_, .ref q0_), (1, 0, q0_, .ref q1_), (1, 1, q0_, .ref q2_), (7, 13, q1_, .int y0_), (4, 4, a1_, .int y4_), (4, 3, a1_, .int y5_), (7, 1, q1_, .int y6_), (4, 6, a1_, .int y7_), (4, 14, a1_, .int y8_)]) rfl (fun fr_14 H locs hp hMr_14 g => ?_)
        have hF_15 := hp
        have hG_16 := cOK.frame hMr_14 go_.2.2.2.1 mq1_ kq1_ (by decide) (by decide) hG_9
        have g := g.more hF_15
        refine lv_iconst (v := 0) hx hb dX10_holds_99 (by decide) ?_
        have kb_7 : bd 7 7 (7 : Int32) := ⟨by decide, by decide⟩
        subst hQ
        exact W.zret (v := 0) hx hb hr (nar_z (bd_sub kb_0 (by decide) : bd 0 1 _).1 (bd_sub kb_0 (by decide) : bd 0 1 _).2) (fun t ht hW => ⟨⟨_, _, rfl, Or.inl ⟨rfl, x3_, (bd_sub bx3_ (by decide)), x2_, (bd_sub bx2_ (by decide)), 7, (bd_sub kb_7 (by decide)), (g.fcts [0, 1, 2, 4, 6] rfl)⟩, q3_of g hK ht hW⟩, g.2.2.1.F ht⟩) g.2.2.1.2.2 dX10_holds_100
      · have fc_13 := eq_f c_13
        have b_17 : bd 4 4 x_10 := eqX fc_13 (bdT x_10) kb_4 (by decide)
        refine lv_iconst (v := 5) hx hb dX10_holds_88 (by decide) ?_
        refine lv_goto (tgt := 94) hx hb dX10_holds_89 (by decide) ?_
        refine lv_iload_n hx hb dX10_holds_94 rfl (lv_at hl 2 rfl) ?_
        refine lv_iload_n hx hb dX10_holds_95 rfl (lv_at hl 3 rfl) ?_
        have go_ := g
        refine g_callv (va_runV (As := [.int 5, .int x2_, .int x3_]) (rest := []) ⟨hx, hb, hml, hown, hts⟩ (r_X4_breakBy l dC dI L kd tys fr_8 H.size g.2.2.2.1 a1_ ma1_ ka1_ 5 x2_ x3_) (cwV 3 hts (gV_ t_1606 t_1607 t_1608 t_197 t_1609) rfl rfl rfl (by decide +kernel) ⟨(Nat.le_of_ble_eq_true rfl), (Nat.le_of_ble_eq_true rfl)⟩) (pre3V g hK ma1_ ka1_ (by decide) (q := (RX4, TX4, 17)) rfl) rfl rfl hl.1 rfl (lv_room (Nat.le_of_ble_eq_true rfl)) dX10_holds_96 ⟨(Nat.le_of_ble_eq_true rfl), (Nat.le_of_ble_eq_true rfl)⟩) g hK (by decide) (by decide) (fx' := [(1, 15, q0_, .int x_10), (1, 12, q0_, .int 0), (1, 6, q0_, .int x_4), (1, 5, q0_, .int 1), (4, 16, a1_, .int x_4), (7, 8, a_1, .ref a_2), (10, 0, a0_, .ref a_1), (10, 1, a0_, .ref q0_), (1, 0, q0_, .ref q1_), (1, 1, q0_, .ref q2_), (7, 13, q1_, .int y0_), (4, 4, a1_, .int y4_), (4, 3, a1_, .int y5_), (7, 1, q1_, .int y6_), (4, 6, a1_, .int y7_), (4, 14, a1_, .int y8_)]) rfl (fun fr_18 H locs hp hMr_18 g => ?_)
        have hF_19 := hp
        have hG_20 := cOK.frame hMr_18 go_.2.2.2.1 mq1_ kq1_ (by decide) (by decide) hG_9
        have g := g.more hF_19
        refine lv_iconst (v := 0) hx hb dX10_holds_99 (by decide) ?_
        have kb_5 : bd 5 5 (5 : Int32) := ⟨by decide, by decide⟩
        subst hQ
        exact W.zret (v := 0) hx hb hr (nar_z (bd_sub kb_0 (by decide) : bd 0 1 _).1 (bd_sub kb_0 (by decide) : bd 0 1 _).2) (fun t ht hW => ⟨⟨_, _, rfl, Or.inl ⟨rfl, x3_, (bd_sub bx3_ (by decide)), x2_, (bd_sub bx2_ (by decide)), 5, (bd_sub kb_5 (by decide)), (g.fcts [0, 1, 2, 4, 6] rfl)⟩, q3_of g hK ht hW⟩, g.2.2.1.F ht⟩) g.2.2.1.2.2 dX10_holds_100
    · have fc_12 := eq_f c_12
      have b_21 : bd 2 2 x_10 := eqX fc_12 (bdT x_10) kb_2 (by decide)
      refine lv_aload_n hx hb dX10_holds_65 rfl (lv_at hl 1 rfl) ?_
      refine lv_aload_n hx hb dX10_holds_66 rfl (lv_at hl 0 rfl) ?_
      refine g_getk (C := RX10) (T := TX10) (N := 10) hx hb hts (mc_ inX10) hown hK g rfl 1 (by decide) rfl (hts _ (List.mem_cons_of_mem _ t_913)) (fun _ h9 => h9) 7 rfl dX10_holds_67 ?_
      refine g_getl (C := RX1) (T := TX1) (N := 18) hx hb hts (mc_ inX1) hown hK g mq0_ kq0_ (by decide) rfl 17 (by decide) rfl (hts _ (List.mem_cons_of_mem _ t_755)) (fun _ h9 => h9) rfl dX10_holds_70 (fun x_22 g => ?_)
      have go_ := g
      refine g_put (C := RX4) (T := TX4) (N := 17) hx hb hts (mc_ inX4) tyX4 tyX4_ok nmX4 hown hK g ma1_ ka1_ (by decide) rfl 5 (by decide) (hts _ (List.mem_cons_of_mem _ t_848)) (fun _ h9 => h9) rfl rfl okV_l rfl rfl (by decide) (Or.inr (Or.inl (by decide))) (fx' := [(1, 17, q0_, .long x_22), (1, 15, q0_, .int x_10), (1, 12, q0_, .int 0), (1, 6, q0_, .int x_4), (1, 5, q0_, .int 1), (4, 16, a1_, .int x_4), (7, 8, a_1, .ref a_2), (10, 0, a0_, .ref a_1), (10, 1, a0_, .ref q0_), (1, 0, q0_, .ref q1_), (1, 1, q0_, .ref q2_), (7, 13, q1_, .int y0_), (4, 0, a1_, .int y1_), (4, 2, a1_, .int y2_), (4, 1, a1_, .int y3_), (4, 4, a1_, .int y4_), (4, 3, a1_, .int y5_), (7, 1, q1_, .int y6_), (4, 6, a1_, .int y7_), (4, 14, a1_, .int y8_)]) rfl dX10_holds_73 (fun f H locs hM_23 g => ?_)
      have hG_24 := cOK.frame hM_23 go_.2.2.2.1 mq1_ kq1_ (by decide) (by decide) hG_9
      refine lv_aload_n hx hb dX10_holds_76 rfl (lv_at hl 1 rfl) ?_
      refine lv_aload_n hx hb dX10_holds_77 rfl (lv_at hl 0 rfl) ?_
      refine g_getk (C := RX10) (T := TX10) (N := 10) hx hb hts (mc_ inX10) hown hK g rfl 1 (by decide) rfl (hts _ (List.mem_cons_of_mem _ t_913)) (fun _ h9 => h9) 9 rfl dX10_holds_78 ?_
      refine g_getk (C := RX1) (T := TX1) (N := 18) hx hb hts (mc_ inX1) hown hK g rfl 15 (by decide) rfl (hts _ (List.mem_cons_of_mem _ t_751)) (fun _ h9 => h9) 2 rfl dX10_holds_81 ?_
      refine lv_iconst (v := 4) hx hb dX10_holds_84 (by decide) ?_
      have kb_4 : bd 4 4 (4 : Int32) := ⟨by decide, by decide⟩
      refine lv_icmp_ne (tgt := 92) hx hb dX10_holds_85 (by decide) (fun c_25 => ?_) (fun c_25 => ?_)
      · have fc_25 := neq_f c_25
        refine lv_bipush (v := 7) hx hb dX10_holds_92 (by decide) ?_
        refine lv_iload_n hx hb dX10_holds_94 rfl (lv_at hl 2 rfl) ?_
        refine lv_iload_n hx hb dX10_holds_95 rfl (lv_at hl 3 rfl) ?_
        have go_ := g
        refine g_callv (va_runV (As := [.int 7, .int x2_, .int x3_]) (rest := []) ⟨hx, hb, hml, hown, hts⟩ (r_X4_breakBy l dC dI L kd tys f H.size g.2.2.2.1 a1_ ma1_ ka1_ 7 x2_ x3_) (cwV 3 hts (gV_ t_1606 t_1607 t_1608 t_197 t_1609) rfl rfl rfl (by decide +kernel) ⟨(Nat.le_of_ble_eq_true rfl), (Nat.le_of_ble_eq_true rfl)⟩) (pre3V g hK ma1_ ka1_ (by decide) (q := (RX4, TX4, 17)) rfl) rfl rfl hl.1 rfl (lv_room (Nat.le_of_ble_eq_true rfl)) dX10_holds_96 ⟨(Nat.le_of_ble_eq_true rfl), (Nat.le_of_ble_eq_true rfl)⟩) g hK (by decide) (by decide) (fx' := [(4, 5, a1_, .long x_22), (1, 17, q0_, .long x_22), (1, 15, q0_, .int x_10), (1, 12, q0_, .int 0), (1, 6, q0_, .int x_4), (1, 5, q0_, .int 1), (4, 16, a1_, .int x_4), (7, 8, a_1, .ref a_2), (10, 0, a0_, .ref a_1), (10, 1, a0_, .ref q0_), (1, 0, q0_, .ref q1_), (1, 1, q0_, .ref q2_), (7, 13, q1_, .int y0_), (4, 4, a1_, .int y4_), (4, 3, a1_, .int y5_), (7, 1, q1_, .int y6_), (4, 6, a1_, .int y7_), (4, 14, a1_, .int y8_)]) rfl (fun fr_26 H locs hp hMr_26 g => ?_)
        have hF_27 := hp
        have hG_28 := cOK.frame hMr_26 go_.2.2.2.1 mq1_ kq1_ (by decide) (by decide) hG_24
        have g := g.more hF_27
        refine lv_iconst (v := 0) hx hb dX10_holds_99 (by decide) ?_
        have kb_7 : bd 7 7 (7 : Int32) := ⟨by decide, by decide⟩
        subst hQ
        exact W.zret (v := 0) hx hb hr (nar_z (bd_sub kb_0 (by decide) : bd 0 1 _).1 (bd_sub kb_0 (by decide) : bd 0 1 _).2) (fun t ht hW => ⟨⟨_, _, rfl, Or.inl ⟨rfl, x3_, (bd_sub bx3_ (by decide)), x2_, (bd_sub bx2_ (by decide)), 7, (bd_sub kb_7 (by decide)), (g.fcts [0, 1, 2, 6, 8] rfl)⟩, q3_of g hK ht hW⟩, g.2.2.1.F ht⟩) g.2.2.1.2.2 dX10_holds_100
      · have fc_25 := eq_f c_25
        have b_29 : bd 4 2 x_10 := eqX fc_25 b_21 kb_4 (by decide)
        exact bd_no b_29 (by decide)
  · have fc_11 := eq_f c_11
    have b_30 : bd 1 1 x_10 := eqX fc_11 (bdT x_10) kb_1 (by decide)
    refine lv_aload_n hx hb dX10_holds_38 rfl (lv_at hl 0 rfl) ?_
    refine g_getk (C := RX10) (T := TX10) (N := 10) hx hb hts (mc_ inX10) hown hK g rfl 1 (by decide) rfl (hts _ (List.mem_cons_of_mem _ t_913)) (fun _ h9 => h9) 7 rfl dX10_holds_39 ?_
    refine g_geti (C := RX1) (T := TX1) (N := 18) hx hb hts (mc_ inX1) hown hK g mq0_ kq0_ (by decide) rfl 16 (by decide) rfl (hts _ (List.mem_cons_of_mem _ t_753)) (fun _ h9 => h9) rfl dX10_holds_42 (fun x_31 bx_31 g => ?_)
    refine lv_if_eq (tgt := 52) hx hb dX10_holds_45 (by decide) (fun c_32 => ?_) (fun c_32 => ?_)
    · have fc_32 := eq_f c_32
      have b_33 : bd 0 0 x_31 := eqX fc_32 (bdT x_31) kb_0 (by decide)
      refine lv_iconst (v := 0) hx hb dX10_holds_52 (by decide) ?_
      subst hQ
      exact W.zret (v := 0) hx hb hr (nar_z (bd_sub kb_0 (by decide) : bd 0 1 _).1 (bd_sub kb_0 (by decide) : bd 0 1 _).2) (fun t ht hW => ⟨⟨_, _, rfl, Or.inl ⟨rfl, y2_, by2_, y3_, by3_, y1_, (bd_sub by1_ (by decide)), (g.fcts [13, 14, 12, 2, 4] rfl)⟩, q3_of g hK ht hW⟩, g.2.2.1.F ht⟩) g.2.2.1.2.2 dX10_holds_53
    · have fc_32 := neq_f c_32
      refine lv_iconst (v := 1) hx hb dX10_holds_48 (by decide) ?_
      refine lv_goto (tgt := 53) hx hb dX10_holds_49 (by decide) ?_
      subst hQ
      exact W.zret (v := 1) hx hb hr (nar_z (bd_sub kb_1 (by decide) : bd 0 1 _).1 (bd_sub kb_1 (by decide) : bd 0 1 _).2) (fun t ht hW => ⟨⟨_, _, rfl, Or.inr (⟨rfl, x_10, b_30, (g.fcts [1, 2, 4, 12, 13, 14] rfl)⟩), q3_of g hK ht hW⟩, g.2.2.1.F ht⟩) g.2.2.1.2.2 dX10_holds_53
set_option maxHeartbeats 4000000 in
set_option maxRecDepth 100000 in
theorem r_X10_askKept_6 (l : Launch) (dC : Nat → ClassId) (dI : Nat → Nat → Nat) (L : List Nat) (kd : Nat → Nat) (tys : List (ClassId × FieldType)) (f0 : Nat → va_E) (sz : Nat) (hWT : WT L kd tys f0) (a0_ : Nat) (ma0_ : a0_ ∈ L) (ka0_ : kd a0_ = 10) (a1_ : Nat) (ma1_ : a1_ ∈ L) (ka1_ : kd a1_ = 4) (x2_ : Int32) (bx2_ : bd 0 2 x2_) (q0_ : Nat) (mq0_ : q0_ ∈ L) (kq0_ : kd q0_ = 7) (q1_ : Nat) (mq1_ : q1_ ∈ L) (kq1_ : kd q1_ = 1) (y0_ : Int32) (by0_ : bd 0 8 y0_) (y1_ : Int32) (by1_ : bd (-1) 2147483647 y1_) (y2_ : Int32) (by2_ : bd (-1) 2147483647 y2_) (y3_ : Int32) (by3_ : bd (-1) 2147483647 y3_) (y4_ : Int32) (by4_ : bd (-1) 2147483647 y4_) (y5_ : Int32) (by5_ : bd 1 8 y5_) (y6_ : Int32) (by6_ : bd 1 3 y6_) (y7_ : Int32) (by7_ : bd 0 9 y7_) (hGcq0_ : cOK f0 q0_) (hfx : Fs L kd f0 [(10, 0, a0_, .ref q0_), (10, 1, a0_, .ref q1_), (4, 0, a1_, .int y0_), (4, 2, a1_, .int y1_), (4, 1, a1_, .int y2_), (4, 4, a1_, .int y3_), (4, 3, a1_, .int y4_), (7, 1, q0_, .int y5_), (4, 6, a1_, .int y6_), (4, 14, a1_, .int y7_)]) : Met l yX10_askKept (.code yX10_askKept cX10_askKept 8 none :: lw_g) ({ frames := 3, cells := 0, slots := 0, locals := 73 }) (va_Pc [.ref a0_, .ref a1_, .int x2_] (P3 (dC, dI) L tys f0 sz)) (va_Qv (fun (f : Nat → va_E) => (∃ z0_ : Int32, bd 0 8 z0_ ∧ ∃ z1_ : Int32, bd (-1) 2147483647 z1_ ∧ ∃ z2_ : Int32, bd (-1) 2147483647 z2_ ∧ Fs L kd f [(4, 0, a1_, .int z0_), (4, 2, a1_, .int z1_), (4, 1, a1_, .int z2_)])) (Q3 (dC, dI) L kd tys [(1, 0), (1, 1), (1, 2), (1, 3), (1, 4), (1, 5), (1, 6), (1, 8), (1, 11), (1, 12), (1, 13), (1, 14), (1, 15), (1, 16), (1, 17), (4, 0), (4, 1), (4, 2), (4, 5)] [100, 116, 117, 146] f0 sz) (pA L sz)) 0 0 (pA L sz) := by
  refine Met.ofW (cc := cX10_askKept) (maxL := 8) (ret := none) (by decide) rfl ?_
  intro p e s m args below meth c s₁ B hml hv
  obtain ⟨rfl, hsz, hP, hK, hD0⟩ := hv
  have hx := B.exec
  have hb := B.bytes
  have hr := B.returns
  have hts := atoms_spec (ws := (.code yX10_askKept cX10_askKept 8 none :: lw_g)) B.pre
  have hown : s.vm.findClass RX10 = some m.cls := findClass_of_methodNamed B.named
  have hlocks := B.notSynchronized
  subst hsz
  have g : G3 (dC, dI) L kd tys s f0 [(1, 0), (1, 1), (1, 2), (1, 3), (1, 4), (1, 5), (1, 6), (1, 8), (1, 11), (1, 12), (1, 13), (1, 14), (1, 15), (1, 16), (1, 17), (4, 0), (4, 1), (4, 2), (4, 5)] [100, 116, 117, 146] f0 s.heap [] [(10, 0, a0_, .ref q0_), (10, 1, a0_, .ref q1_), (4, 0, a1_, .int y0_), (4, 2, a1_, .int y1_), (4, 1, a1_, .int y2_), (4, 4, a1_, .int y3_), (4, 3, a1_, .int y4_), (7, 1, q0_, .int y5_), (4, 6, a1_, .int y6_), (4, 14, a1_, .int y7_)] := G3.start hP hD0 hWT hfx
  have hl := lv_entry ([.ref a0_, .ref a1_, .int x2_]) (n := 8) (Nat.le_of_ble_eq_true rfl)
  rw [lg_entry_eq]
  generalize (lg_sl ([.ref a0_, .ref a1_, .int x2_]) ++ List.replicate (8 - (lg_sl ([.ref a0_, .ref a1_, .int x2_])).length) Slot.unset).toArray = ls at hl ⊢
  have hl : lv_has ls 8 [(0, .ref a0_), (1, .ref a1_), (2, .int x2_)] := hl
  refine W_q (fun Q hQ => ?_)
  refine lv_aload_n hx hb dX10_askKept_0 rfl (lv_at hl 1 rfl) ?_
  refine g_getk (C := RX4) (T := TX4) (N := 17) hx hb hts (mc_ inX4) hown hK g rfl 0 (by decide) rfl (hts _ (List.mem_cons_of_mem _ t_837)) (fun _ h9 => h9) 2 rfl dX10_askKept_1 ?_
  have kb_0 : bd 0 0 (0 : Int32) := ⟨by decide, by decide⟩
  refine lv_if_eq (tgt := 8) hx hb dX10_askKept_4 (by decide) (fun c_1 => ?_) (fun c_1 => ?_)
  · have fc_1 := eq_f c_1
    have b_2 : bd 0 0 y0_ := eqX fc_1 by0_ kb_0 (by decide)
    refine lv_aload_n hx hb dX10_askKept_8 rfl (lv_at hl 1 rfl) ?_
    refine g_getr (K := 126) (C := RX4) (T := TX4) (N := 17) hx hb hts (mc_ inX4) hown hK g ma1_ ka1_ (by decide) rfl 7 (by decide) rfl (hts _ (List.mem_cons_of_mem _ t_854)) (fun _ h9 => h9) rfl dX10_askKept_9 (fun a_3 ma_3 ka_3 g => ?_)
    refine lv_iload_n hx hb dX10_askKept_12 rfl (lv_at hl 2 rfl) ?_
    refine g_iald hx hb hK g ma_3 ka_3 (by decide) rfl (in_bd bx2_ (by decide)) dX10_askKept_13 (fun x_4 bx_4 cx_4 => ?_)
    refine lv_istore_n (lv' := [(3, .int x_4), (0, .ref a0_), (1, .ref a1_), (2, .int x2_)]) hx hb dX10_askKept_14 rfl hl (by decide) rfl (fun ls hl => ?_)
    refine lv_aload_n hx hb dX10_askKept_15 rfl (lv_at hl 2 rfl) ?_
    refine g_getr (K := 128) (C := RX4) (T := TX4) (N := 17) hx hb hts (mc_ inX4) hown hK g ma1_ ka1_ (by decide) rfl 9 (by decide) rfl (hts _ (List.mem_cons_of_mem _ t_860)) (fun _ h9 => h9) rfl dX10_askKept_16 (fun a_5 ma_5 ka_5 g => ?_)
    refine lv_iload_n hx hb dX10_askKept_19 rfl (lv_at hl 3 rfl) ?_
    refine g_aald hx hb hK g ma_5 ka_5 (by decide) rfl (by decide) (in_bd bx2_ (by decide)) dX10_askKept_20 (fun a_6 ma_6 ua_6 wa_6 => ?_)
    have ka_6 : kd a_6 = 101 := by omega
    refine lv_astore (lv' := [(4, .ref a_6), (3, .int x_4), (0, .ref a0_), (1, .ref a1_), (2, .int x2_)]) hx hb dX10_askKept_21 hl (by decide) rfl (fun ls hl => ?_)
    refine lv_aload_n hx hb dX10_askKept_23 rfl (lv_at hl 2 rfl) ?_
    refine g_getk (C := RX10) (T := TX10) (N := 10) hx hb hts (mc_ inX10) hown hK g rfl 1 (by decide) rfl (hts _ (List.mem_cons_of_mem _ t_913)) (fun _ h9 => h9) 3 rfl dX10_askKept_24 ?_
    refine lv_aload_n hx hb dX10_askKept_27 rfl (lv_at hl 2 rfl) ?_
    refine g_getk (C := RX10) (T := TX10) (N := 10) hx hb hts (mc_ inX10) hown hK g rfl 0 (by decide) rfl (hts _ (List.mem_cons_of_mem _ t_912)) (fun _ h9 => h9) 2 rfl dX10_askKept_28 ?_
    refine lv_aload_n hx hb dX10_askKept_31 rfl (lv_at hl 2 rfl) ?_
    refine g_getk (C := RX10) (T := TX10) (N := 10) hx hb hts (mc_ inX10) hown hK g rfl 0 (by decide) rfl (hts _ (List.mem_cons_of_mem _ t_912)) (fun _ h9 => h9) 2 rfl dX10_askKept_32 ?_
    refine g_getr (K := 136) (C := RX7) (T := TX7) (N := 19) hx hb hts (mc_ inX7) hown hK g mq0_ kq0_ (by decide) rfl 0 (by decide) rfl (hts _ (List.mem_cons_of_mem _ t_624)) (fun _ h9 => h9) rfl dX10_askKept_35 (fun a_7 ma_7 ka_7 g => ?_)
    refine lv_iload_n hx hb dX10_askKept_38 rfl (lv_at hl 1 rfl) ?_
    refine g_aald hx hb hK g ma_7 ka_7 (by decide) rfl (by decide) (in_bd bx_4 (by decide)) dX10_askKept_39 (fun a_8 ma_8 ua_8 wa_8 => ?_)
    have ka_8 : kd a_8 = 9 := by omega
    refine lv_aload hx hb dX10_askKept_40 (lv_at hl 0 rfl) ?_
    refine lv_aload hx hb dX10_askKept_42 (lv_at hl 0 rfl) ?_
    refine lv_aload hx hb dX10_askKept_44 (lv_at hl 0 rfl) ?_
    have go_ := g
    refine g_callv (va_runV (As := [.ref q0_, .ref a_8, .ref a_6, .ref a_6, .ref a_6]) (rest := []) ⟨hx, hb, hml, hown, hts⟩ (r_X1_standOn l dC dI L kd tys f0 s.heap.size g.2.2.2.1 q1_ mq1_ kq1_ q0_ mq0_ kq0_ a_8 ma_8 ka_8 a_6 ma_6 ka_6 a_6 ma_6 ka_6 a_6 ma_6 ka_6) (cwV 5 hts (gV_ t_1543 t_1544 t_1545 t_195 t_1546) rfl rfl rfl (by decide +kernel) ⟨(Nat.le_of_ble_eq_true rfl), (Nat.le_of_ble_eq_true rfl)⟩) (pre3V g hK mq1_ kq1_ (by decide) (q := (RX1, TX1, 18)) rfl) rfl rfl hl.1 rfl (lv_room (Nat.le_of_ble_eq_true rfl)) dX10_askKept_46 ⟨(Nat.le_of_ble_eq_true rfl), (Nat.le_of_ble_eq_true rfl)⟩) g hK (by decide) (by decide) (fx' := [(7, 0, q0_, .ref a_7), (4, 9, a1_, .ref a_5), (4, 7, a1_, .ref a_3), (10, 0, a0_, .ref q0_), (10, 1, a0_, .ref q1_), (4, 0, a1_, .int y0_), (4, 2, a1_, .int y1_), (4, 1, a1_, .int y2_), (4, 4, a1_, .int y3_), (4, 3, a1_, .int y4_), (7, 1, q0_, .int y5_), (4, 6, a1_, .int y6_), (4, 14, a1_, .int y7_)]) rfl (fun fr_9 H locs hp hMr_9 g => ?_)
    have hF_10 := hp
    have hG_11 := cOK.frame hMr_9 go_.2.2.2.1 mq0_ kq0_ (by decide) (by decide) hGcq0_
    have g := g.more hF_10
    refine lv_iconst (v := 0) hx hb dX10_askKept_49 (by decide) ?_
    refine lv_istore (lv' := [(5, .int 0), (4, .ref a_6), (3, .int x_4), (0, .ref a0_), (1, .ref a1_), (2, .int x2_)]) hx hb dX10_askKept_50 hl (by decide) rfl (fun ls hl => ?_)
    have loop_12 : ∀ (n : Nat) (v52_5 : Int32) (v52_3 : Int32), bd 0 8 v52_5 → (8 - v52_5.toInt < (n : Int)) → ∀ (f : Nat → va_E) (H : Heap) (locs : List Loc) (ls : Array Slot), G3 (dC, dI) L kd tys s f0 [(1, 0), (1, 1), (1, 2), (1, 3), (1, 4), (1, 5), (1, 6), (1, 8), (1, 11), (1, 12), (1, 13), (1, 14), (1, 15), (1, 16), (1, 17), (4, 0), (4, 1), (4, 2), (4, 5)] [100, 116, 117, 146] f H locs [(1, 4, q1_, .ref a_6), (1, 3, q1_, .ref a_6), (1, 2, q1_, .ref a_6), (1, 1, q1_, .ref a_8), (1, 0, q1_, .ref q0_), (7, 0, q0_, .ref a_7), (4, 9, a1_, .ref a_5), (4, 7, a1_, .ref a_3), (10, 0, a0_, .ref q0_), (10, 1, a0_, .ref q1_), (4, 0, a1_, .int y0_), (4, 2, a1_, .int y1_), (4, 1, a1_, .int y2_), (4, 4, a1_, .int y3_), (4, 3, a1_, .int y4_), (7, 1, q0_, .int y5_), (4, 6, a1_, .int y6_), (4, 14, a1_, .int y7_)] → cOK f q0_ → lv_has ls 8 [(5, .int v52_5), (4, .ref a_6), (3, .int v52_3), (0, .ref a0_), (1, .ref a1_), (2, .int x2_)] → W p l e ({ frames := 3, cells := 0, slots := 0, locals := 73 } : Room) s m [.ref a0_, .ref a1_, .int x2_].toArray below meth c H locs 0 0 Q (F0 m 52 ls []) := by
      intro n52
      induction n52 with
      | zero =>
        intro v52_5 v52_3 bv52_5  hm52 f H locs ls g hG52_c_q0_ hl
        exact absurd hm52 (by have h9_v52_5 := bv52_5; unfold bd at h9_v52_5; have h9_v52_3 := bdT v52_3; unfold bd at h9_v52_3; omega)
      | succ n52 ih52 =>
        intro v52_5 v52_3 bv52_5  hm52 f H locs ls g hG52_c_q0_ hl
        refine lv_iload hx hb dX10_askKept_52 (lv_at hl 0 rfl) ?_
        refine lv_bipush (v := 8) hx hb dX10_askKept_54 (by decide) ?_
        have kb_8 : bd 8 8 (8 : Int32) := ⟨by decide, by decide⟩
        refine lv_icmp_ge (tgt := 168) hx hb dX10_askKept_56 (by decide) (fun c_13 => ?_) (fun c_13 => ?_)
        · have fc_13 := le_f c_13
          have b_14 : bd 8 8 v52_5 := leR fc_13 kb_8 bv52_5 (by decide)
          subst hQ
          exact W.vret hx hb hr (fun t ht hW => ⟨⟨_, rfl, ⟨y0_, (bd_sub b_2 (by decide)), y1_, by1_, y2_, by2_, (g.fcts [10, 11, 12] rfl)⟩, q3_of g hK ht hW⟩, g.2.2.1.F ht⟩) g.2.2.1.2.2 dX10_askKept_168
        · have fc_13 := nle_f c_13
          have b_15 : bd 0 7 v52_5 := ltL fc_13 bv52_5 kb_8 (by decide)
          refine lv_aload_n hx hb dX10_askKept_59 rfl (lv_at hl 3 rfl) ?_
          refine g_getk (C := RX10) (T := TX10) (N := 10) hx hb hts (mc_ inX10) hown hK g rfl 0 (by decide) rfl (hts _ (List.mem_cons_of_mem _ t_912)) (fun _ h9 => h9) 8 rfl dX10_askKept_60 ?_
          refine lv_iload_n hx hb dX10_askKept_63 rfl (lv_at hl 2 rfl) ?_
          have go_ := g
          refine g_calli (va_runV (As := [.int v52_3]) (rest := []) ⟨hx, hb, hml, hown, hts⟩ (r_X7_hasClass l dC dI L kd tys f H.size g.2.2.2.1 q0_ mq0_ kq0_ v52_3) (cwV 1 hts (gV_ t_1534 t_1281 t_1282 t_191 t_1283) rfl rfl rfl (by decide +kernel) ⟨(Nat.le_of_ble_eq_true rfl), (Nat.le_of_ble_eq_true rfl)⟩) (pre3V g hK mq0_ kq0_ (by decide) (q := (RX7, TX7, 19)) rfl) rfl rfl hl.1 rfl (lv_room (Nat.le_of_ble_eq_true rfl)) dX10_askKept_64 ⟨(Nat.le_of_ble_eq_true rfl), (Nat.le_of_ble_eq_true rfl)⟩) g hK (by decide) (by decide) (fx' := [(1, 4, q1_, .ref a_6), (1, 3, q1_, .ref a_6), (1, 2, q1_, .ref a_6), (1, 1, q1_, .ref a_8), (1, 0, q1_, .ref q0_), (7, 0, q0_, .ref a_7), (4, 9, a1_, .ref a_5), (4, 7, a1_, .ref a_3), (10, 0, a0_, .ref q0_), (10, 1, a0_, .ref q1_), (4, 0, a1_, .int y0_), (4, 2, a1_, .int y1_), (4, 1, a1_, .int y2_), (4, 4, a1_, .int y3_), (4, 3, a1_, .int y4_), (7, 1, q0_, .int y5_), (4, 6, a1_, .int y6_), (4, 14, a1_, .int y7_)]) rfl (fun r_16 fr_16 H locs hp hMr_16 g => ?_)
          rcases hp with ⟨h_17, -⟩ | ⟨h_18, h_19, x_20, h_21, hF_22⟩
          · have hG_23 := cOK.frame hMr_16 go_.2.2.2.1 mq0_ kq0_ (by decide) (by decide) hG52_c_q0_
            obtain rfl : r_16 = 0 := h_17
            refine lv_if_eq (tgt := 168) hx hb dX10_askKept_67 (by decide) (fun c_ => ?_) (fun c_ => absurd (by decide) c_)
            subst hQ
            exact W.vret hx hb hr (fun t ht hW => ⟨⟨_, rfl, ⟨y0_, (bd_sub b_2 (by decide)), y1_, by1_, y2_, by2_, (g.fcts [10, 11, 12] rfl)⟩, q3_of g hK ht hW⟩, g.2.2.1.F ht⟩) g.2.2.1.2.2 dX10_askKept_168
          · have hG_24 := cOK.frame hMr_16 go_.2.2.2.1 mq0_ kq0_ (by decide) (by decide) hG52_c_q0_
            obtain rfl : r_16 = 1 := h_18
            have b_25 : bd 0 7 v52_3 := eqX rfl (bdT v52_3) h_19 (by decide)
            have g := g.more hF_22
            have e_26 := fx_same g 16 0 rfl rfl
            have g := g.sub (fx' := [(1, 4, q1_, .ref a_6), (1, 3, q1_, .ref a_6), (1, 2, q1_, .ref a_6), (1, 1, q1_, .ref a_8), (1, 0, q1_, .ref q0_), (7, 0, q0_, .ref a_7), (4, 9, a1_, .ref a_5), (4, 7, a1_, .ref a_3), (10, 0, a0_, .ref q0_), (10, 1, a0_, .ref q1_), (4, 0, a1_, .int y0_), (4, 2, a1_, .int y1_), (4, 1, a1_, .int y2_), (4, 4, a1_, .int y3_), (4, 3, a1_, .int y4_), (7, 1, q0_, .int y5_), (4, 6, a1_, .int y6_), (4, 14, a1_, .int y7_)]) [1, 2, 3, 4, 5, 6, 7, 8, 9, 10, 11, 12, 13, 14, 15, 16, 17, 18] rfl
            refine lv_if_eq (tgt := 168) hx hb dX10_askKept_67 (by decide) (fun c_ => absurd c_ (by decide)) (fun c_ => ?_)
            refine lv_aload_n hx hb dX10_askKept_70 rfl (lv_at hl 3 rfl) ?_
            refine g_getk (C := RX10) (T := TX10) (N := 10) hx hb hts (mc_ inX10) hown hK g rfl 0 (by decide) rfl (hts _ (List.mem_cons_of_mem _ t_912)) (fun _ h9 => h9) 8 rfl dX10_askKept_71 ?_
            refine g_getk (C := RX7) (T := TX7) (N := 19) hx hb hts (mc_ inX7) hown hK g rfl 0 (by decide) rfl (hts _ (List.mem_cons_of_mem _ t_624)) (fun _ h9 => h9) 5 rfl dX10_askKept_74 ?_
            refine lv_iload_n hx hb dX10_askKept_77 rfl (lv_at hl 2 rfl) ?_
            refine g_aald hx hb hK g ma_7 ka_7 (by decide) rfl (by decide) (in_bd b_25 (by decide)) dX10_askKept_78 (fun a_27 ma_27 ua_27 wa_27 => ?_)
            have ka_27 : kd a_27 = 9 := by omega
            refine lv_astore (lv' := [(6, .ref a_27), (5, .int v52_5), (4, .ref a_6), (3, .int v52_3), (0, .ref a0_), (1, .ref a1_), (2, .int x2_)]) hx hb dX10_askKept_79 hl (by decide) rfl (fun ls hl => ?_)
            refine lv_aload hx hb dX10_askKept_81 (lv_at hl 0 rfl) ?_
            refine g_geti (C := RX9) (T := TX9) (N := 13) hx hb hts (mc_ inX9) hown hK g ma_27 ka_27 (by decide) rfl 10 (by decide) rfl (hts _ (List.mem_cons_of_mem _ t_513)) (fun _ h9 => h9) rfl dX10_askKept_83 (fun x_28 bx_28 g => ?_)
            refine lv_istore (lv' := [(7, .int x_28), (6, .ref a_27), (5, .int v52_5), (4, .ref a_6), (3, .int v52_3), (0, .ref a0_), (1, .ref a1_), (2, .int x2_)]) hx hb dX10_askKept_86 hl (by decide) rfl (fun ls hl => ?_)
            have loop_29 : ∀ (n : Nat) (v88_7 : Int32), bd 0 500 v88_7 → (500 - v88_7.toInt < (n : Int)) → ∀ (f : Nat → va_E) (H : Heap) (locs : List Loc) (ls : Array Slot), G3 (dC, dI) L kd tys s f0 [(1, 0), (1, 1), (1, 2), (1, 3), (1, 4), (1, 5), (1, 6), (1, 8), (1, 11), (1, 12), (1, 13), (1, 14), (1, 15), (1, 16), (1, 17), (4, 0), (4, 1), (4, 2), (4, 5)] [100, 116, 117, 146] f H locs [(9, 10, a_27, .int x_28), (1, 4, q1_, .ref a_6), (1, 3, q1_, .ref a_6), (1, 2, q1_, .ref a_6), (1, 1, q1_, .ref a_8), (1, 0, q1_, .ref q0_), (7, 0, q0_, .ref a_7), (4, 9, a1_, .ref a_5), (4, 7, a1_, .ref a_3), (10, 0, a0_, .ref q0_), (10, 1, a0_, .ref q1_), (4, 0, a1_, .int y0_), (4, 2, a1_, .int y1_), (4, 1, a1_, .int y2_), (4, 4, a1_, .int y3_), (4, 3, a1_, .int y4_), (7, 1, q0_, .int y5_), (4, 6, a1_, .int y6_), (4, 14, a1_, .int y7_)] → cOK f q0_ → lv_has ls 8 [(7, .int v88_7), (6, .ref a_27), (5, .int v52_5), (4, .ref a_6), (3, .int v52_3), (0, .ref a0_), (1, .ref a1_), (2, .int x2_)] → W p l e ({ frames := 3, cells := 0, slots := 0, locals := 73 } : Room) s m [.ref a0_, .ref a1_, .int x2_].toArray below meth c H locs 0 0 Q (F0 m 88 ls []) := by
              intro n88
              induction n88 with
              | zero =>
                intro v88_7 bv88_7 hm88 f H locs ls g hG88_c_q0_ hl
                exact absurd hm88 (by have h9_v88_7 := bv88_7; unfold bd at h9_v88_7; omega)
              | succ n88 ih88 =>
                intro v88_7 bv88_7 hm88 f H locs ls g hG88_c_q0_ hl
                refine lv_iload hx hb dX10_askKept_88 (lv_at hl 0 rfl) ?_
                refine lv_aload hx hb dX10_askKept_90 (lv_at hl 1 rfl) ?_
                refine g_getk (C := RX9) (T := TX9) (N := 13) hx hb hts (mc_ inX9) hown hK g rfl 10 (by decide) rfl (hts _ (List.mem_cons_of_mem _ t_513)) (fun _ h9 => h9) 0 rfl dX10_askKept_92 ?_
                refine lv_aload hx hb dX10_askKept_95 (lv_at hl 1 rfl) ?_
                refine g_geti (C := RX9) (T := TX9) (N := 13) hx hb hts (mc_ inX9) hown hK g ma_27 ka_27 (by decide) rfl 11 (by decide) rfl (hts _ (List.mem_cons_of_mem _ t_517)) (fun _ h9 => h9) rfl dX10_askKept_97 (fun x_30 bx_30 g => ?_)
                refine lv_iadd hx hb dX10_askKept_100 ?_
                refine lv_topi (fun y_31 ey_31 => ?_)
                refine lv_icmp_ge (tgt := 156) hx hb dX10_askKept_101 (by decide) (fun c_32 => ?_) (fun c_32 => ?_)
                · have fc_32 := le_f c_32
                  have b_33 : bd (-2147483648) 500 y_31 := leL fc_32 (bdT y_31) bv88_7 (by decide)
                  refine lv_aload hx hb dX10_askKept_156 (lv_at hl 1 rfl) ?_
                  refine g_geti (C := RX9) (T := TX9) (N := 13) hx hb hts (mc_ inX9) hown hK g ma_27 ka_27 (by decide) rfl 1 (by decide) rfl (hts _ (List.mem_cons_of_mem _ t_483)) (fun _ h9 => h9) rfl dX10_askKept_158 (fun x_34 bx_34 g => ?_)
                  refine lv_istore_n (lv' := [(3, .int x_34), (7, .int v88_7), (6, .ref a_27), (5, .int v52_5), (4, .ref a_6), (0, .ref a0_), (1, .ref a1_), (2, .int x2_)]) hx hb dX10_askKept_161 rfl hl (by decide) rfl (fun ls hl => ?_)
                  have kb_1 : bd 1 1 (1 : Int32) := ⟨by decide, by decide⟩
                  obtain ⟨y_35, ey_35⟩ : ∃ z : Int32, z = v52_5 + 1 := ⟨_, rfl⟩
                  refine lv_iinc (v := y_35) (lv' := [(5, .int y_35), (3, .int x_34), (7, .int v88_7), (6, .ref a_27), (4, .ref a_6), (0, .ref a0_), (1, .ref a1_), (2, .int x2_)]) hx hb dX10_askKept_162 hl (k := 3) rfl (by rw [ey_35]; rfl) (by decide) rfl (fun ls hl => ?_)
                  have ty_35 := add_bd ey_35 b_15 kb_1 (by decide)
                  have b_36 : bd 1 8 y_35 := add_rg ty_35 b_15 kb_1 (by decide)
                  refine lv_goto (tgt := 52) hx hb dX10_askKept_165 (by decide) ?_
                  have hl9 := lv_sub hl [0, 4, 1, 5, 6, 7] (by rfl : lv_pick [(5, .int y_35), (3, .int x_34), (7, .int v88_7), (6, .ref a_27), (4, .ref a_6), (0, .ref a0_), (1, .ref a1_), (2, .int x2_)] [0, 4, 1, 5, 6, 7] = [(5, .int y_35), (4, .ref a_6), (3, .int x_34), (0, .ref a0_), (1, .ref a1_), (2, .int x2_)])
                  have g9 := g.sub (fx' := [(1, 4, q1_, .ref a_6), (1, 3, q1_, .ref a_6), (1, 2, q1_, .ref a_6), (1, 1, q1_, .ref a_8), (1, 0, q1_, .ref q0_), (7, 0, q0_, .ref a_7), (4, 9, a1_, .ref a_5), (4, 7, a1_, .ref a_3), (10, 0, a0_, .ref q0_), (10, 1, a0_, .ref q1_), (4, 0, a1_, .int y0_), (4, 2, a1_, .int y1_), (4, 1, a1_, .int y2_), (4, 4, a1_, .int y3_), (4, 3, a1_, .int y4_), (7, 1, q0_, .int y5_), (4, 6, a1_, .int y6_), (4, 14, a1_, .int y7_)]) [3, 4, 5, 6, 7, 8, 9, 10, 11, 12, 13, 14, 15, 16, 17, 18, 19, 20] rfl
                  exact ih52  y_35 x_34 (bd_sub b_36 (by decide)) (by have h9_0 := b_36; unfold bd at h9_0; have h9_1 := bdT v52_3; unfold bd at h9_1; have h9_2 := bdT x_34; unfold bd at h9_2; have h9_3 := bv52_5; unfold bd at h9_3; have h9_4 := kb_0; unfold bd at h9_4; have h9_5 := kb_1; unfold bd at h9_5; have h9_6 := kb_8; unfold bd at h9_6; omega) _ _ _ _ g9 hG88_c_q0_ hl9
                · have fc_32 := nle_f c_32
                  have b_37 : bd 1 2147483647 y_31 := ltR fc_32 bv88_7 (bdT y_31) (by decide)
                  refine lv_iload hx hb dX10_askKept_104 (lv_at hl 0 rfl) ?_
                  refine lv_aload_n hx hb dX10_askKept_106 rfl (lv_at hl 5 rfl) ?_
                  refine g_getk (C := RX10) (T := TX10) (N := 10) hx hb hts (mc_ inX10) hown hK g rfl 0 (by decide) rfl (hts _ (List.mem_cons_of_mem _ t_912)) (fun _ h9 => h9) 10 rfl dX10_askKept_107 ?_
                  refine g_geti (C := RX7) (T := TX7) (N := 19) hx hb hts (mc_ inX7) hown hK g mq0_ kq0_ (by decide) rfl 13 (by decide) rfl (hts _ (List.mem_cons_of_mem _ t_670)) (fun _ h9 => h9) rfl dX10_askKept_110 (fun x_38 bx_38 g => ?_)
                  refine lv_icmp_ge (tgt := 156) hx hb dX10_askKept_113 (by decide) (fun c_39 => ?_) (fun c_39 => ?_)
                  · have fc_39 := le_f c_39
                    refine lv_aload hx hb dX10_askKept_156 (lv_at hl 1 rfl) ?_
                    refine g_geti (C := RX9) (T := TX9) (N := 13) hx hb hts (mc_ inX9) hown hK g ma_27 ka_27 (by decide) rfl 1 (by decide) rfl (hts _ (List.mem_cons_of_mem _ t_483)) (fun _ h9 => h9) rfl dX10_askKept_158 (fun x_40 bx_40 g => ?_)
                    refine lv_istore_n (lv' := [(3, .int x_40), (7, .int v88_7), (6, .ref a_27), (5, .int v52_5), (4, .ref a_6), (0, .ref a0_), (1, .ref a1_), (2, .int x2_)]) hx hb dX10_askKept_161 rfl hl (by decide) rfl (fun ls hl => ?_)
                    have kb_1 : bd 1 1 (1 : Int32) := ⟨by decide, by decide⟩
                    obtain ⟨y_41, ey_41⟩ : ∃ z : Int32, z = v52_5 + 1 := ⟨_, rfl⟩
                    refine lv_iinc (v := y_41) (lv' := [(5, .int y_41), (3, .int x_40), (7, .int v88_7), (6, .ref a_27), (4, .ref a_6), (0, .ref a0_), (1, .ref a1_), (2, .int x2_)]) hx hb dX10_askKept_162 hl (k := 3) rfl (by rw [ey_41]; rfl) (by decide) rfl (fun ls hl => ?_)
                    have ty_41 := add_bd ey_41 b_15 kb_1 (by decide)
                    have b_42 : bd 1 8 y_41 := add_rg ty_41 b_15 kb_1 (by decide)
                    refine lv_goto (tgt := 52) hx hb dX10_askKept_165 (by decide) ?_
                    have hl9 := lv_sub hl [0, 4, 1, 5, 6, 7] (by rfl : lv_pick [(5, .int y_41), (3, .int x_40), (7, .int v88_7), (6, .ref a_27), (4, .ref a_6), (0, .ref a0_), (1, .ref a1_), (2, .int x2_)] [0, 4, 1, 5, 6, 7] = [(5, .int y_41), (4, .ref a_6), (3, .int x_40), (0, .ref a0_), (1, .ref a1_), (2, .int x2_)])
                    have g9 := g.sub (fx' := [(1, 4, q1_, .ref a_6), (1, 3, q1_, .ref a_6), (1, 2, q1_, .ref a_6), (1, 1, q1_, .ref a_8), (1, 0, q1_, .ref q0_), (7, 0, q0_, .ref a_7), (4, 9, a1_, .ref a_5), (4, 7, a1_, .ref a_3), (10, 0, a0_, .ref q0_), (10, 1, a0_, .ref q1_), (4, 0, a1_, .int y0_), (4, 2, a1_, .int y1_), (4, 1, a1_, .int y2_), (4, 4, a1_, .int y3_), (4, 3, a1_, .int y4_), (7, 1, q0_, .int y5_), (4, 6, a1_, .int y6_), (4, 14, a1_, .int y7_)]) [4, 5, 6, 7, 8, 9, 10, 11, 12, 13, 14, 15, 16, 17, 18, 19, 20, 21] rfl
                    exact ih52  y_41 x_40 (bd_sub b_42 (by decide)) (by have h9_0 := b_42; unfold bd at h9_0; have h9_1 := bdT v52_3; unfold bd at h9_1; have h9_2 := bdT x_40; unfold bd at h9_2; have h9_3 := bv52_5; unfold bd at h9_3; have h9_4 := kb_0; unfold bd at h9_4; have h9_5 := kb_1; unfold bd at h9_5; have h9_6 := kb_8; unfold bd at h9_6; omega) _ _ _ _ g9 hG88_c_q0_ hl9
                  · have fc_39 := nle_f c_39
                    have b_43 : bd 0 499 v88_7 := ltL fc_39 bv88_7 bx_38 (by decide)
                    have b_44 : bd 1 500 x_38 := ltR fc_39 bv88_7 bx_38 (by decide)
                    refine lv_aload_n hx hb dX10_askKept_116 rfl (lv_at hl 5 rfl) ?_
                    refine lv_aload_n hx hb dX10_askKept_117 rfl (lv_at hl 6 rfl) ?_
                    refine lv_iload hx hb dX10_askKept_118 (lv_at hl 0 rfl) ?_
                    refine lv_iload_n hx hb dX10_askKept_120 rfl (lv_at hl 7 rfl) ?_
                    have go_ := g
                    refine g_calli (va_runV (As := [.ref a1_, .int v88_7, .int x2_]) (rest := []) ⟨hx, hb, hml, hown, hts⟩ (r_X10_holds_19 l dC dI L kd tys f H.size g.2.2.2.1 a0_ ma0_ ka0_ a1_ ma1_ ka1_ v88_7 b_43 x2_ bx2_ q1_ mq1_ kq1_ q0_ mq0_ kq0_ a_8 ma_8 ka_8 x_38 b_44 y0_ b_2 y1_ by1_ y2_ by2_ y3_ by3_ y4_ by4_ y5_ by5_ y6_ by6_ y7_ by7_ hG88_c_q0_ (g.fcts [12, 7, 6, 0, 13, 14, 15, 16, 17, 18, 19, 20] rfl)) (cwV 3 hts (gV_ t_1547 t_1549 t_57 t_194 t_1550) rfl rfl rfl (by decide +kernel) ⟨(Nat.le_of_ble_eq_true rfl), (Nat.le_of_ble_eq_true rfl)⟩) (pre3V g hK ma0_ ka0_ (by decide) (q := (RX10, TX10, 10)) rfl) rfl rfl hl.1 rfl (lv_room (Nat.le_of_ble_eq_true rfl)) dX10_askKept_121 ⟨(Nat.le_of_ble_eq_true rfl), (Nat.le_of_ble_eq_true rfl)⟩) g hK (by decide) (by decide) (fx' := [(7, 13, q0_, .int x_38), (9, 11, a_27, .int x_30), (9, 10, a_27, .int x_28), (1, 4, q1_, .ref a_6), (1, 3, q1_, .ref a_6), (1, 2, q1_, .ref a_6), (1, 1, q1_, .ref a_8), (1, 0, q1_, .ref q0_), (7, 0, q0_, .ref a_7), (4, 9, a1_, .ref a_5), (4, 7, a1_, .ref a_3), (10, 0, a0_, .ref q0_), (10, 1, a0_, .ref q1_), (4, 4, a1_, .int y3_), (4, 3, a1_, .int y4_), (7, 1, q0_, .int y5_), (4, 6, a1_, .int y6_), (4, 14, a1_, .int y7_)]) rfl (fun r_45 fr_45 H locs hp hMr_45 g => ?_)
                    rcases hp with ⟨h_46, x_47, h_48, x_49, h_50, x_51, h_52, hF_53⟩ | ⟨h_54, x_55, h_56, hF_57⟩
                    · have hG_58 := cOK.frame hMr_45 go_.2.2.2.1 mq0_ kq0_ (by decide) (by decide) hG88_c_q0_
                      obtain rfl : r_45 = 0 := h_46
                      have g := g.more hF_53
                      refine lv_if_ne (tgt := 150) hx hb dX10_askKept_124 (by decide) (fun c_ => absurd c_ (by decide)) (fun c_ => ?_)
                      refine lv_aload_n hx hb dX10_askKept_127 rfl (lv_at hl 6 rfl) ?_
                      refine lv_aload_n hx hb dX10_askKept_128 rfl (lv_at hl 6 rfl) ?_
                      refine g_getk (C := RX4) (T := TX4) (N := 17) hx hb hts (mc_ inX4) hown hK g rfl 0 (by decide) rfl (hts _ (List.mem_cons_of_mem _ t_837)) (fun _ h9 => h9) 2 rfl dX10_askKept_129 ?_
                      refine lv_if_ne (tgt := 139) hx hb dX10_askKept_132 (by decide) (fun c_59 => ?_) (fun c_59 => ?_)
                      · have fc_59 := neq_f c_59
                        have b_60 : bd 1 7 x_51 := neX fc_59 h_52 kb_0 (by decide)
                        refine lv_aload_n hx hb dX10_askKept_139 rfl (lv_at hl 6 rfl) ?_
                        refine g_getk (C := RX4) (T := TX4) (N := 17) hx hb hts (mc_ inX4) hown hK g rfl 0 (by decide) rfl (hts _ (List.mem_cons_of_mem _ t_837)) (fun _ h9 => h9) 2 rfl dX10_askKept_140 ?_
                        refine lv_iload hx hb dX10_askKept_143 (lv_at hl 0 rfl) ?_
                        refine lv_iload_n hx hb dX10_askKept_145 rfl (lv_at hl 7 rfl) ?_
                        have go_ := g
                        refine g_callv (va_runV (As := [.int x_51, .int v88_7, .int x2_]) (rest := []) ⟨hx, hb, hml, hown, hts⟩ (r_X4_breakBy l dC dI L kd tys fr_45 H.size g.2.2.2.1 a1_ ma1_ ka1_ x_51 v88_7 x2_) (cwV 3 hts (gV_ t_1606 t_1607 t_1608 t_197 t_1609) rfl rfl rfl (by decide +kernel) ⟨(Nat.le_of_ble_eq_true rfl), (Nat.le_of_ble_eq_true rfl)⟩) (pre3V g hK ma1_ ka1_ (by decide) (q := (RX4, TX4, 17)) rfl) rfl rfl hl.1 rfl (lv_room (Nat.le_of_ble_eq_true rfl)) dX10_askKept_146 ⟨(Nat.le_of_ble_eq_true rfl), (Nat.le_of_ble_eq_true rfl)⟩) g hK (by decide) (by decide) (fx' := [(1, 12, q1_, .int 0), (1, 5, q1_, .int 1), (7, 13, q0_, .int x_38), (9, 11, a_27, .int x_30), (9, 10, a_27, .int x_28), (1, 4, q1_, .ref a_6), (1, 3, q1_, .ref a_6), (1, 2, q1_, .ref a_6), (1, 1, q1_, .ref a_8), (1, 0, q1_, .ref q0_), (7, 0, q0_, .ref a_7), (4, 9, a1_, .ref a_5), (4, 7, a1_, .ref a_3), (10, 0, a0_, .ref q0_), (10, 1, a0_, .ref q1_), (4, 4, a1_, .int y3_), (4, 3, a1_, .int y4_), (7, 1, q0_, .int y5_), (4, 6, a1_, .int y6_), (4, 14, a1_, .int y7_)]) rfl (fun fr_61 H locs hp hMr_61 g => ?_)
                        have hF_62 := hp
                        have hG_63 := cOK.frame hMr_61 go_.2.2.2.1 mq0_ kq0_ (by decide) (by decide) hG_58
                        have g := g.more hF_62
                        subst hQ
                        exact W.vret hx hb hr (fun t ht hW => ⟨⟨_, rfl, ⟨x_51, (bd_sub b_60 (by decide)), x2_, (bd_sub bx2_ (by decide)), v88_7, (bd_sub b_43 (by decide)), (g.fcts [2, 0, 1] rfl)⟩, q3_of g hK ht hW⟩, g.2.2.1.F ht⟩) g.2.2.1.2.2 dX10_askKept_149
                      · have fc_59 := eq_f c_59
                        have b_64 : bd 0 0 x_51 := eqX fc_59 h_52 kb_0 (by decide)
                        refine lv_iconst (v := 2) hx hb dX10_askKept_135 (by decide) ?_
                        refine lv_goto (tgt := 143) hx hb dX10_askKept_136 (by decide) ?_
                        refine lv_iload hx hb dX10_askKept_143 (lv_at hl 0 rfl) ?_
                        refine lv_iload_n hx hb dX10_askKept_145 rfl (lv_at hl 7 rfl) ?_
                        have go_ := g
                        refine g_callv (va_runV (As := [.int 2, .int v88_7, .int x2_]) (rest := []) ⟨hx, hb, hml, hown, hts⟩ (r_X4_breakBy l dC dI L kd tys fr_45 H.size g.2.2.2.1 a1_ ma1_ ka1_ 2 v88_7 x2_) (cwV 3 hts (gV_ t_1606 t_1607 t_1608 t_197 t_1609) rfl rfl rfl (by decide +kernel) ⟨(Nat.le_of_ble_eq_true rfl), (Nat.le_of_ble_eq_true rfl)⟩) (pre3V g hK ma1_ ka1_ (by decide) (q := (RX4, TX4, 17)) rfl) rfl rfl hl.1 rfl (lv_room (Nat.le_of_ble_eq_true rfl)) dX10_askKept_146 ⟨(Nat.le_of_ble_eq_true rfl), (Nat.le_of_ble_eq_true rfl)⟩) g hK (by decide) (by decide) (fx' := [(1, 12, q1_, .int 0), (1, 5, q1_, .int 1), (7, 13, q0_, .int x_38), (9, 11, a_27, .int x_30), (9, 10, a_27, .int x_28), (1, 4, q1_, .ref a_6), (1, 3, q1_, .ref a_6), (1, 2, q1_, .ref a_6), (1, 1, q1_, .ref a_8), (1, 0, q1_, .ref q0_), (7, 0, q0_, .ref a_7), (4, 9, a1_, .ref a_5), (4, 7, a1_, .ref a_3), (10, 0, a0_, .ref q0_), (10, 1, a0_, .ref q1_), (4, 4, a1_, .int y3_), (4, 3, a1_, .int y4_), (7, 1, q0_, .int y5_), (4, 6, a1_, .int y6_), (4, 14, a1_, .int y7_)]) rfl (fun fr_65 H locs hp hMr_65 g => ?_)
                        have hF_66 := hp
                        have hG_67 := cOK.frame hMr_65 go_.2.2.2.1 mq0_ kq0_ (by decide) (by decide) hG_58
                        have g := g.more hF_66
                        have kb_2 : bd 2 2 (2 : Int32) := ⟨by decide, by decide⟩
                        subst hQ
                        exact W.vret hx hb hr (fun t ht hW => ⟨⟨_, rfl, ⟨2, (bd_sub kb_2 (by decide)), x2_, (bd_sub bx2_ (by decide)), v88_7, (bd_sub b_43 (by decide)), (g.fcts [2, 0, 1] rfl)⟩, q3_of g hK ht hW⟩, g.2.2.1.F ht⟩) g.2.2.1.2.2 dX10_askKept_149
                    · have hG_68 := cOK.frame hMr_45 go_.2.2.2.1 mq0_ kq0_ (by decide) (by decide) hG88_c_q0_
                      obtain rfl : r_45 = 1 := h_54
                      have g := g.more hF_57
                      refine lv_if_ne (tgt := 150) hx hb dX10_askKept_124 (by decide) (fun c_ => ?_) (fun c_ => absurd c_ (by decide))
                      have kb_1 : bd 1 1 (1 : Int32) := ⟨by decide, by decide⟩
                      obtain ⟨y_69, ey_69⟩ : ∃ z : Int32, z = v88_7 + 1 := ⟨_, rfl⟩
                      refine lv_iinc (v := y_69) (lv' := [(7, .int y_69), (6, .ref a_27), (5, .int v52_5), (4, .ref a_6), (3, .int v52_3), (0, .ref a0_), (1, .ref a1_), (2, .int x2_)]) hx hb dX10_askKept_150 hl (k := 0) rfl (by rw [ey_69]; rfl) (by decide) rfl (fun ls hl => ?_)
                      have ty_69 := add_bd ey_69 b_43 kb_1 (by decide)
                      have b_70 : bd 1 500 y_69 := add_rg ty_69 b_43 kb_1 (by decide)
                      refine lv_goto (tgt := 88) hx hb dX10_askKept_153 (by decide) ?_
                      have hl9 := lv_sub hl [0, 1, 2, 3, 4, 5, 6, 7] (by rfl : lv_pick [(7, .int y_69), (6, .ref a_27), (5, .int v52_5), (4, .ref a_6), (3, .int v52_3), (0, .ref a0_), (1, .ref a1_), (2, .int x2_)] [0, 1, 2, 3, 4, 5, 6, 7] = [(7, .int y_69), (6, .ref a_27), (5, .int v52_5), (4, .ref a_6), (3, .int v52_3), (0, .ref a0_), (1, .ref a1_), (2, .int x2_)])
                      have g9 := g.sub (fx' := [(9, 10, a_27, .int x_28), (1, 4, q1_, .ref a_6), (1, 3, q1_, .ref a_6), (1, 2, q1_, .ref a_6), (1, 1, q1_, .ref a_8), (1, 0, q1_, .ref q0_), (7, 0, q0_, .ref a_7), (4, 9, a1_, .ref a_5), (4, 7, a1_, .ref a_3), (10, 0, a0_, .ref q0_), (10, 1, a0_, .ref q1_), (4, 0, a1_, .int y0_), (4, 2, a1_, .int y1_), (4, 1, a1_, .int y2_), (4, 4, a1_, .int y3_), (4, 3, a1_, .int y4_), (7, 1, q0_, .int y5_), (4, 6, a1_, .int y6_), (4, 14, a1_, .int y7_)]) [8, 9, 10, 11, 12, 13, 14, 15, 16, 17, 18, 3, 4, 5, 19, 20, 21, 22, 23] rfl
                      exact ih88  y_69 (bd_sub b_70 (by decide)) (by have h9_0 := b_70; unfold bd at h9_0; have h9_1 := bv88_7; unfold bd at h9_1; have h9_2 := kb_0; unfold bd at h9_2; have h9_3 := kb_1; unfold bd at h9_3; have h9_4 := kb_8; unfold bd at h9_4; omega) _ _ _ _ g9 hG_68 hl9
            have hl9 := lv_sub hl [0, 1, 2, 3, 4, 5, 6, 7] (by rfl : lv_pick [(7, .int x_28), (6, .ref a_27), (5, .int v52_5), (4, .ref a_6), (3, .int v52_3), (0, .ref a0_), (1, .ref a1_), (2, .int x2_)] [0, 1, 2, 3, 4, 5, 6, 7] = [(7, .int x_28), (6, .ref a_27), (5, .int v52_5), (4, .ref a_6), (3, .int v52_3), (0, .ref a0_), (1, .ref a1_), (2, .int x2_)])
            have g9 := g.sub (fx' := [(9, 10, a_27, .int x_28), (1, 4, q1_, .ref a_6), (1, 3, q1_, .ref a_6), (1, 2, q1_, .ref a_6), (1, 1, q1_, .ref a_8), (1, 0, q1_, .ref q0_), (7, 0, q0_, .ref a_7), (4, 9, a1_, .ref a_5), (4, 7, a1_, .ref a_3), (10, 0, a0_, .ref q0_), (10, 1, a0_, .ref q1_), (4, 0, a1_, .int y0_), (4, 2, a1_, .int y1_), (4, 1, a1_, .int y2_), (4, 4, a1_, .int y3_), (4, 3, a1_, .int y4_), (7, 1, q0_, .int y5_), (4, 6, a1_, .int y6_), (4, 14, a1_, .int y7_)]) [0, 1, 2, 3, 4, 5, 6, 7, 8, 9, 10, 11, 12, 13, 14, 15, 16, 17, 18] rfl
            exact loop_29 (1003) x_28 bx_28 (by have h9_0 := bx_28; unfold bd at h9_0; have h9_1 := kb_0; unfold bd at h9_1; have h9_2 := kb_8; unfold bd at h9_2; omega) _ _ _ _ g9 hG_24 hl9
    have hl9 := lv_sub hl [0, 1, 2, 3, 4, 5] (by rfl : lv_pick [(5, .int 0), (4, .ref a_6), (3, .int x_4), (0, .ref a0_), (1, .ref a1_), (2, .int x2_)] [0, 1, 2, 3, 4, 5] = [(5, .int 0), (4, .ref a_6), (3, .int x_4), (0, .ref a0_), (1, .ref a1_), (2, .int x2_)])
    have g9 := g.sub (fx' := [(1, 4, q1_, .ref a_6), (1, 3, q1_, .ref a_6), (1, 2, q1_, .ref a_6), (1, 1, q1_, .ref a_8), (1, 0, q1_, .ref q0_), (7, 0, q0_, .ref a_7), (4, 9, a1_, .ref a_5), (4, 7, a1_, .ref a_3), (10, 0, a0_, .ref q0_), (10, 1, a0_, .ref q1_), (4, 0, a1_, .int y0_), (4, 2, a1_, .int y1_), (4, 1, a1_, .int y2_), (4, 4, a1_, .int y3_), (4, 3, a1_, .int y4_), (7, 1, q0_, .int y5_), (4, 6, a1_, .int y6_), (4, 14, a1_, .int y7_)]) [0, 1, 2, 3, 4, 5, 6, 7, 8, 9, 10, 11, 12, 13, 14, 15, 16, 17] rfl
    exact loop_12 (19) 0 x_4 (bd_sub kb_0 (by decide)) (by have h9_0 := bx_4; unfold bd at h9_0; have h9_1 := kb_0; unfold bd at h9_1; omega) _ _ _ _ g9 hG_11 hl9
  · have fc_1 := neq_f c_1
    have b_71 : bd 1 8 y0_ := neX fc_1 by0_ kb_0 (by decide)
    subst hQ
    exact W.vret hx hb hr (fun t ht hW => ⟨⟨_, rfl, ⟨y0_, (bd_sub b_71 (by decide)), y1_, by1_, y2_, by2_, (g.fcts [2, 3, 4] rfl)⟩, q3_of g hK ht hW⟩, g.2.2.1.F ht⟩) g.2.2.1.2.2 dX10_askKept_7
