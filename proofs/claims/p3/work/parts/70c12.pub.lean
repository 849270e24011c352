set_option maxHeartbeats 4000000 in
set_option maxRecDepth 100000 in
theorem r_X10_askKept_7 (l : Launch) (dC : Nat → ClassId) (dI : Nat → Nat → Nat) (L : List Nat) (kd : Nat → Nat) (tys : List (ClassId × FieldType)) (f0 : Nat → va_E) (sz : Nat) (hWT : WT L kd tys f0) (a0_ : Nat) (ma0_ : a0_ ∈ L) (ka0_ : kd a0_ = 10) (a1_ : Nat) (ma1_ : a1_ ∈ L) (ka1_ : kd a1_ = 4) (x2_ : Int32) (bx2_ : bd 0 2 x2_) (q0_ : Nat) (mq0_ : q0_ ∈ L) (kq0_ : kd q0_ = 7) (q1_ : Nat) (mq1_ : q1_ ∈ L) (kq1_ : kd q1_ = 1) (y0_ : Int32) (by0_ : bd 1 3 y0_) (y1_ : Int32) (by1_ : bd 1 8 y1_) (y2_ : Int32) (by2_ : bd 0 9 y2_) (y3_ : Int32) (by3_ : bd (-1) 2147483647 y3_) (y4_ : Int32) (by4_ : bd (-1) 2147483647 y4_) (y5_ : Int32) (by5_ : bd (-1) 2147483647 y5_) (y6_ : Int32) (by6_ : bd (-1) 2147483647 y6_) (y7_ : Int32) (by7_ : bd 0 0 y7_) (hGcq0_ : cOK f0 q0_) (hfx : Fs L kd f0 [(10, 0, a0_, .ref q0_), (10, 1, a0_, .ref q1_), (4, 6, a1_, .int y0_), (7, 1, q0_, .int y1_), (4, 14, a1_, .int y2_), (4, 4, a1_, .int y3_), (4, 3, a1_, .int y4_), (4, 2, a1_, .int y5_), (4, 1, a1_, .int y6_), (4, 0, a1_, .int y7_)]) : Met l yX10_askKept (.code yX10_askKept cX10_askKept 8 none :: lw_g) ({ frames := 3, cells := 0, slots := 0, locals := 73 }) (va_Pc [.ref a0_, .ref a1_, .int x2_] (P3 (dC, dI) L tys f0 sz)) (va_Qv (fun (f : Nat → va_E) => (∃ z0_ : Nat, (z0_ ∈ L ∧ kd z0_ = 101) ∧ ∃ z1_ : Nat, (z1_ ∈ L ∧ kd z1_ = 101) ∧ ∃ z2_ : Nat, (z2_ ∈ L ∧ kd z2_ = 101) ∧ ∃ z3_ : Nat, (z3_ ∈ L ∧ kd z3_ = 9) ∧ ∃ z5_ : Int32, bd (-1) 2147483647 z5_ ∧ ∃ z6_ : Int32, bd (-1) 2147483647 z6_ ∧ ∃ z7_ : Int32, bd 0 7 z7_ ∧ Fs L kd f [(1, 4, q1_, .ref z0_), (1, 3, q1_, .ref z1_), (1, 2, q1_, .ref z2_), (1, 1, q1_, .ref z3_), (1, 0, q1_, .ref q0_), (4, 2, a1_, .int z5_), (4, 1, a1_, .int z6_), (4, 0, a1_, .int z7_)])) (Q3 (dC, dI) L kd tys [(1, 0), (1, 1), (1, 2), (1, 3), (1, 4), (1, 5), (1, 6), (1, 8), (1, 11), (1, 12), (1, 13), (1, 14), (1, 15), (1, 16), (1, 17), (4, 0), (4, 1), (4, 2), (4, 5)] [100, 116, 117, 146] f0 sz) (pA L sz)) 0 0 (pA L sz) := by
  refine Met.ofW (cc := cX10_askKept) (maxL := 8) (ret := none) (by decide) rfl ?_
  intro p e s m args below meth c s₁ B hml hv
  obtain ⟨rfl, hsz, hP, hK, hD0⟩ := hv
  have hx := B.exec
  have hb := B.bytes
  have hr := B.returns
  have hts := atoms_spec (ws := (.code yX10_askKept cX10_askKept 8 none :: lw_g)) B.pre
  have hown : s.vm.findClass RX10 = some m.cls := findClass_of_methodNamed B.named
  have hlocks := B.notSynchronized
  subst hsz
  have g : G3 (dC, dI) L kd tys s f0 [(1, 0), (1, 1), (1, 2), (1, 3), (1, 4), (1, 5), (1, 6), (1, 8), (1, 11), (1, 12), (1, 13), (1, 14), (1, 15), (1, 16), (1, 17), (4, 0), (4, 1), (4, 2), (4, 5)] [100, 116, 117, 146] f0 s.heap [] [(10, 0, a0_, .ref q0_), (10, 1, a0_, .ref q1_), (4, 6, a1_, .int y0_), (7, 1, q0_, .int y1_), (4, 14, a1_, .int y2_), (4, 4, a1_, .int y3_), (4, 3, a1_, .int y4_), (4, 2, a1_, .int y5_), (4, 1, a1_, .int y6_), (4, 0, a1_, .int y7_)] := G3.start hP hD0 hWT hfx
  have hl := lv_entry ([.ref a0_, .ref a1_, .int x2_]) (n := 8) (Nat.le_of_ble_eq_true rfl)
  rw [lg_entry_eq]
  generalize (lg_sl ([.ref a0_, .ref a1_, .int x2_]) ++ List.replicate (8 - (lg_sl ([.ref a0_, .ref a1_, .int x2_])).length) Slot.unset).toArray = ls at hl ⊢
  have hl : lv_has ls 8 [(0, .ref a0_), (1, .ref a1_), (2, .int x2_)] := hl
  refine W_q (fun Q hQ => ?_)
  refine lv_aload_n hx hb dX10_askKept_0 rfl (lv_at hl 1 rfl) ?_
  refine g_getk (C := RX4) (T := TX4) (N := 17) hx hb hts (mc_ inX4) hown hK g rfl 0 (by decide) rfl (hts _ (List.mem_cons_of_mem _ t_837)) (fun _ h9 => h9) 9 rfl dX10_askKept_1 ?_
  have kb_0 : bd 0 0 (0 : Int32) := ⟨by decide, by decide⟩
  refine lv_if_eq (tgt := 8) hx hb dX10_askKept_4 (by decide) (fun c_1 => ?_) (fun c_1 => ?_)
  · have fc_1 := eq_f c_1
    refine lv_aload_n hx hb dX10_askKept_8 rfl (lv_at hl 1 rfl) ?_
    refine g_getr (K := 126) (C := RX4) (T := TX4) (N := 17) hx hb hts (mc_ inX4) hown hK g ma1_ ka1_ (by decide) rfl 7 (by decide) rfl (hts _ (List.mem_cons_of_mem _ t_854)) (fun _ h9 => h9) rfl dX10_askKept_9 (fun a_2 ma_2 ka_2 g => ?_)
    refine lv_iload_n hx hb dX10_askKept_12 rfl (lv_at hl 2 rfl) ?_
    refine g_iald hx hb hK g ma_2 ka_2 (by decide) rfl (in_bd bx2_ (by decide)) dX10_askKept_13 (fun x_3 bx_3 cx_3 => ?_)
    refine lv_istore_n (lv' := [(3, .int x_3), (0, .ref a0_), (1, .ref a1_), (2, .int x2_)]) hx hb dX10_askKept_14 rfl hl (by decide) rfl (fun ls hl => ?_)
    refine lv_aload_n hx hb dX10_askKept_15 rfl (lv_at hl 2 rfl) ?_
    refine g_getr (K := 128) (C := RX4) (T := TX4) (N := 17) hx hb hts (mc_ inX4) hown hK g ma1_ ka1_ (by decide) rfl 9 (by decide) rfl (hts _ (List.mem_cons_of_mem _ t_860)) (fun _ h9 => h9) rfl dX10_askKept_16 (fun a_4 ma_4 ka_4 g => ?_)
    refine lv_iload_n hx hb dX10_askKept_19 rfl (lv_at hl 3 rfl) ?_
    refine g_aald hx hb hK g ma_4 ka_4 (by decide) rfl (by decide) (in_bd bx2_ (by decide)) dX10_askKept_20 (fun a_5 ma_5 ua_5 wa_5 => ?_)
    have ka_5 : kd a_5 = 101 := by omega
    refine lv_astore (lv' := [(4, .ref a_5), (3, .int x_3), (0, .ref a0_), (1, .ref a1_), (2, .int x2_)]) hx hb dX10_askKept_21 hl (by decide) rfl (fun ls hl => ?_)
    refine lv_aload_n hx hb dX10_askKept_23 rfl (lv_at hl 2 rfl) ?_
    refine g_getk (C := RX10) (T := TX10) (N := 10) hx hb hts (mc_ inX10) hown hK g rfl 1 (by decide) rfl (hts _ (List.mem_cons_of_mem _ t_913)) (fun _ h9 => h9) 3 rfl dX10_askKept_24 ?_
    refine lv_aload_n hx hb dX10_askKept_27 rfl (lv_at hl 2 rfl) ?_
    refine g_getk (C := RX10) (T := TX10) (N := 10) hx hb hts (mc_ inX10) hown hK g rfl 0 (by decide) rfl (hts _ (List.mem_cons_of_mem _ t_912)) (fun _ h9 => h9) 2 rfl dX10_askKept_28 ?_
    refine lv_aload_n hx hb dX10_askKept_31 rfl (lv_at hl 2 rfl) ?_
    refine g_getk (C := RX10) (T := TX10) (N := 10) hx hb hts (mc_ inX10) hown hK g rfl 0 (by decide) rfl (hts _ (List.mem_cons_of_mem _ t_912)) (fun _ h9 => h9) 2 rfl dX10_askKept_32 ?_
    refine g_getr (K := 136) (C := RX7) (T := TX7) (N := 19) hx hb hts (mc_ inX7) hown hK g mq0_ kq0_ (by decide) rfl 0 (by decide) rfl (hts _ (List.mem_cons_of_mem _ t_624)) (fun _ h9 => h9) rfl dX10_askKept_35 (fun a_6 ma_6 ka_6 g => ?_)
    refine lv_iload_n hx hb dX10_askKept_38 rfl (lv_at hl 1 rfl) ?_
    refine g_aald hx hb hK g ma_6 ka_6 (by decide) rfl (by decide) (in_bd bx_3 (by decide)) dX10_askKept_39 (fun a_7 ma_7 ua_7 wa_7 => ?_)
    have ka_7 : kd a_7 = 9 := by omega
    refine lv_aload hx hb dX10_askKept_40 (lv_at hl 0 rfl) ?_
    refine lv_aload hx hb dX10_askKept_42 (lv_at hl 0 rfl) ?_
    refine lv_aload hx hb dX10_askKept_44 (lv_at hl 0 rfl) ?_
    have go_ := g
    refine g_callv (va_runV (As := [.ref q0_, .ref a_7, .ref a_5, .ref a_5, .ref a_5]) (rest := []) ⟨hx, hb, hml, hown, hts⟩ (r_X1_standOn l dC dI L kd tys f0 s.heap.size g.2.2.2.1 q1_ mq1_ kq1_ q0_ mq0_ kq0_ a_7 ma_7 ka_7 a_5 ma_5 ka_5 a_5 ma_5 ka_5 a_5 ma_5 ka_5) (cwV 5 hts (gV_ t_1543 t_1544 t_1545 t_195 t_1546) rfl rfl rfl (by decide +kernel) ⟨(Nat.le_of_ble_eq_true rfl), (Nat.le_of_ble_eq_true rfl)⟩) (pre3V g hK mq1_ kq1_ (by decide) (q := (RX1, TX1, 18)) rfl) rfl rfl hl.1 rfl (lv_room (Nat.le_of_ble_eq_true rfl)) dX10_askKept_46 ⟨(Nat.le_of_ble_eq_true rfl), (Nat.le_of_ble_eq_true rfl)⟩) g hK (by decide) (by decide) (fx' := [(7, 0, q0_, .ref a_6), (4, 9, a1_, .ref a_4), (4, 7, a1_, .ref a_2), (10, 0, a0_, .ref q0_), (10, 1, a0_, .ref q1_), (4, 6, a1_, .int y0_), (7, 1, q0_, .int y1_), (4, 14, a1_, .int y2_), (4, 4, a1_, .int y3_), (4, 3, a1_, .int y4_), (4, 2, a1_, .int y5_), (4, 1, a1_, .int y6_), (4, 0, a1_, .int y7_)]) rfl (fun fr_8 H locs hp hMr_8 g => ?_)
    have hF_9 := hp
    have hG_10 := cOK.frame hMr_8 go_.2.2.2.1 mq0_ kq0_ (by decide) (by decide) hGcq0_
    have g := g.more hF_9
    refine lv_iconst (v := 0) hx hb dX10_askKept_49 (by decide) ?_
    refine lv_istore (lv' := [(5, .int 0), (4, .ref a_5), (3, .int x_3), (0, .ref a0_), (1, .ref a1_), (2, .int x2_)]) hx hb dX10_askKept_50 hl (by decide) rfl (fun ls hl => ?_)
    have loop_11 : ∀ (n : Nat) (v52_5 : Int32) (v52_3 : Int32), bd 0 8 v52_5 → (8 - v52_5.toInt < (n : Int)) → ∀ (f : Nat → va_E) (H : Heap) (locs : List Loc) (ls : Array Slot), G3 (dC, dI) L kd tys s f0 [(1, 0), (1, 1), (1, 2), (1, 3), (1, 4), (1, 5), (1, 6), (1, 8), (1, 11), (1, 12), (1, 13), (1, 14), (1, 15), (1, 16), (1, 17), (4, 0), (4, 1), (4, 2), (4, 5)] [100, 116, 117, 146] f H locs [(1, 4, q1_, .ref a_5), (1, 3, q1_, .ref a_5), (1, 2, q1_, .ref a_5), (1, 1, q1_, .ref a_7), (1, 0, q1_, .ref q0_), (7, 0, q0_, .ref a_6), (4, 9, a1_, .ref a_4), (4, 7, a1_, .ref a_2), (10, 0, a0_, .ref q0_), (10, 1, a0_, .ref q1_), (4, 6, a1_, .int y0_), (7, 1, q0_, .int y1_), (4, 14, a1_, .int y2_), (4, 4, a1_, .int y3_), (4, 3, a1_, .int y4_), (4, 2, a1_, .int y5_), (4, 1, a1_, .int y6_), (4, 0, a1_, .int y7_)] → cOK f q0_ → lv_has ls 8 [(5, .int v52_5), (4, .ref a_5), (3, .int v52_3), (0, .ref a0_), (1, .ref a1_), (2, .int x2_)] → W p l e ({ frames := 3, cells := 0, slots := 0, locals := 73 } : Room) s m [.ref a0_, .ref a1_, .int x2_].toArray below meth c H locs 0 0 Q (F0 m 52 ls []) := by
      intro n52
      induction n52 with
      | zero =>
        intro v52_5 v52_3 bv52_5  hm52 f H locs ls g hG52_c_q0_ hl
        exact absurd hm52 (by have h9_v52_5 := bv52_5; unfold bd at h9_v52_5; have h9_v52_3 := bdT v52_3; unfold bd at h9_v52_3; omega)
      | succ n52 ih52 =>
        intro v52_5 v52_3 bv52_5  hm52 f H locs ls g hG52_c_q0_ hl
        refine lv_iload hx hb dX10_askKept_52 (lv_at hl 0 rfl) ?_
        refine lv_bipush (v := 8) hx hb dX10_askKept_54 (by decide) ?_
        have kb_8 : bd 8 8 (8 : Int32) := ⟨by decide, by decide⟩
        refine lv_icmp_ge (tgt := 168) hx hb dX10_askKept_56 (by decide) (fun c_12 => ?_) (fun c_12 => ?_)
        · have fc_12 := le_f c_12
          have b_13 : bd 8 8 v52_5 := leR fc_12 kb_8 bv52_5 (by decide)
          subst hQ
          exact W.vret hx hb hr (fun t ht hW => ⟨⟨_, rfl, ⟨a_5, ⟨ma_5, ka_5⟩, a_5, ⟨ma_5, ka_5⟩, a_5, ⟨ma_5, ka_5⟩, a_7, ⟨ma_7, ka_7⟩, y5_, by5_, y6_, by6_, y7_, (bd_sub by7_ (by decide)), (g.fcts [0, 1, 2, 3, 4, 15, 16, 17] rfl)⟩, q3_of g hK ht hW⟩, g.2.2.1.F ht⟩) g.2.2.1.2.2 dX10_askKept_168
        · have fc_12 := nle_f c_12
          have b_14 : bd 0 7 v52_5 := ltL fc_12 bv52_5 kb_8 (by decide)
          refine lv_aload_n hx hb dX10_askKept_59 rfl (lv_at hl 3 rfl) ?_
          refine g_getk (C := RX10) (T := TX10) (N := 10) hx hb hts (mc_ inX10) hown hK g rfl 0 (by decide) rfl (hts _ (List.mem_cons_of_mem _ t_912)) (fun _ h9 => h9) 8 rfl dX10_askKept_60 ?_
          refine lv_iload_n hx hb dX10_askKept_63 rfl (lv_at hl 2 rfl) ?_
          have go_ := g
          refine g_calli (va_runV (As := [.int v52_3]) (rest := []) ⟨hx, hb, hml, hown, hts⟩ (r_X7_hasClass l dC dI L kd tys f H.size g.2.2.2.1 q0_ mq0_ kq0_ v52_3) (cwV 1 hts (gV_ t_1534 t_1281 t_1282 t_191 t_1283) rfl rfl rfl (by decide +kernel) ⟨(Nat.le_of_ble_eq_true rfl), (Nat.le_of_ble_eq_true rfl)⟩) (pre3V g hK mq0_ kq0_ (by decide) (q := (RX7, TX7, 19)) rfl) rfl rfl hl.1 rfl (lv_room (Nat.le_of_ble_eq_true rfl)) dX10_askKept_64 ⟨(Nat.le_of_ble_eq_true rfl), (Nat.le_of_ble_eq_true rfl)⟩) g hK (by decide) (by decide) (fx' := [(1, 4, q1_, .ref a_5), (1, 3, q1_, .ref a_5), (1, 2, q1_, .ref a_5), (1, 1, q1_, .ref a_7), (1, 0, q1_, .ref q0_), (7, 0, q0_, .ref a_6), (4, 9, a1_, .ref a_4), (4, 7, a1_, .ref a_2), (10, 0, a0_, .ref q0_), (10, 1, a0_, .ref q1_), (4, 6, a1_, .int y0_), (7, 1, q0_, .int y1_), (4, 14, a1_, .int y2_), (4, 4, a1_, .int y3_), (4, 3, a1_, .int y4_), (4, 2, a1_, .int y5_), (4, 1, a1_, .int y6_), (4, 0, a1_, .int y7_)]) rfl (fun r_15 fr_15 H locs hp hMr_15 g => ?_)
          rcases hp with ⟨h_16, -⟩ | ⟨h_17, h_18, x_19, h_20, hF_21⟩
          · have hG_22 := cOK.frame hMr_15 go_.2.2.2.1 mq0_ kq0_ (by decide) (by decide) hG52_c_q0_
            obtain rfl : r_15 = 0 := h_16
            refine lv_if_eq (tgt := 168) hx hb dX10_askKept_67 (by decide) (fun c_ => ?_) (fun c_ => absurd (by decide) c_)
            subst hQ
            exact W.vret hx hb hr (fun t ht hW => ⟨⟨_, rfl, ⟨a_5, ⟨ma_5, ka_5⟩, a_5, ⟨ma_5, ka_5⟩, a_5, ⟨ma_5, ka_5⟩, a_7, ⟨ma_7, ka_7⟩, y5_, by5_, y6_, by6_, y7_, (bd_sub by7_ (by decide)), (g.fcts [0, 1, 2, 3, 4, 15, 16, 17] rfl)⟩, q3_of g hK ht hW⟩, g.2.2.1.F ht⟩) g.2.2.1.2.2 dX10_askKept_168
          · have hG_23 := cOK.frame hMr_15 go_.2.2.2.1 mq0_ kq0_ (by decide) (by decide) hG52_c_q0_
            obtain rfl : r_15 = 1 := h_17
            have b_24 : bd 0 7 v52_3 := eqX rfl (bdT v52_3) h_18 (by decide)
            have g := g.more hF_21
            have e_25 := fx_same g 12 0 rfl rfl
            have g := g.sub (fx' := [(1, 4, q1_, .ref a_5), (1, 3, q1_, .ref a_5), (1, 2, q1_, .ref a_5), (1, 1, q1_, .ref a_7), (1, 0, q1_, .ref q0_), (7, 0, q0_, .ref a_6), (4, 9, a1_, .ref a_4), (4, 7, a1_, .ref a_2), (10, 0, a0_, .ref q0_), (10, 1, a0_, .ref q1_), (4, 6, a1_, .int y0_), (7, 1, q0_, .int y1_), (4, 14, a1_, .int y2_), (4, 4, a1_, .int y3_), (4, 3, a1_, .int y4_), (4, 2, a1_, .int y5_), (4, 1, a1_, .int y6_), (4, 0, a1_, .int y7_)]) [1, 2, 3, 4, 5, 6, 7, 8, 9, 10, 11, 12, 13, 14, 15, 16, 17, 18] rfl
            refine lv_if_eq (tgt := 168) hx hb dX10_askKept_67 (by decide) (fun c_ => absurd c_ (by decide)) (fun c_ => ?_)
            refine lv_aload_n hx hb dX10_askKept_70 rfl (lv_at hl 3 rfl) ?_
            refine g_getk (C := RX10) (T := TX10) (N := 10) hx hb hts (mc_ inX10) hown hK g rfl 0 (by decide) rfl (hts _ (List.mem_cons_of_mem _ t_912)) (fun _ h9 => h9) 8 rfl dX10_askKept_71 ?_
            refine g_getk (C := RX7) (T := TX7) (N := 19) hx hb hts (mc_ inX7) hown hK g rfl 0 (by decide) rfl (hts _ (List.mem_cons_of_mem _ t_624)) (fun _ h9 => h9) 5 rfl dX10_askKept_74 ?_
            refine lv_iload_n hx hb dX10_askKept_77 rfl (lv_at hl 2 rfl) ?_
            refine g_aald hx hb hK g ma_6 ka_6 (by decide) rfl (by decide) (in_bd b_24 (by decide)) dX10_askKept_78 (fun a_26 ma_26 ua_26 wa_26 => ?_)
            have ka_26 : kd a_26 = 9 := by omega
            refine lv_astore (lv' := [(6, .ref a_26), (5, .int v52_5), (4, .ref a_5), (3, .int v52_3), (0, .ref a0_), (1, .ref a1_), (2, .int x2_)]) hx hb dX10_askKept_79 hl (by decide) rfl (fun ls hl => ?_)
            refine lv_aload hx hb dX10_askKept_81 (lv_at hl 0 rfl) ?_
            refine g_geti (C := RX9) (T := TX9) (N := 13) hx hb hts (mc_ inX9) hown hK g ma_26 ka_26 (by decide) rfl 10 (by decide) rfl (hts _ (List.mem_cons_of_mem _ t_513)) (fun _ h9 => h9) rfl dX10_askKept_83 (fun x_27 bx_27 g => ?_)
            refine lv_istore (lv' := [(7, .int x_27), (6, .ref a_26), (5, .int v52_5), (4, .ref a_5), (3, .int v52_3), (0, .ref a0_), (1, .ref a1_), (2, .int x2_)]) hx hb dX10_askKept_86 hl (by decide) rfl (fun ls hl => ?_)
            have loop_28 : ∀ (n : Nat) (v88_7 : Int32), bd 0 500 v88_7 → (500 - v88_7.toInt < (n : Int)) → ∀ (f : Nat → va_E) (H : Heap) (locs : List Loc) (ls : Array Slot), G3 (dC, dI) L kd tys s f0 [(1, 0), (1, 1), (1, 2), (1, 3), (1, 4), (1, 5), (1, 6), (1, 8), (1, 11), (1, 12), (1, 13), (1, 14), (1, 15), (1, 16), (1, 17), (4, 0), (4, 1), (4, 2), (4, 5)] [100, 116, 117, 146] f H locs [(9, 10, a_26, .int x_27), (1, 4, q1_, .ref a_5), (1, 3, q1_, .ref a_5), (1, 2, q1_, .ref a_5), (1, 1, q1_, .ref a_7), (1, 0, q1_, .ref q0_), (7, 0, q0_, .ref a_6), (4, 9, a1_, .ref a_4), (4, 7, a1_, .ref a_2), (10, 0, a0_, .ref q0_), (10, 1, a0_, .ref q1_), (4, 6, a1_, .int y0_), (7, 1, q0_, .int y1_), (4, 14, a1_, .int y2_), (4, 4, a1_, .int y3_), (4, 3, a1_, .int y4_), (4, 2, a1_, .int y5_), (4, 1, a1_, .int y6_), (4, 0, a1_, .int y7_)] → cOK f q0_ → lv_has ls 8 [(7, .int v88_7), (6, .ref a_26), (5, .int v52_5), (4, .ref a_5), (3, .int v52_3), (0, .ref a0_), (1, .ref a1_), (2, .int x2_)] → W p l e ({ frames := 3, cells := 0, slots := 0, locals := 73 } : Room) s m [.ref a0_, .ref a1_, .int x2_].toArray below meth c H locs 0 0 Q (F0 m 88 ls []) := by
              intro n88
              induction n88 with
              | zero =>
                intro v88_7 bv88_7 hm88 f H locs ls g hG88_c_q0_ hl
                exact absurd hm88 (by have h9_v88_7 := bv88_7; unfold bd at h9_v88_7; omega)
              | succ n88 ih88 =>
                intro v88_7 bv88_7 hm88 f H locs ls g hG88_c_q0_ hl
                refine lv_iload hx hb dX10_askKept_88 (lv_at hl 0 rfl) ?_
                refine lv_aload hx hb dX10_askKept_90 (lv_at hl 1 rfl) ?_
                refine g_getk (C := RX9) (T := TX9) (N := 13) hx hb hts (mc_ inX9) hown hK g rfl 10 (by decide) rfl (hts _ (List.mem_cons_of_mem _ t_513)) (fun _ h9 => h9) 0 rfl dX10_askKept_92 ?_
                refine lv_aload hx hb dX10_askKept_95 (lv_at hl 1 rfl) ?_
                refine g_geti (C := RX9) (T := TX9) (N := 13) hx hb hts (mc_ inX9) hown hK g ma_26 ka_26 (by decide) rfl 11 (by decide) rfl (hts _ (List.mem_cons_of_mem _ t_517)) (fun _ h9 => h9) rfl dX10_askKept_97 (fun x_29 bx_29 g => ?_)
                refine lv_iadd hx hb dX10_askKept_100 ?_
                refine lv_topi (fun y_30 ey_30 => ?_)
                refine lv_icmp_ge (tgt := 156) hx hb dX10_askKept_101 (by decide) (fun c_31 => ?_) (fun c_31 => ?_)
                · have fc_31 := le_f c_31
                  have b_32 : bd (-2147483648) 500 y_30 := leL fc_31 (bdT y_30) bv88_7 (by decide)
                  refine lv_aload hx hb dX10_askKept_156 (lv_at hl 1 rfl) ?_
                  refine g_geti (C := RX9) (T := TX9) (N := 13) hx hb hts (mc_ inX9) hown hK g ma_26 ka_26 (by decide) rfl 1 (by decide) rfl (hts _ (List.mem_cons_of_mem _ t_483)) (fun _ h9 => h9) rfl dX10_askKept_158 (fun x_33 bx_33 g => ?_)
                  refine lv_istore_n (lv' := [(3, .int x_33), (7, .int v88_7), (6, .ref a_26), (5, .int v52_5), (4, .ref a_5), (0, .ref a0_), (1, .ref a1_), (2, .int x2_)]) hx hb dX10_askKept_161 rfl hl (by decide) rfl (fun ls hl => ?_)
                  have kb_1 : bd 1 1 (1 : Int32) := ⟨by decide, by decide⟩
                  obtain ⟨y_34, ey_34⟩ : ∃ z : Int32, z = v52_5 + 1 := ⟨_, rfl⟩
                  refine lv_iinc (v := y_34) (lv' := [(5, .int y_34), (3, .int x_33), (7, .int v88_7), (6, .ref a_26), (4, .ref a_5), (0, .ref a0_), (1, .ref a1_), (2, .int x2_)]) hx hb dX10_askKept_162 hl (k := 3) rfl (by rw [ey_34]; rfl) (by decide) rfl (fun ls hl => ?_)
                  have ty_34 := add_bd ey_34 b_14 kb_1 (by decide)
                  have b_35 : bd 1 8 y_34 := add_rg ty_34 b_14 kb_1 (by decide)
                  refine lv_goto (tgt := 52) hx hb dX10_askKept_165 (by decide) ?_
                  have hl9 := lv_sub hl [0, 4, 1, 5, 6, 7] (by rfl : lv_pick [(5, .int y_34), (3, .int x_33), (7, .int v88_7), (6, .ref a_26), (4, .ref a_5), (0, .ref a0_), (1, .ref a1_), (2, .int x2_)] [0, 4, 1, 5, 6, 7] = [(5, .int y_34), (4, .ref a_5), (3, .int x_33), (0, .ref a0_), (1, .ref a1_), (2, .int x2_)])
                  have g9 := g.sub (fx' := [(1, 4, q1_, .ref a_5), (1, 3, q1_, .ref a_5), (1, 2, q1_, .ref a_5), (1, 1, q1_, .ref a_7), (1, 0, q1_, .ref q0_), (7, 0, q0_, .ref a_6), (4, 9, a1_, .ref a_4), (4, 7, a1_, .ref a_2), (10, 0, a0_, .ref q0_), (10, 1, a0_, .ref q1_), (4, 6, a1_, .int y0_), (7, 1, q0_, .int y1_), (4, 14, a1_, .int y2_), (4, 4, a1_, .int y3_), (4, 3, a1_, .int y4_), (4, 2, a1_, .int y5_), (4, 1, a1_, .int y6_), (4, 0, a1_, .int y7_)]) [3, 4, 5, 6, 7, 8, 9, 10, 11, 12, 13, 14, 15, 16, 17, 18, 19, 20] rfl
                  exact ih52  y_34 x_33 (bd_sub b_35 (by decide)) (by have h9_0 := b_35; unfold bd at h9_0; have h9_1 := bdT v52_3; unfold bd at h9_1; have h9_2 := bdT x_33; unfold bd at h9_2; have h9_3 := bv52_5; unfold bd at h9_3; have h9_4 := kb_0; unfold bd at h9_4; have h9_5 := kb_1; unfold bd at h9_5; have h9_6 := kb_8; unfold bd at h9_6; omega) _ _ _ _ g9 hG88_c_q0_ hl9
                · have fc_31 := nle_f c_31
                  have b_36 : bd 1 2147483647 y_30 := ltR fc_31 bv88_7 (bdT y_30) (by decide)
                  refine lv_iload hx hb dX10_askKept_104 (lv_at hl 0 rfl) ?_
                  refine lv_aload_n hx hb dX10_askKept_106 rfl (lv_at hl 5 rfl) ?_
                  refine g_getk (C := RX10) (T := TX10) (N := 10) hx hb hts (mc_ inX10) hown hK g rfl 0 (by decide) rfl (hts _ (List.mem_cons_of_mem _ t_912)) (fun _ h9 => h9) 10 rfl dX10_askKept_107 ?_
                  refine g_geti (C := RX7) (T := TX7) (N := 19) hx hb hts (mc_ inX7) hown hK g mq0_ kq0_ (by decide) rfl 13 (by decide) rfl (hts _ (List.mem_cons_of_mem _ t_670)) (fun _ h9 => h9) rfl dX10_askKept_110 (fun x_37 bx_37 g => ?_)
                  refine lv_icmp_ge (tgt := 156) hx hb dX10_askKept_113 (by decide) (fun c_38 => ?_) (fun c_38 => ?_)
                  · have fc_38 := le_f c_38
                    refine lv_aload hx hb dX10_askKept_156 (lv_at hl 1 rfl) ?_
                    refine g_geti (C := RX9) (T := TX9) (N := 13) hx hb hts (mc_ inX9) hown hK g ma_26 ka_26 (by decide) rfl 1 (by decide) rfl (hts _ (List.mem_cons_of_mem _ t_483)) (fun _ h9 => h9) rfl dX10_askKept_158 (fun x_39 bx_39 g => ?_)
                    refine lv_istore_n (lv' := [(3, .int x_39), (7, .int v88_7), (6, .ref a_26), (5, .int v52_5), (4, .ref a_5), (0, .ref a0_), (1, .ref a1_), (2, .int x2_)]) hx hb dX10_askKept_161 rfl hl (by decide) rfl (fun ls hl => ?_)
                    have kb_1 : bd 1 1 (1 : Int32) := ⟨by decide, by decide⟩
                    obtain ⟨y_40, ey_40⟩ : ∃ z : Int32, z = v52_5 + 1 := ⟨_, rfl⟩
                    refine lv_iinc (v := y_40) (lv' := [(5, .int y_40), (3, .int x_39), (7, .int v88_7), (6, .ref a_26), (4, .ref a_5), (0, .ref a0_), (1, .ref a1_), (2, .int x2_)]) hx hb dX10_askKept_162 hl (k := 3) rfl (by rw [ey_40]; rfl) (by decide) rfl (fun ls hl => ?_)
                    have ty_40 := add_bd ey_40 b_14 kb_1 (by decide)
                    have b_41 : bd 1 8 y_40 := add_rg ty_40 b_14 kb_1 (by decide)
                    refine lv_goto (tgt := 52) hx hb dX10_askKept_165 (by decide) ?_
                    have hl9 := lv_sub hl [0, 4, 1, 5, 6, 7] (by rfl : lv_pick [(5, .int y_40), (3, .int x_39), (7, .int v88_7), (6, .ref a_26), (4, .ref a_5), (0, .ref a0_), (1, .ref a1_), (2, .int x2_)] [0, 4, 1, 5, 6, 7] = [(5, .int y_40), (4, .ref a_5), (3, .int x_39), (0, .ref a0_), (1, .ref a1_), (2, .int x2_)])
                    have g9 := g.sub (fx' := [(1, 4, q1_, .ref a_5), (1, 3, q1_, .ref a_5), (1, 2, q1_, .ref a_5), (1, 1, q1_, .ref a_7), (1, 0, q1_, .ref q0_), (7, 0, q0_, .ref a_6), (4, 9, a1_, .ref a_4), (4, 7, a1_, .ref a_2), (10, 0, a0_, .ref q0_), (10, 1, a0_, .ref q1_), (4, 6, a1_, .int y0_), (7, 1, q0_, .int y1_), (4, 14, a1_, .int y2_), (4, 4, a1_, .int y3_), (4, 3, a1_, .int y4_), (4, 2, a1_, .int y5_), (4, 1, a1_, .int y6_), (4, 0, a1_, .int y7_)]) [4, 5, 6, 7, 8, 9, 10, 11, 12, 13, 14, 15, 16, 17, 18, 19, 20, 21] rfl
                    exact ih52  y_40 x_39 (bd_sub b_41 (by decide)) (by have h9_0 := b_41; unfold bd at h9_0; have h9_1 := bdT v52_3; unfold bd at h9_1; have h9_2 := bdT x_39; unfold bd at h9_2; have h9_3 := bv52_5; unfold bd at h9_3; have h9_4 := kb_0; unfold bd at h9_4; have h9_5 := kb_1; unfold bd at h9_5; have h9_6 := kb_8; unfold bd at h9_6; omega) _ _ _ _ g9 hG88_c_q0_ hl9
                  · have fc_38 := nle_f c_38
                    have b_42 : bd 0 499 v88_7 := ltL fc_38 bv88_7 bx_37 (by decide)
                    have b_43 : bd 1 500 x_37 := ltR fc_38 bv88_7 bx_37 (by decide)
                    refine lv_aload_n hx hb dX10_askKept_116 rfl (lv_at hl 5 rfl) ?_
                    refine lv_aload_n hx hb dX10_askKept_117 rfl (lv_at hl 6 rfl) ?_
                    refine lv_iload hx hb dX10_askKept_118 (lv_at hl 0 rfl) ?_
                    refine lv_iload_n hx hb dX10_askKept_120 rfl (lv_at hl 7 rfl) ?_
                    have go_ := g
                    refine g_calli (va_runV (As := [.ref a1_, .int v88_7, .int x2_]) (rest := []) ⟨hx, hb, hml, hown, hts⟩ (r_X10_holds_20 l dC dI L kd tys f H.size g.2.2.2.1 a0_ ma0_ ka0_ a1_ ma1_ ka1_ v88_7 b_42 x2_ bx2_ q1_ mq1_ kq1_ q0_ mq0_ kq0_ a_7 ma_7 ka_7 x_37 b_43 y0_ by0_ y1_ by1_ y2_ by2_ y3_ by3_ y4_ by4_ y5_ by5_ y6_ by6_ y7_ by7_ hG88_c_q0_ (g.fcts [12, 7, 6, 0, 13, 14, 15, 16, 17, 18, 19, 20] rfl)) (cwV 3 hts (gV_ t_1547 t_1549 t_57 t_194 t_1550) rfl rfl rfl (by decide +kernel) ⟨(Nat.le_of_ble_eq_true rfl), (Nat.le_of_ble_eq_true rfl)⟩) (pre3V g hK ma0_ ka0_ (by decide) (q := (RX10, TX10, 10)) rfl) rfl rfl hl.1 rfl (lv_room (Nat.le_of_ble_eq_true rfl)) dX10_askKept_121 ⟨(Nat.le_of_ble_eq_true rfl), (Nat.le_of_ble_eq_true rfl)⟩) g hK (by decide) (by decide) (fx' := [(7, 13, q0_, .int x_37), (9, 11, a_26, .int x_29), (9, 10, a_26, .int x_27), (1, 4, q1_, .ref a_5), (1, 3, q1_, .ref a_5), (1, 2, q1_, .ref a_5), (1, 1, q1_, .ref a_7), (1, 0, q1_, .ref q0_), (7, 0, q0_, .ref a_6), (4, 9, a1_, .ref a_4), (4, 7, a1_, .ref a_2), (10, 0, a0_, .ref q0_), (10, 1, a0_, .ref q1_), (4, 6, a1_, .int y0_), (7, 1, q0_, .int y1_), (4, 14, a1_, .int y2_), (4, 4, a1_, .int y3_), (4, 3, a1_, .int y4_)]) rfl (fun r_44 fr_44 H locs hp hMr_44 g => ?_)
                    rcases hp with ⟨h_45, x_46, h_47, x_48, h_49, x_50, h_51, hF_52⟩ | ⟨h_53, x_54, h_55, hF_56⟩
                    · have hG_57 := cOK.frame hMr_44 go_.2.2.2.1 mq0_ kq0_ (by decide) (by decide) hG88_c_q0_
                      obtain rfl : r_44 = 0 := h_45
                      have g := g.more hF_52
                      refine lv_if_ne (tgt := 150) hx hb dX10_askKept_124 (by decide) (fun c_ => absurd c_ (by decide)) (fun c_ => ?_)
                      refine lv_aload_n hx hb dX10_askKept_127 rfl (lv_at hl 6 rfl) ?_
                      refine lv_aload_n hx hb dX10_askKept_128 rfl (lv_at hl 6 rfl) ?_
                      refine g_getk (C := RX4) (T := TX4) (N := 17) hx hb hts (mc_ inX4) hown hK g rfl 0 (by decide) rfl (hts _ (List.mem_cons_of_mem _ t_837)) (fun _ h9 => h9) 2 rfl dX10_askKept_129 ?_
                      refine lv_if_ne (tgt := 139) hx hb dX10_askKept_132 (by decide) (fun c_58 => ?_) (fun c_58 => ?_)
                      · have fc_58 := neq_f c_58
                        have b_59 : bd 1 7 x_50 := neX fc_58 h_51 kb_0 (by decide)
                        refine lv_aload_n hx hb dX10_askKept_139 rfl (lv_at hl 6 rfl) ?_
                        refine g_getk (C := RX4) (T := TX4) (N := 17) hx hb hts (mc_ inX4) hown hK g rfl 0 (by decide) rfl (hts _ (List.mem_cons_of_mem _ t_837)) (fun _ h9 => h9) 2 rfl dX10_askKept_140 ?_
                        refine lv_iload hx hb dX10_askKept_143 (lv_at hl 0 rfl) ?_
                        refine lv_iload_n hx hb dX10_askKept_145 rfl (lv_at hl 7 rfl) ?_
                        have go_ := g
                        refine g_callv (va_runV (As := [.int x_50, .int v88_7, .int x2_]) (rest := []) ⟨hx, hb, hml, hown, hts⟩ (r_X4_breakBy l dC dI L kd tys fr_44 H.size g.2.2.2.1 a1_ ma1_ ka1_ x_50 v88_7 x2_) (cwV 3 hts (gV_ t_1606 t_1607 t_1608 t_197 t_1609) rfl rfl rfl (by decide +kernel) ⟨(Nat.le_of_ble_eq_true rfl), (Nat.le_of_ble_eq_true rfl)⟩) (pre3V g hK ma1_ ka1_ (by decide) (q := (RX4, TX4, 17)) rfl) rfl rfl hl.1 rfl (lv_room (Nat.le_of_ble_eq_true rfl)) dX10_askKept_146 ⟨(Nat.le_of_ble_eq_true rfl), (Nat.le_of_ble_eq_true rfl)⟩) g hK (by decide) (by decide) (fx' := [(1, 12, q1_, .int 0), (1, 5, q1_, .int 1), (7, 13, q0_, .int x_37), (9, 11, a_26, .int x_29), (9, 10, a_26, .int x_27), (1, 4, q1_, .ref a_5), (1, 3, q1_, .ref a_5), (1, 2, q1_, .ref a_5), (1, 1, q1_, .ref a_7), (1, 0, q1_, .ref q0_), (7, 0, q0_, .ref a_6), (4, 9, a1_, .ref a_4), (4, 7, a1_, .ref a_2), (10, 0, a0_, .ref q0_), (10, 1, a0_, .ref q1_), (4, 6, a1_, .int y0_), (7, 1, q0_, .int y1_), (4, 14, a1_, .int y2_), (4, 4, a1_, .int y3_), (4, 3, a1_, .int y4_)]) rfl (fun fr_60 H locs hp hMr_60 g => ?_)
                        have hF_61 := hp
                        have hG_62 := cOK.frame hMr_60 go_.2.2.2.1 mq0_ kq0_ (by decide) (by decide) hG_57
                        have g := g.more hF_61
                        subst hQ
                        exact W.vret hx hb hr (fun t ht hW => ⟨⟨_, rfl, ⟨a_5, ⟨ma_5, ka_5⟩, a_5, ⟨ma_5, ka_5⟩, a_5, ⟨ma_5, ka_5⟩, a_7, ⟨ma_7, ka_7⟩, x2_, (bd_sub bx2_ (by decide)), v88_7, (bd_sub b_42 (by decide)), x_50, (bd_sub b_59 (by decide)), (g.fcts [8, 9, 10, 11, 12, 0, 1, 2] rfl)⟩, q3_of g hK ht hW⟩, g.2.2.1.F ht⟩) g.2.2.1.2.2 dX10_askKept_149
                      · have fc_58 := eq_f c_58
                        have b_63 : bd 0 0 x_50 := eqX fc_58 h_51 kb_0 (by decide)
                        refine lv_iconst (v := 2) hx hb dX10_askKept_135 (by decide) ?_
                        refine lv_goto (tgt := 143) hx hb dX10_askKept_136 (by decide) ?_
                        refine lv_iload hx hb dX10_askKept_143 (lv_at hl 0 rfl) ?_
                        refine lv_iload_n hx hb dX10_askKept_145 rfl (lv_at hl 7 rfl) ?_
                        have go_ := g
                        refine g_callv (va_runV (As := [.int 2, .int v88_7, .int x2_]) (rest := []) ⟨hx, hb, hml, hown, hts⟩ (r_X4_breakBy l dC dI L kd tys fr_44 H.size g.2.2.2.1 a1_ ma1_ ka1_ 2 v88_7 x2_) (cwV 3 hts (gV_ t_1606 t_1607 t_1608 t_197 t_1609) rfl rfl rfl (by decide +kernel) ⟨(Nat.le_of_ble_eq_true rfl), (Nat.le_of_ble_eq_true rfl)⟩) (pre3V g hK ma1_ ka1_ (by decide) (q := (RX4, TX4, 17)) rfl) rfl rfl hl.1 rfl (lv_room (Nat.le_of_ble_eq_true rfl)) dX10_askKept_146 ⟨(Nat.le_of_ble_eq_true rfl), (Nat.le_of_ble_eq_true rfl)⟩) g hK (by decide) (by decide) (fx' := [(1, 12, q1_, .int 0), (1, 5, q1_, .int 1), (7, 13, q0_, .int x_37), (9, 11, a_26, .int x_29), (9, 10, a_26, .int x_27), (1, 4, q1_, .ref a_5), (1, 3, q1_, .ref a_5), (1, 2, q1_, .ref a_5), (1, 1, q1_, .ref a_7), (1, 0, q1_, .ref q0_), (7, 0, q0_, .ref a_6), (4, 9, a1_, .ref a_4), (4, 7, a1_, .ref a_2), (10, 0, a0_, .ref q0_), (10, 1, a0_, .ref q1_), (4, 6, a1_, .int y0_), (7, 1, q0_, .int y1_), (4, 14, a1_, .int y2_), (4, 4, a1_, .int y3_), (4, 3, a1_, .int y4_)]) rfl (fun fr_64 H locs hp hMr_64 g => ?_)
                        have hF_65 := hp
                        have hG_66 := cOK.frame hMr_64 go_.2.2.2.1 mq0_ kq0_ (by decide) (by decide) hG_57
                        have g := g.more hF_65
                        have kb_2 : bd 2 2 (2 : Int32) := ⟨by decide, by decide⟩
                        subst hQ
                        exact W.vret hx hb hr (fun t ht hW => ⟨⟨_, rfl, ⟨a_5, ⟨ma_5, ka_5⟩, a_5, ⟨ma_5, ka_5⟩, a_5, ⟨ma_5, ka_5⟩, a_7, ⟨ma_7, ka_7⟩, x2_, (bd_sub bx2_ (by decide)), v88_7, (bd_sub b_42 (by decide)), 2, (bd_sub kb_2 (by decide)), (g.fcts [8, 9, 10, 11, 12, 0, 1, 2] rfl)⟩, q3_of g hK ht hW⟩, g.2.2.1.F ht⟩) g.2.2.1.2.2 dX10_askKept_149
                    · have hG_67 := cOK.frame hMr_44 go_.2.2.2.1 mq0_ kq0_ (by decide) (by decide) hG88_c_q0_
                      obtain rfl : r_44 = 1 := h_53
                      have g := g.more hF_56
                      refine lv_if_ne (tgt := 150) hx hb dX10_askKept_124 (by decide) (fun c_ => ?_) (fun c_ => absurd c_ (by decide))
                      have kb_1 : bd 1 1 (1 : Int32) := ⟨by decide, by decide⟩
                      obtain ⟨y_68, ey_68⟩ : ∃ z : Int32, z = v88_7 + 1 := ⟨_, rfl⟩
                      refine lv_iinc (v := y_68) (lv' := [(7, .int y_68), (6, .ref a_26), (5, .int v52_5), (4, .ref a_5), (3, .int v52_3), (0, .ref a0_), (1, .ref a1_), (2, .int x2_)]) hx hb dX10_askKept_150 hl (k := 0) rfl (by rw [ey_68]; rfl) (by decide) rfl (fun ls hl => ?_)
                      have ty_68 := add_bd ey_68 b_42 kb_1 (by decide)
                      have b_69 : bd 1 500 y_68 := add_rg ty_68 b_42 kb_1 (by decide)
                      refine lv_goto (tgt := 88) hx hb dX10_askKept_153 (by decide) ?_
                      have hl9 := lv_sub hl [0, 1, 2, 3, 4, 5, 6, 7] (by rfl : lv_pick [(7, .int y_68), (6, .ref a_26), (5, .int v52_5), (4, .ref a_5), (3, .int v52_3), (0, .ref a0_), (1, .ref a1_), (2, .int x2_)] [0, 1, 2, 3, 4, 5, 6, 7] = [(7, .int y_68), (6, .ref a_26), (5, .int v52_5), (4, .ref a_5), (3, .int v52_3), (0, .ref a0_), (1, .ref a1_), (2, .int x2_)])
                      have g9 := g.sub (fx' := [(9, 10, a_26, .int x_27), (1, 4, q1_, .ref a_5), (1, 3, q1_, .ref a_5), (1, 2, q1_, .ref a_5), (1, 1, q1_, .ref a_7), (1, 0, q1_, .ref q0_), (7, 0, q0_, .ref a_6), (4, 9, a1_, .ref a_4), (4, 7, a1_, .ref a_2), (10, 0, a0_, .ref q0_), (10, 1, a0_, .ref q1_), (4, 6, a1_, .int y0_), (7, 1, q0_, .int y1_), (4, 14, a1_, .int y2_), (4, 4, a1_, .int y3_), (4, 3, a1_, .int y4_), (4, 2, a1_, .int y5_), (4, 1, a1_, .int y6_), (4, 0, a1_, .int y7_)]) [8, 9, 10, 11, 12, 13, 14, 15, 16, 17, 18, 19, 20, 21, 22, 23, 3, 4, 5] rfl
                      exact ih88  y_68 (bd_sub b_69 (by decide)) (by have h9_0 := b_69; unfold bd at h9_0; have h9_1 := bv88_7; unfold bd at h9_1; have h9_2 := kb_0; unfold bd at h9_2; have h9_3 := kb_1; unfold bd at h9_3; have h9_4 := kb_8; unfold bd at h9_4; omega) _ _ _ _ g9 hG_67 hl9
            have hl9 := lv_sub hl [0, 1, 2, 3, 4, 5, 6, 7] (by rfl : lv_pick [(7, .int x_27), (6, .ref a_26), (5, .int v52_5), (4, .ref a_5), (3, .int v52_3), (0, .ref a0_), (1, .ref a1_), (2, .int x2_)] [0, 1, 2, 3, 4, 5, 6, 7] = [(7, .int x_27), (6, .ref a_26), (5, .int v52_5), (4, .ref a_5), (3, .int v52_3), (0, .ref a0_), (1, .ref a1_), (2, .int x2_)])
            have g9 := g.sub (fx' := [(9, 10, a_26, .int x_27), (1, 4, q1_, .ref a_5), (1, 3, q1_, .ref a_5), (1, 2, q1_, .ref a_5), (1, 1, q1_, .ref a_7), (1, 0, q1_, .ref q0_), (7, 0, q0_, .ref a_6), (4, 9, a1_, .ref a_4), (4, 7, a1_, .ref a_2), (10, 0, a0_, .ref q0_), (10, 1, a0_, .ref q1_), (4, 6, a1_, .int y0_), (7, 1, q0_, .int y1_), (4, 14, a1_, .int y2_), (4, 4, a1_, .int y3_), (4, 3, a1_, .int y4_), (4, 2, a1_, .int y5_), (4, 1, a1_, .int y6_), (4, 0, a1_, .int y7_)]) [0, 1, 2, 3, 4, 5, 6, 7, 8, 9, 10, 11, 12, 13, 14, 15, 16, 17, 18] rfl
            exact loop_28 (1003) x_27 bx_27 (by have h9_0 := bx_27; unfold bd at h9_0; have h9_1 := kb_0; unfold bd at h9_1; have h9_2 := kb_8; unfold bd at h9_2; omega) _ _ _ _ g9 hG_23 hl9
    have hl9 := lv_sub hl [0, 1, 2, 3, 4, 5] (by rfl : lv_pick [(5, .int 0), (4, .ref a_5), (3, .int x_3), (0, .ref a0_), (1, .ref a1_), (2, .int x2_)] [0, 1, 2, 3, 4, 5] = [(5, .int 0), (4, .ref a_5), (3, .int x_3), (0, .ref a0_), (1, .ref a1_), (2, .int x2_)])
    have g9 := g.sub (fx' := [(1, 4, q1_, .ref a_5), (1, 3, q1_, .ref a_5), (1, 2, q1_, .ref a_5), (1, 1, q1_, .ref a_7), (1, 0, q1_, .ref q0_), (7, 0, q0_, .ref a_6), (4, 9, a1_, .ref a_4), (4, 7, a1_, .ref a_2), (10, 0, a0_, .ref q0_), (10, 1, a0_, .ref q1_), (4, 6, a1_, .int y0_), (7, 1, q0_, .int y1_), (4, 14, a1_, .int y2_), (4, 4, a1_, .int y3_), (4, 3, a1_, .int y4_), (4, 2, a1_, .int y5_), (4, 1, a1_, .int y6_), (4, 0, a1_, .int y7_)]) [0, 1, 2, 3, 4, 5, 6, 7, 8, 9, 10, 11, 12, 13, 14, 15, 16, 17] rfl
    exact loop_11 (19) 0 x_3 (bd_sub kb_0 (by decide)) (by have h9_0 := bx_3; unfold bd at h9_0; have h9_1 := kb_0; unfold bd at h9_1; omega) _ _ _ _ g9 hG_10 hl9
  · have fc_1 := neq_f c_1
    have b_70 : bd 1 (-1) y7_ := neX fc_1 by7_ kb_0 (by decide)
    exact bd_no b_70 (by decide)
set_option maxHeartbeats 4000000 in
set_option maxRecDepth 100000 in
theorem r_X10_doMake_3 (l : Launch) (dC : Nat → ClassId) (dI : Nat → Nat → Nat) (L : List Nat) (kd : Nat → Nat) (tys : List (ClassId × FieldType)) (f0 : Nat → va_E) (sz : Nat) (hWT : WT L kd tys f0) (a0_ : Nat) (ma0_ : a0_ ∈ L) (ka0_ : kd a0_ = 10) (a1_ : Nat) (ma1_ : a1_ ∈ L) (ka1_ : kd a1_ = 3) (a2_ : Nat) (ma2_ : a2_ ∈ L) (ka2_ : kd a2_ = 4) (x3_ : Int32) (bx3_ : bd 0 9 x3_) (q0_ : Nat) (mq0_ : q0_ ∈ L) (kq0_ : kd q0_ = 7) (y0_ : Int32) (by0_ : bd 0 9 y0_) (y1_ : Int32) (by1_ : bd 1 10 y1_) (y2_ : Int32) (by2_ : bd (-1) 2147483647 y2_) (y3_ : Int32) (by3_ : bd (-1) 2147483647 y3_) (y4_ : Int32) (by4_ : bd (-1) 2147483647 y4_) (y5_ : Int32) (by5_ : bd (-1) 2147483647 y5_) (y6_ : Int32) (by6_ : bd 0 0 y6_) (hGcq0_ : cOK f0 q0_) (hfx : Fs L kd f0 [(10, 0, a0_, .ref q0_), (4, 14, a2_, .int y0_), (3, 0, a1_, .int y1_), (4, 4, a2_, .int y2_), (4, 3, a2_, .int y3_), (4, 2, a2_, .int y4_), (4, 1, a2_, .int y5_), (4, 0, a2_, .int y6_)]) : Met l yX10_doMake (.code yX10_doMake cX10_doMake 7 none :: lw_g) ({ frames := 4, cells := 0, slots := 0, locals := 100 }) (va_Pc [.ref a0_, .ref a1_, .ref a2_, .int x3_] (P3 (dC, dI) L tys f0 sz)) (va_Qv (fun (f : Nat → va_E) => (∃ z0_ : Int32, bd (-1) 2147483647 z0_ ∧ ∃ z1_ : Int32, bd (-1) 2147483647 z1_ ∧ ∃ z2_ : Int32, bd 0 7 z2_ ∧ Fs L kd f [(4, 2, a2_, .int z0_), (4, 1, a2_, .int z1_), (4, 0, a2_, .int z2_)])) (Q3 (dC, dI) L kd tys [(1, 0), (1, 1), (1, 2), (1, 3), (1, 4), (1, 5), (1, 6), (1, 8), (1, 11), (1, 12), (1, 13), (1, 14), (1, 15), (1, 16), (1, 17), (4, 0), (4, 1), (4, 2), (4, 5), (4, 6)] [100, 101, 116, 117, 126, 127, 131, 146] f0 sz) (pA L sz)) 0 0 (pA L sz) := by
  refine Met.ofW (cc := cX10_doMake) (maxL := 7) (ret := none) (by decide) rfl ?_
  intro p e s m args below meth c s₁ B hml hv
  obtain ⟨rfl, hsz, hP, hK, hD0⟩ := hv
  have hx := B.exec
  have hb := B.bytes
  have hr := B.returns
  have hts := atoms_spec (ws := (.code yX10_doMake cX10_doMake 7 none :: lw_g)) B.pre
  have hown : s.vm.findClass RX10 = some m.cls := findClass_of_methodNamed B.named
  have hlocks := B.notSynchronized
  subst hsz
  have g : G3 (dC, dI) L kd tys s f0 [(1, 0), (1, 1), (1, 2), (1, 3), (1, 4), (1, 5), (1, 6), (1, 8), (1, 11), (1, 12), (1, 13), (1, 14), (1, 15), (1, 16), (1, 17), (4, 0), (4, 1), (4, 2), (4, 5), (4, 6)] [100, 101, 116, 117, 126, 127, 131, 146] f0 s.heap [] [(10, 0, a0_, .ref q0_), (4, 14, a2_, .int y0_), (3, 0, a1_, .int y1_), (4, 4, a2_, .int y2_), (4, 3, a2_, .int y3_), (4, 2, a2_, .int y4_), (4, 1, a2_, .int y5_), (4, 0, a2_, .int y6_)] := G3.start hP hD0 hWT hfx
  have hl := lv_entry ([.ref a0_, .ref a1_, .ref a2_, .int x3_]) (n := 7) (Nat.le_of_ble_eq_true rfl)
  rw [lg_entry_eq]
  generalize (lg_sl ([.ref a0_, .ref a1_, .ref a2_, .int x3_]) ++ List.replicate (7 - (lg_sl ([.ref a0_, .ref a1_, .ref a2_, .int x3_])).length) Slot.unset).toArray = ls at hl ⊢
  have hl : lv_has ls 7 [(0, .ref a0_), (1, .ref a1_), (2, .ref a2_), (3, .int x3_)] := hl
  refine W_q (fun Q hQ => ?_)
  refine lv_aload_n hx hb dX10_doMake_0 rfl (lv_at hl 1 rfl) ?_
  refine g_getr (K := 124) (C := RX3) (T := TX3) (N := 6) hx hb hts (mc_ inX3) hown hK g ma1_ ka1_ (by decide) rfl 3 (by decide) rfl (hts _ (List.mem_cons_of_mem _ t_811)) (fun _ h9 => h9) rfl dX10_doMake_1 (fun a_1 ma_1 ka_1 g => ?_)
  refine lv_iload_n hx hb dX10_doMake_4 rfl (lv_at hl 3 rfl) ?_
  refine g_aald hx hb hK g ma_1 ka_1 (by decide) rfl (by decide) (in_bd bx3_ (by decide)) dX10_doMake_5 (fun a_2 ma_2 ua_2 wa_2 => ?_)
  have ka_2 : kd a_2 = 103 := by omega
  refine lv_iconst (v := 0) hx hb dX10_doMake_6 (by decide) ?_
  refine g_iald hx hb hK g ma_2 ka_2 (by decide) rfl (by unfold vp_in; decide) dX10_doMake_7 (fun x_3 bx_3 cx_3 => ?_)
  refine lv_istore (lv' := [(4, .int x_3), (0, .ref a0_), (1, .ref a1_), (2, .ref a2_), (3, .int x3_)]) hx hb dX10_doMake_8 hl (by decide) rfl (fun ls hl => ?_)
  refine lv_aload_n hx hb dX10_doMake_10 rfl (lv_at hl 3 rfl) ?_
  refine g_geti (C := RX4) (T := TX4) (N := 17) hx hb hts (mc_ inX4) hown hK g ma2_ ka2_ (by decide) rfl 6 (by decide) rfl (hts _ (List.mem_cons_of_mem _ t_851)) (fun _ h9 => h9) rfl dX10_doMake_11 (fun x_4 bx_4 g => ?_)
  refine lv_istore (lv' := [(5, .int x_4), (4, .int x_3), (0, .ref a0_), (1, .ref a1_), (2, .ref a2_), (3, .int x3_)]) hx hb dX10_doMake_14 hl (by decide) rfl (fun ls hl => ?_)
  refine lv_aload_n hx hb dX10_doMake_16 rfl (lv_at hl 2 rfl) ?_
  refine g_getk (C := RX10) (T := TX10) (N := 10) hx hb hts (mc_ inX10) hown hK g rfl 0 (by decide) rfl (hts _ (List.mem_cons_of_mem _ t_912)) (fun _ h9 => h9) 2 rfl dX10_doMake_17 ?_
  refine lv_iload hx hb dX10_doMake_20 (lv_at hl 1 rfl) ?_
  have go_ := g
  refine g_calli (va_runV (As := [.int x_3]) (rest := []) ⟨hx, hb, hml, hown, hts⟩ (r_X7_hasClass l dC dI L kd tys f0 s.heap.size g.2.2.2.1 q0_ mq0_ kq0_ x_3) (cwV 1 hts (gV_ t_1534 t_1281 t_1282 t_191 t_1283) rfl rfl rfl (by decide +kernel) ⟨(Nat.le_of_ble_eq_true rfl), (Nat.le_of_ble_eq_true rfl)⟩) (pre3V g hK mq0_ kq0_ (by decide) (q := (RX7, TX7, 19)) rfl) rfl rfl hl.1 rfl (lv_room (Nat.le_of_ble_eq_true rfl)) dX10_doMake_22 ⟨(Nat.le_of_ble_eq_true rfl), (Nat.le_of_ble_eq_true rfl)⟩) g hK (by decide) (by decide) (fx' := [(4, 6, a2_, .int x_4), (3, 3, a1_, .ref a_1), (10, 0, a0_, .ref q0_), (4, 14, a2_, .int y0_), (3, 0, a1_, .int y1_), (4, 4, a2_, .int y2_), (4, 3, a2_, .int y3_), (4, 2, a2_, .int y4_), (4, 1, a2_, .int y5_), (4, 0, a2_, .int y6_)]) rfl (fun r_5 fr_5 H locs hp hMr_5 g => ?_)
  rcases hp with ⟨h_6, -⟩ | ⟨h_7, h_8, x_9, h_10, hF_11⟩
  · have hG_12 := cOK.frame hMr_5 go_.2.2.2.1 mq0_ kq0_ (by decide) (by decide) hGcq0_
    obtain rfl : r_5 = 0 := h_6
    refine lv_if_eq (tgt := 34) hx hb dX10_doMake_25 (by decide) (fun c_ => ?_) (fun c_ => absurd (by decide) c_)
    subst hQ
    exact W.vret hx hb hr (fun t ht hW => ⟨⟨_, rfl, ⟨y4_, by4_, y5_, by5_, y6_, (bd_sub by6_ (by decide)), (g.fcts [7, 8, 9] rfl)⟩, q3_of g hK ht hW⟩, g.2.2.1.F ht⟩) g.2.2.1.2.2 dX10_doMake_34
  · have hG_13 := cOK.frame hMr_5 go_.2.2.2.1 mq0_ kq0_ (by decide) (by decide) hGcq0_
    obtain rfl : r_5 = 1 := h_7
    have b_14 : bd 0 7 x_3 := eqX rfl (bdT x_3) h_8 (by decide)
    have g := g.more hF_11
    refine lv_if_eq (tgt := 34) hx hb dX10_doMake_25 (by decide) (fun c_ => absurd c_ (by decide)) (fun c_ => ?_)
    refine lv_iload hx hb dX10_doMake_28 (lv_at hl 0 rfl) ?_
    refine lv_iconst (v := 3) hx hb dX10_doMake_30 (by decide) ?_
    have kb_3 : bd 3 3 (3 : Int32) := ⟨by decide, by decide⟩
    refine lv_icmp_lt (tgt := 35) hx hb dX10_doMake_31 (by decide) (fun c_15 => ?_) (fun c_15 => ?_)
    · have fc_15 := lt_f c_15
      have b_16 : bd 0 2 x_4 := ltL fc_15 bx_4 kb_3 (by decide)
      refine lv_aload_n hx hb dX10_doMake_35 rfl (lv_at hl 2 rfl) ?_
      refine g_getk (C := RX10) (T := TX10) (N := 10) hx hb hts (mc_ inX10) hown hK g rfl 0 (by decide) rfl (hts _ (List.mem_cons_of_mem _ t_912)) (fun _ h9 => h9) 3 rfl dX10_doMake_36 ?_
      refine g_getr (K := 136) (C := RX7) (T := TX7) (N := 19) hx hb hts (mc_ inX7) hown hK g mq0_ kq0_ (by decide) rfl 0 (by decide) rfl (hts _ (List.mem_cons_of_mem _ t_624)) (fun _ h9 => h9) rfl dX10_doMake_39 (fun a_17 ma_17 ka_17 g => ?_)
      refine lv_iload hx hb dX10_doMake_42 (lv_at hl 1 rfl) ?_
      refine g_aald hx hb hK g ma_17 ka_17 (by decide) rfl (by decide) (in_bd b_14 (by decide)) dX10_doMake_44 (fun a_18 ma_18 ua_18 wa_18 => ?_)
      have ka_18 : kd a_18 = 9 := by omega
      refine g_geti (C := RX9) (T := TX9) (N := 13) hx hb hts (mc_ inX9) hown hK g ma_18 ka_18 (by decide) rfl 12 (by decide) rfl (hts _ (List.mem_cons_of_mem _ t_520)) (fun _ h9 => h9) rfl dX10_doMake_45 (fun x_19 bx_19 g => ?_)
      refine lv_istore (lv' := [(6, .int x_19), (5, .int x_4), (4, .int x_3), (0, .ref a0_), (1, .ref a1_), (2, .ref a2_), (3, .int x3_)]) hx hb dX10_doMake_48 hl (by decide) rfl (fun ls hl => ?_)
      refine lv_aload_n hx hb dX10_doMake_50 rfl (lv_at hl 5 rfl) ?_
      refine g_getr (K := 126) (C := RX4) (T := TX4) (N := 17) hx hb hts (mc_ inX4) hown hK g ma2_ ka2_ (by decide) rfl 7 (by decide) rfl (hts _ (List.mem_cons_of_mem _ t_854)) (fun _ h9 => h9) rfl dX10_doMake_51 (fun a_20 ma_20 ka_20 g => ?_)
      refine lv_iload hx hb dX10_doMake_54 (lv_at hl 1 rfl) ?_
      refine lv_iload hx hb dX10_doMake_56 (lv_at hl 2 rfl) ?_
      have go_ := g
      refine g_iast hx hb hK g ma_20 ka_20 (by decide) rfl (in_bd b_16 (by decide)) b_14 (by decide) dX10_doMake_58 (fun f H locs hM_21 g => ?_)
      have hG_22 := cOK.frame hM_21 go_.2.2.2.1 mq0_ kq0_ (by decide) (by decide) hG_13
      refine lv_aload_n hx hb dX10_doMake_59 rfl (lv_at hl 5 rfl) ?_
      refine g_getr (K := 127) (C := RX4) (T := TX4) (N := 17) hx hb hts (mc_ inX4) hown hK g ma2_ ka2_ (by decide) rfl 8 (by decide) rfl (hts _ (List.mem_cons_of_mem _ t_857)) (fun _ h9 => h9) rfl dX10_doMake_60 (fun a_23 ma_23 ka_23 g => ?_)
      refine lv_iload hx hb dX10_doMake_63 (lv_at hl 1 rfl) ?_
      refine lv_iload hx hb dX10_doMake_65 (lv_at hl 0 rfl) ?_
      have go_ := g
      refine g_iast hx hb hK g ma_23 ka_23 (by decide) rfl (in_bd b_16 (by decide)) (bdT x_19) (by decide) dX10_doMake_67 (fun f H locs hM_24 g => ?_)
      have hG_25 := cOK.frame hM_24 go_.2.2.2.1 mq0_ kq0_ (by decide) (by decide) hG_22
      refine lv_aload_n hx hb dX10_doMake_68 rfl (lv_at hl 3 rfl) ?_
      refine g_getk (C := RX10) (T := TX10) (N := 10) hx hb hts (mc_ inX10) hown hK g rfl 0 (by decide) rfl (hts _ (List.mem_cons_of_mem _ t_912)) (fun _ h9 => h9) 7 rfl dX10_doMake_69 ?_
      refine g_getk (C := RX7) (T := TX7) (N := 19) hx hb hts (mc_ inX7) hown hK g rfl 0 (by decide) rfl (hts _ (List.mem_cons_of_mem _ t_624)) (fun _ h9 => h9) 3 rfl dX10_doMake_72 ?_
      refine lv_iload hx hb dX10_doMake_75 (lv_at hl 2 rfl) ?_
      refine g_aald hx hb hK g ma_17 ka_17 (by decide) rfl (by decide) (in_bd b_14 (by decide)) dX10_doMake_77 (fun a_26 ma_26 ua_26 wa_26 => ?_)
      have ka_26 : kd a_26 = 9 := by omega
      refine lv_aload_n hx hb dX10_doMake_78 rfl (lv_at hl 5 rfl) ?_
      refine g_getr (K := 128) (C := RX4) (T := TX4) (N := 17) hx hb hts (mc_ inX4) hown hK g ma2_ ka2_ (by decide) rfl 9 (by decide) rfl (hts _ (List.mem_cons_of_mem _ t_860)) (fun _ h9 => h9) rfl dX10_doMake_79 (fun a_27 ma_27 ka_27 g => ?_)
      refine lv_iload hx hb dX10_doMake_82 (lv_at hl 1 rfl) ?_
      refine g_aald hx hb hK g ma_27 ka_27 (by decide) rfl (by decide) (in_bd b_16 (by decide)) dX10_doMake_84 (fun a_28 ma_28 ua_28 wa_28 => ?_)
      have ka_28 : kd a_28 = 101 := by omega
      have go_ := g
      refine g_callv (va_runV (As := [.ref a_28]) (rest := []) ⟨hx, hb, hml, hown, hts⟩ (r_X9_fillNew l dC dI L kd tys f H.size g.2.2.2.1 a_26 ma_26 ka_26 a_28 ma_28 ka_28) (cwV 1 hts (gV_ t_1535 t_1536 t_1537 t_192 t_1538) rfl rfl rfl (by decide +kernel) ⟨(Nat.le_of_ble_eq_true rfl), (Nat.le_of_ble_eq_true rfl)⟩) (pre3V g hK ma_26 ka_26 (by decide) (q := (RX9, TX9, 13)) rfl) rfl rfl hl.1 rfl (lv_room (Nat.le_of_ble_eq_true rfl)) dX10_doMake_85 ⟨(Nat.le_of_ble_eq_true rfl), (Nat.le_of_ble_eq_true rfl)⟩) g hK (by decide) (by decide) (fx' := [(4, 9, a2_, .ref a_27), (4, 8, a2_, .ref a_23), (4, 7, a2_, .ref a_20), (9, 12, a_18, .int x_19), (7, 0, q0_, .ref a_17), (7, 1, q0_, .int x_9), (4, 6, a2_, .int x_4), (3, 3, a1_, .ref a_1), (10, 0, a0_, .ref q0_), (4, 14, a2_, .int y0_), (3, 0, a1_, .int y1_), (4, 4, a2_, .int y2_), (4, 3, a2_, .int y3_), (4, 2, a2_, .int y4_), (4, 1, a2_, .int y5_), (4, 0, a2_, .int y6_)]) rfl (fun fr_29 H locs hp hMr_29 g => ?_)
      have hG_30 := cOK.frame hMr_29 go_.2.2.2.1 mq0_ kq0_ (by decide) (by decide) hG_25
      refine lv_aload_n hx hb dX10_doMake_88 rfl (lv_at hl 3 rfl) ?_
      refine g_getk (C := RX10) (T := TX10) (N := 10) hx hb hts (mc_ inX10) hown hK g rfl 0 (by decide) rfl (hts _ (List.mem_cons_of_mem _ t_912)) (fun _ h9 => h9) 8 rfl dX10_doMake_89 ?_
      refine lv_iload hx hb dX10_doMake_92 (lv_at hl 0 rfl) ?_
      have go_ := g
      refine g_calli (va_runV (As := [.int x_19]) (rest := []) ⟨hx, hb, hml, hown, hts⟩ (r_X7_hasClass l dC dI L kd tys fr_29 H.size g.2.2.2.1 q0_ mq0_ kq0_ x_19) (cwV 1 hts (gV_ t_1534 t_1281 t_1282 t_191 t_1283) rfl rfl rfl (by decide +kernel) ⟨(Nat.le_of_ble_eq_true rfl), (Nat.le_of_ble_eq_true rfl)⟩) (pre3V g hK mq0_ kq0_ (by decide) (q := (RX7, TX7, 19)) rfl) rfl rfl hl.1 rfl (lv_room (Nat.le_of_ble_eq_true rfl)) dX10_doMake_94 ⟨(Nat.le_of_ble_eq_true rfl), (Nat.le_of_ble_eq_true rfl)⟩) g hK (by decide) (by decide) (fx' := [(4, 9, a2_, .ref a_27), (4, 8, a2_, .ref a_23), (4, 7, a2_, .ref a_20), (9, 12, a_18, .int x_19), (7, 0, q0_, .ref a_17), (7, 1, q0_, .int x_9), (4, 6, a2_, .int x_4), (3, 3, a1_, .ref a_1), (10, 0, a0_, .ref q0_), (4, 14, a2_, .int y0_), (3, 0, a1_, .int y1_), (4, 4, a2_, .int y2_), (4, 3, a2_, .int y3_), (4, 2, a2_, .int y4_), (4, 1, a2_, .int y5_), (4, 0, a2_, .int y6_)]) rfl (fun r_31 fr_31 H locs hp hMr_31 g => ?_)
      rcases hp with ⟨h_32, -⟩ | ⟨h_33, h_34, x_35, h_36, hF_37⟩
      · have hG_38 := cOK.frame hMr_31 go_.2.2.2.1 mq0_ kq0_ (by decide) (by decide) hG_30
        obtain rfl : r_31 = 0 := h_32
        refine lv_if_eq (tgt := 120) hx hb dX10_doMake_97 (by decide) (fun c_ => ?_) (fun c_ => absurd (by decide) c_)
        refine lv_aload_n hx hb dX10_doMake_120 rfl (lv_at hl 5 rfl) ?_
        refine lv_dup hx hb dX10_doMake_121 rfl ?_
        refine g_getk (C := RX4) (T := TX4) (N := 17) hx hb hts (mc_ inX4) hown hK g rfl 6 (by decide) rfl (hts _ (List.mem_cons_of_mem _ t_851)) (fun _ h9 => h9) 6 rfl dX10_doMake_122 ?_
        refine lv_iconst (v := 1) hx hb dX10_doMake_125 (by decide) ?_
        have kb_1 : bd 1 1 (1 : Int32) := ⟨by decide, by decide⟩
        refine lv_iadd hx hb dX10_doMake_126 ?_
        refine lv_topi (fun y_39 ey_39 => ?_)
        have ty_39 := add_bd ey_39 b_16 kb_1 (by decide)
        have b_40 : bd 1 3 y_39 := add_rg ty_39 b_16 kb_1 (by decide)
        have go_ := g
        refine g_put (C := RX4) (T := TX4) (N := 17) hx hb hts (mc_ inX4) tyX4 tyX4_ok nmX4 hown hK g ma2_ ka2_ (by decide) rfl 6 (by decide) (hts _ (List.mem_cons_of_mem _ t_851)) (fun _ h9 => h9) rfl rfl (okV_i (bd_sub b_40 (by decide))) rfl rfl (by decide) (Or.inr (Or.inl (by decide))) (fx' := [(4, 9, a2_, .ref a_27), (4, 8, a2_, .ref a_23), (4, 7, a2_, .ref a_20), (9, 12, a_18, .int x_19), (7, 0, q0_, .ref a_17), (7, 1, q0_, .int x_9), (3, 3, a1_, .ref a_1), (10, 0, a0_, .ref q0_), (4, 14, a2_, .int y0_), (3, 0, a1_, .int y1_), (4, 4, a2_, .int y2_), (4, 3, a2_, .int y3_), (4, 2, a2_, .int y4_), (4, 1, a2_, .int y5_), (4, 0, a2_, .int y6_)]) rfl dX10_doMake_127 (fun f H locs hM_41 g => ?_)
        have hG_42 := cOK.frame hM_41 go_.2.2.2.1 mq0_ kq0_ (by decide) (by decide) hG_38
        refine lv_aload_n hx hb dX10_doMake_130 rfl (lv_at hl 5 rfl) ?_
        refine g_getr (K := 131) (C := RX4) (T := TX4) (N := 17) hx hb hts (mc_ inX4) hown hK g ma2_ ka2_ (by decide) rfl 13 (by decide) rfl (hts _ (List.mem_cons_of_mem _ t_871)) (fun _ h9 => h9) rfl dX10_doMake_131 (fun a_43 ma_43 ka_43 g => ?_)
        refine lv_iload_n hx hb dX10_doMake_134 rfl (lv_at hl 6 rfl) ?_
        refine lv_iconst (v := 1) hx hb dX10_doMake_135 (by decide) ?_
        have go_ := g
        refine g_iast hx hb hK g ma_43 ka_43 (by decide) rfl (in_bd bx3_ (by decide)) (bd_sub kb_1 (by decide)) (by decide) dX10_doMake_136 (fun f H locs hM_44 g => ?_)
        have hG_45 := cOK.frame hM_44 go_.2.2.2.1 mq0_ kq0_ (by decide) (by decide) hG_42
        refine lv_aload_n hx hb dX10_doMake_137 rfl (lv_at hl 3 rfl) ?_
        refine lv_aload_n hx hb dX10_doMake_138 rfl (lv_at hl 5 rfl) ?_
        refine lv_iload hx hb dX10_doMake_139 (lv_at hl 1 rfl) ?_
        obtain ⟨a_46, ma_46, ka_46, g⟩ := g_factr (K := 1) g ma0_ ka0_ (by decide) 1 rfl
        have go_ := g
        refine g_callv (va_runV (As := [.ref a2_, .int x_4]) (rest := []) ⟨hx, hb, hml, hown, hts⟩ (r_X10_askKept_7 l dC dI L kd tys f H.size g.2.2.2.1 a0_ ma0_ ka0_ a2_ ma2_ ka2_ x_4 b_16 q0_ mq0_ kq0_ a_46 ma_46 ka_46 y_39 b_40 x_9 h_10 y0_ by0_ y2_ by2_ y3_ by3_ y4_ by4_ y5_ by5_ y6_ by6_ hG_45 (g.fcts [10, 0, 2, 8, 11, 13, 14, 15, 16, 17] rfl)) (cwV 2 hts (gV_ t_1539 t_1541 t_56 t_194 t_1542) rfl rfl rfl (by decide +kernel) ⟨(Nat.le_of_ble_eq_true rfl), (Nat.le_of_ble_eq_true rfl)⟩) (pre3V g hK ma0_ ka0_ (by decide) (q := (RX10, TX10, 10)) rfl) rfl rfl hl.1 rfl (lv_room (Nat.le_of_ble_eq_true rfl)) dX10_doMake_141 ⟨(Nat.le_of_ble_eq_true rfl), (Nat.le_of_ble_eq_true rfl)⟩) g hK (by decide) (by decide) (fx' := [(10, 1, a0_, .ref a_46), (4, 13, a2_, .ref a_43), (4, 6, a2_, .int y_39), (4, 9, a2_, .ref a_27), (4, 8, a2_, .ref a_23), (4, 7, a2_, .ref a_20), (9, 12, a_18, .int x_19), (7, 0, q0_, .ref a_17), (7, 1, q0_, .int x_9), (3, 3, a1_, .ref a_1), (10, 0, a0_, .ref q0_), (4, 14, a2_, .int y0_), (3, 0, a1_, .int y1_), (4, 4, a2_, .int y2_), (4, 3, a2_, .int y3_)]) rfl (fun fr_47 H locs hp hMr_47 g => ?_)
        obtain ⟨a_48, ⟨ma_48, ka_48⟩, a_49, ⟨ma_49, ka_49⟩, a_50, ⟨ma_50, ka_50⟩, a_51, ⟨ma_51, ka_51⟩, x_52, h_53, x_54, h_55, x_56, h_57, hF_58⟩ := hp
        have hG_59 := cOK.frame hMr_47 go_.2.2.2.1 mq0_ kq0_ (by decide) (by decide) hG_45
        have g := g.more hF_58
        subst hQ
        exact W.vret hx hb hr (fun t ht hW => ⟨⟨_, rfl, ⟨x_52, h_53, x_54, h_55, x_56, h_57, (g.fcts [5, 6, 7] rfl)⟩, q3_of g hK ht hW⟩, g.2.2.1.F ht⟩) g.2.2.1.2.2 dX10_doMake_144
      · have hG_60 := cOK.frame hMr_31 go_.2.2.2.1 mq0_ kq0_ (by decide) (by decide) hG_30
        obtain rfl : r_31 = 1 := h_33
        have b_61 : bd 0 7 x_19 := eqX rfl (bdT x_19) h_34 (by decide)
        have g := g.more hF_37
        have e_62 := fx_same g 6 0 rfl rfl
        have g := g.sub (fx' := [(4, 9, a2_, .ref a_27), (4, 8, a2_, .ref a_23), (4, 7, a2_, .ref a_20), (9, 12, a_18, .int x_19), (7, 0, q0_, .ref a_17), (7, 1, q0_, .int x_9), (4, 6, a2_, .int x_4), (3, 3, a1_, .ref a_1), (10, 0, a0_, .ref q0_), (4, 14, a2_, .int y0_), (3, 0, a1_, .int y1_), (4, 4, a2_, .int y2_), (4, 3, a2_, .int y3_), (4, 2, a2_, .int y4_), (4, 1, a2_, .int y5_), (4, 0, a2_, .int y6_)]) [1, 2, 3, 4, 5, 6, 7, 8, 9, 10, 11, 12, 13, 14, 15, 16] rfl
        refine lv_if_eq (tgt := 120) hx hb dX10_doMake_97 (by decide) (fun c_ => absurd c_ (by decide)) (fun c_ => ?_)
        refine lv_aload_n hx hb dX10_doMake_100 rfl (lv_at hl 3 rfl) ?_
        refine g_getk (C := RX10) (T := TX10) (N := 10) hx hb hts (mc_ inX10) hown hK g rfl 0 (by decide) rfl (hts _ (List.mem_cons_of_mem _ t_912)) (fun _ h9 => h9) 8 rfl dX10_doMake_101 ?_
        refine g_getk (C := RX7) (T := TX7) (N := 19) hx hb hts (mc_ inX7) hown hK g rfl 0 (by decide) rfl (hts _ (List.mem_cons_of_mem _ t_624)) (fun _ h9 => h9) 4 rfl dX10_doMake_104 ?_
        refine lv_iload hx hb dX10_doMake_107 (lv_at hl 0 rfl) ?_
        refine g_aald hx hb hK g ma_17 ka_17 (by decide) rfl (by decide) (in_bd b_61 (by decide)) dX10_doMake_109 (fun a_63 ma_63 ua_63 wa_63 => ?_)
        have ka_63 : kd a_63 = 9 := by omega
        refine lv_aload_n hx hb dX10_doMake_110 rfl (lv_at hl 5 rfl) ?_
        refine g_getr (K := 129) (C := RX4) (T := TX4) (N := 17) hx hb hts (mc_ inX4) hown hK g ma2_ ka2_ (by decide) rfl 10 (by decide) rfl (hts _ (List.mem_cons_of_mem _ t_863)) (fun _ h9 => h9) rfl dX10_doMake_111 (fun a_64 ma_64 ka_64 g => ?_)
        refine lv_iload hx hb dX10_doMake_114 (lv_at hl 1 rfl) ?_
        refine g_aald hx hb hK g ma_64 ka_64 (by decide) rfl (by decide) (in_bd b_16 (by decide)) dX10_doMake_116 (fun a_65 ma_65 ua_65 wa_65 => ?_)
        have ka_65 : kd a_65 = 101 := by omega
        have go_ := g
        refine g_callv (va_runV (As := [.ref a_65]) (rest := []) ⟨hx, hb, hml, hown, hts⟩ (r_X9_fillNew l dC dI L kd tys fr_31 H.size g.2.2.2.1 a_63 ma_63 ka_63 a_65 ma_65 ka_65) (cwV 1 hts (gV_ t_1535 t_1536 t_1537 t_192 t_1538) rfl rfl rfl (by decide +kernel) ⟨(Nat.le_of_ble_eq_true rfl), (Nat.le_of_ble_eq_true rfl)⟩) (pre3V g hK ma_63 ka_63 (by decide) (q := (RX9, TX9, 13)) rfl) rfl rfl hl.1 rfl (lv_room (Nat.le_of_ble_eq_true rfl)) dX10_doMake_117 ⟨(Nat.le_of_ble_eq_true rfl), (Nat.le_of_ble_eq_true rfl)⟩) g hK (by decide) (by decide) (fx' := [(4, 10, a2_, .ref a_64), (4, 9, a2_, .ref a_27), (4, 8, a2_, .ref a_23), (4, 7, a2_, .ref a_20), (9, 12, a_18, .int x_19), (7, 0, q0_, .ref a_17), (7, 1, q0_, .int x_9), (4, 6, a2_, .int x_4), (3, 3, a1_, .ref a_1), (10, 0, a0_, .ref q0_), (4, 14, a2_, .int y0_), (3, 0, a1_, .int y1_), (4, 4, a2_, .int y2_), (4, 3, a2_, .int y3_), (4, 2, a2_, .int y4_), (4, 1, a2_, .int y5_), (4, 0, a2_, .int y6_)]) rfl (fun fr_66 H locs hp hMr_66 g => ?_)
        have hG_67 := cOK.frame hMr_66 go_.2.2.2.1 mq0_ kq0_ (by decide) (by decide) hG_60
        refine lv_aload_n hx hb dX10_doMake_120 rfl (lv_at hl 5 rfl) ?_
        refine lv_dup hx hb dX10_doMake_121 rfl ?_
        refine g_getk (C := RX4) (T := TX4) (N := 17) hx hb hts (mc_ inX4) hown hK g rfl 6 (by decide) rfl (hts _ (List.mem_cons_of_mem _ t_851)) (fun _ h9 => h9) 7 rfl dX10_doMake_122 ?_
        refine lv_iconst (v := 1) hx hb dX10_doMake_125 (by decide) ?_
        have kb_1 : bd 1 1 (1 : Int32) := ⟨by decide, by decide⟩
        refine lv_iadd hx hb dX10_doMake_126 ?_
        refine lv_topi (fun y_68 ey_68 => ?_)
        have ty_68 := add_bd ey_68 b_16 kb_1 (by decide)
        have b_69 : bd 1 3 y_68 := add_rg ty_68 b_16 kb_1 (by decide)
        have go_ := g
        refine g_put (C := RX4) (T := TX4) (N := 17) hx hb hts (mc_ inX4) tyX4 tyX4_ok nmX4 hown hK g ma2_ ka2_ (by decide) rfl 6 (by decide) (hts _ (List.mem_cons_of_mem _ t_851)) (fun _ h9 => h9) rfl rfl (okV_i (bd_sub b_69 (by decide))) rfl rfl (by decide) (Or.inr (Or.inl (by decide))) (fx' := [(4, 10, a2_, .ref a_64), (4, 9, a2_, .ref a_27), (4, 8, a2_, .ref a_23), (4, 7, a2_, .ref a_20), (9, 12, a_18, .int x_19), (7, 0, q0_, .ref a_17), (7, 1, q0_, .int x_9), (3, 3, a1_, .ref a_1), (10, 0, a0_, .ref q0_), (4, 14, a2_, .int y0_), (3, 0, a1_, .int y1_), (4, 4, a2_, .int y2_), (4, 3, a2_, .int y3_), (4, 2, a2_, .int y4_), (4, 1, a2_, .int y5_), (4, 0, a2_, .int y6_)]) rfl dX10_doMake_127 (fun f H locs hM_70 g => ?_)
        have hG_71 := cOK.frame hM_70 go_.2.2.2.1 mq0_ kq0_ (by decide) (by decide) hG_67
        refine lv_aload_n hx hb dX10_doMake_130 rfl (lv_at hl 5 rfl) ?_
        refine g_getr (K := 131) (C := RX4) (T := TX4) (N := 17) hx hb hts (mc_ inX4) hown hK g ma2_ ka2_ (by decide) rfl 13 (by decide) rfl (hts _ (List.mem_cons_of_mem _ t_871)) (fun _ h9 => h9) rfl dX10_doMake_131 (fun a_72 ma_72 ka_72 g => ?_)
        refine lv_iload_n hx hb dX10_doMake_134 rfl (lv_at hl 6 rfl) ?_
        refine lv_iconst (v := 1) hx hb dX10_doMake_135 (by decide) ?_
        have go_ := g
        refine g_iast hx hb hK g ma_72 ka_72 (by decide) rfl (in_bd bx3_ (by decide)) (bd_sub kb_1 (by decide)) (by decide) dX10_doMake_136 (fun f H locs hM_73 g => ?_)
        have hG_74 := cOK.frame hM_73 go_.2.2.2.1 mq0_ kq0_ (by decide) (by decide) hG_71
        refine lv_aload_n hx hb dX10_doMake_137 rfl (lv_at hl 3 rfl) ?_
        refine lv_aload_n hx hb dX10_doMake_138 rfl (lv_at hl 5 rfl) ?_
        refine lv_iload hx hb dX10_doMake_139 (lv_at hl 1 rfl) ?_
        obtain ⟨a_75, ma_75, ka_75, g⟩ := g_factr (K := 1) g ma0_ ka0_ (by decide) 1 rfl
        have go_ := g
        refine g_callv (va_runV (As := [.ref a2_, .int x_4]) (rest := []) ⟨hx, hb, hml, hown, hts⟩ (r_X10_askKept_7 l dC dI L kd tys f H.size g.2.2.2.1 a0_ ma0_ ka0_ a2_ ma2_ ka2_ x_4 b_16 q0_ mq0_ kq0_ a_75 ma_75 ka_75 y_68 b_69 x_9 h_10 y0_ by0_ y2_ by2_ y3_ by3_ y4_ by4_ y5_ by5_ y6_ by6_ hG_74 (g.fcts [11, 0, 2, 9, 12, 14, 15, 16, 17, 18] rfl)) (cwV 2 hts (gV_ t_1539 t_1541 t_56 t_194 t_1542) rfl rfl rfl (by decide +kernel) ⟨(Nat.le_of_ble_eq_true rfl), (Nat.le_of_ble_eq_true rfl)⟩) (pre3V g hK ma0_ ka0_ (by decide) (q := (RX10, TX10, 10)) rfl) rfl rfl hl.1 rfl (lv_room (Nat.le_of_ble_eq_true rfl)) dX10_doMake_141 ⟨(Nat.le_of_ble_eq_true rfl), (Nat.le_of_ble_eq_true rfl)⟩) g hK (by decide) (by decide) (fx' := [(10, 1, a0_, .ref a_75), (4, 13, a2_, .ref a_72), (4, 6, a2_, .int y_68), (4, 10, a2_, .ref a_64), (4, 9, a2_, .ref a_27), (4, 8, a2_, .ref a_23), (4, 7, a2_, .ref a_20), (9, 12, a_18, .int x_19), (7, 0, q0_, .ref a_17), (7, 1, q0_, .int x_9), (3, 3, a1_, .ref a_1), (10, 0, a0_, .ref q0_), (4, 14, a2_, .int y0_), (3, 0, a1_, .int y1_), (4, 4, a2_, .int y2_), (4, 3, a2_, .int y3_)]) rfl (fun fr_76 H locs hp hMr_76 g => ?_)
        obtain ⟨a_77, ⟨ma_77, ka_77⟩, a_78, ⟨ma_78, ka_78⟩, a_79, ⟨ma_79, ka_79⟩, a_80, ⟨ma_80, ka_80⟩, x_81, h_82, x_83, h_84, x_85, h_86, hF_87⟩ := hp
        have hG_88 := cOK.frame hMr_76 go_.2.2.2.1 mq0_ kq0_ (by decide) (by decide) hG_74
        have g := g.more hF_87
        subst hQ
        exact W.vret hx hb hr (fun t ht hW => ⟨⟨_, rfl, ⟨x_81, h_82, x_83, h_84, x_85, h_86, (g.fcts [5, 6, 7] rfl)⟩, q3_of g hK ht hW⟩, g.2.2.1.F ht⟩) g.2.2.1.2.2 dX10_doMake_144
    · have fc_15 := nlt_f c_15
      have b_89 : bd 3 3 x_4 := leR fc_15 kb_3 bx_4 (by decide)
      subst hQ
      exact W.vret hx hb hr (fun t ht hW => ⟨⟨_, rfl, ⟨y4_, by4_, y5_, by5_, y6_, (bd_sub by6_ (by decide)), (g.fcts [8, 9, 10] rfl)⟩, q3_of g hK ht hW⟩, g.2.2.1.F ht⟩) g.2.2.1.2.2 dX10_doMake_34
set_option maxHeartbeats 4000000 in
set_option maxRecDepth 100000 in
theorem r_X10_runThrough (l : Launch) (dC : Nat → ClassId) (dI : Nat → Nat → Nat) (L : List Nat) (kd : Nat → Nat) (tys : List (ClassId × FieldType)) (f0 : Nat → va_E) (sz : Nat) (hWT : WT L kd tys f0) (a0_ : Nat) (ma0_ : a0_ ∈ L) (ka0_ : kd a0_ = 10) (a1_ : Nat) (ma1_ : a1_ ∈ L) (ka1_ : kd a1_ = 3) (a2_ : Nat) (ma2_ : a2_ ∈ L) (ka2_ : kd a2_ = 4) (q0_ : Nat) (mq0_ : q0_ ∈ L) (kq0_ : kd q0_ = 7) (hGcq0_ : cOK f0 q0_) (hfx : Fs L kd f0 [(10, 0, a0_, .ref q0_)]) : Met l yX10_runThrough (.code yX10_runThrough cX10_runThrough 4 none :: lw_g) ({ frames := 5, cells := 0, slots := 0, locals := 132 }) (va_Pc [.ref a0_, .ref a1_, .ref a2_] (P3 (dC, dI) L tys f0 sz)) (va_Qv (fun (f : Nat → va_E) => (∃ z0_ : Int32, bd 0 9 z0_ ∧ ∃ z1_ : Int32, bd (-1) 2147483647 z1_ ∧ ∃ z2_ : Int32, bd (-1) 2147483647 z2_ ∧ ∃ z3_ : Int32, bd (-1) 2147483647 z3_ ∧ ∃ z4_ : Int32, bd (-1) 2147483647 z4_ ∧ ∃ z5_ : Int32, bd (-1) 8 z5_ ∧ Fs L kd f [(4, 14, a2_, .int z0_), (4, 4, a2_, .int z1_), (4, 3, a2_, .int z2_), (4, 2, a2_, .int z3_), (4, 1, a2_, .int z4_), (4, 0, a2_, .int z5_)])) (Q3 (dC, dI) L kd tys [(1, 0), (1, 1), (1, 2), (1, 3), (1, 4), (1, 5), (1, 6), (1, 8), (1, 11), (1, 12), (1, 13), (1, 14), (1, 15), (1, 16), (1, 17), (4, 0), (4, 1), (4, 2), (4, 3), (4, 4), (4, 5), (4, 6), (4, 14), (4, 15), (4, 16)] [100, 101, 102, 116, 117, 126, 127, 130, 131, 146] f0 sz) (pA L sz)) 0 0 (pA L sz) := by
  refine Met.ofW (cc := cX10_runThrough) (maxL := 4) (ret := none) (by decide) rfl ?_
  intro p e s m args below meth c s₁ B hml hv
  obtain ⟨rfl, hsz, hP, hK, hD0⟩ := hv
  have hx := B.exec
  have hb := B.bytes
  have hr := B.returns
  have hts := atoms_spec (ws := (.code yX10_runThrough cX10_runThrough 4 none :: lw_g)) B.pre
  have hown : s.vm.findClass RX10 = some m.cls := findClass_of_methodNamed B.named
  have hlocks := B.notSynchronized
  subst hsz
  have g : G3 (dC, dI) L kd tys s f0 [(1, 0), (1, 1), (1, 2), (1, 3), (1, 4), (1, 5), (1, 6), (1, 8), (1, 11), (1, 12), (1, 13), (1, 14), (1, 15), (1, 16), (1, 17), (4, 0), (4, 1), (4, 2), (4, 3), (4, 4), (4, 5), (4, 6), (4, 14), (4, 15), (4, 16)] [100, 101, 102, 116, 117, 126, 127, 130, 131, 146] f0 s.heap [] [(10, 0, a0_, .ref q0_)] := G3.start hP hD0 hWT hfx
  have hl := lv_entry ([.ref a0_, .ref a1_, .ref a2_]) (n := 4) (Nat.le_of_ble_eq_true rfl)
  rw [lg_entry_eq]
  generalize (lg_sl ([.ref a0_, .ref a1_, .ref a2_]) ++ List.replicate (4 - (lg_sl ([.ref a0_, .ref a1_, .ref a2_])).length) Slot.unset).toArray = ls at hl ⊢
  have hl : lv_has ls 4 [(0, .ref a0_), (1, .ref a1_), (2, .ref a2_)] := hl
  refine W_q (fun Q hQ => ?_)
  refine lv_aload_n hx hb dX10_runThrough_0 rfl (lv_at hl 2 rfl) ?_
  have go_ := g
  refine g_callv (va_runV (As := []) (rest := []) ⟨hx, hb, hml, hown, hts⟩ (r_X4_wipe l dC dI L kd tys f0 s.heap.size g.2.2.2.1 a2_ ma2_ ka2_) (cwV 0 hts (gV_ t_1426 t_1427 t_1428 t_197 t_1429) rfl rfl rfl (by decide +kernel) ⟨(Nat.le_of_ble_eq_true rfl), (Nat.le_of_ble_eq_true rfl)⟩) (pre3V g hK ma2_ ka2_ (by decide) (q := (RX4, TX4, 17)) rfl) rfl rfl hl.1 rfl (lv_room (Nat.le_of_ble_eq_true rfl)) dX10_runThrough_1 ⟨(Nat.le_of_ble_eq_true rfl), (Nat.le_of_ble_eq_true rfl)⟩) g hK (by decide) (by decide) (fx' := [(10, 0, a0_, .ref q0_)]) rfl (fun fr_1 H locs hp hMr_1 g => ?_)
  have hF_2 := hp
  have hG_3 := cOK.frame hMr_1 go_.2.2.2.1 mq0_ kq0_ (by decide) (by decide) hGcq0_
  have g := g.more hF_2
  refine lv_iconst (v := 0) hx hb dX10_runThrough_4 (by decide) ?_
  refine lv_istore_n (lv' := [(3, .int 0), (0, .ref a0_), (1, .ref a1_), (2, .ref a2_)]) hx hb dX10_runThrough_5 rfl hl (by decide) rfl (fun ls hl => ?_)
  have loop_4 : ∀ (n : Nat) (v6_3 : Int32) (w6_4_14_a2_ : Int32) (w6_4_4_a2_ : Int32) (w6_4_3_a2_ : Int32) (w6_4_2_a2_ : Int32) (w6_4_1_a2_ : Int32) (w6_4_0_a2_ : Int32), bd 0 10 v6_3 → bd 0 9 w6_4_14_a2_ → bd (-1) 2147483647 w6_4_4_a2_ → bd (-1) 2147483647 w6_4_3_a2_ → bd (-1) 2147483647 w6_4_2_a2_ → bd (-1) 2147483647 w6_4_1_a2_ → bd (-1) 8 w6_4_0_a2_ → (10 - v6_3.toInt < (n : Int)) → ∀ (f : Nat → va_E) (H : Heap) (locs : List Loc) (ls : Array Slot), G3 (dC, dI) L kd tys s f0 [(1, 0), (1, 1), (1, 2), (1, 3), (1, 4), (1, 5), (1, 6), (1, 8), (1, 11), (1, 12), (1, 13), (1, 14), (1, 15), (1, 16), (1, 17), (4, 0), (4, 1), (4, 2), (4, 3), (4, 4), (4, 5), (4, 6), (4, 14), (4, 15), (4, 16)] [100, 101, 102, 116, 117, 126, 127, 130, 131, 146] f H locs [(4, 14, a2_, .int w6_4_14_a2_), (4, 4, a2_, .int w6_4_4_a2_), (4, 3, a2_, .int w6_4_3_a2_), (4, 2, a2_, .int w6_4_2_a2_), (4, 1, a2_, .int w6_4_1_a2_), (4, 0, a2_, .int w6_4_0_a2_), (10, 0, a0_, .ref q0_)] → cOK f q0_ → lv_has ls 4 [(3, .int v6_3), (0, .ref a0_), (1, .ref a1_), (2, .ref a2_)] → W p l e ({ frames := 5, cells := 0, slots := 0, locals := 132 } : Room) s m [.ref a0_, .ref a1_, .ref a2_].toArray below meth c H locs 0 0 Q (F0 m 6 ls []) := by
    intro n6
    induction n6 with
    | zero =>
      intro v6_3 w6_4_14_a2_ w6_4_4_a2_ w6_4_3_a2_ w6_4_2_a2_ w6_4_1_a2_ w6_4_0_a2_ bv6_3 bw6_4_14_a2_ bw6_4_4_a2_ bw6_4_3_a2_ bw6_4_2_a2_ bw6_4_1_a2_ bw6_4_0_a2_ hm6 f H locs ls g hG6_c_q0_ hl
      exact absurd hm6 (by have h9_v6_3 := bv6_3; unfold bd at h9_v6_3; have h9_w6_4_14_a2_ := bw6_4_14_a2_; unfold bd at h9_w6_4_14_a2_; have h9_w6_4_4_a2_ := bw6_4_4_a2_; unfold bd at h9_w6_4_4_a2_; have h9_w6_4_3_a2_ := bw6_4_3_a2_; unfold bd at h9_w6_4_3_a2_; have h9_w6_4_2_a2_ := bw6_4_2_a2_; unfold bd at h9_w6_4_2_a2_; have h9_w6_4_1_a2_ := bw6_4_1_a2_; unfold bd at h9_w6_4_1_a2_; have h9_w6_4_0_a2_ := bw6_4_0_a2_; unfold bd at h9_w6_4_0_a2_; omega)
    | succ n6 ih6 =>
      intro v6_3 w6_4_14_a2_ w6_4_4_a2_ w6_4_3_a2_ w6_4_2_a2_ w6_4_1_a2_ w6_4_0_a2_ bv6_3 bw6_4_14_a2_ bw6_4_4_a2_ bw6_4_3_a2_ bw6_4_2_a2_ bw6_4_1_a2_ bw6_4_0_a2_ hm6 f H locs ls g hG6_c_q0_ hl
      refine lv_iload_n hx hb dX10_runThrough_6 rfl (lv_at hl 0 rfl) ?_
      refine lv_aload_n hx hb dX10_runThrough_7 rfl (lv_at hl 2 rfl) ?_
      refine g_geti (C := RX3) (T := TX3) (N := 6) hx hb hts (mc_ inX3) hown hK g ma1_ ka1_ (by decide) rfl 0 (by decide) rfl (hts _ (List.mem_cons_of_mem _ t_802)) (fun _ h9 => h9) rfl dX10_runThrough_8 (fun x_5 bx_5 g => ?_)
      refine lv_icmp_ge (tgt := 59) hx hb dX10_runThrough_11 (by decide) (fun c_6 => ?_) (fun c_6 => ?_)
      · have fc_6 := le_f c_6
        subst hQ
        exact W.vret hx hb hr (fun t ht hW => ⟨⟨_, rfl, ⟨w6_4_14_a2_, bw6_4_14_a2_, w6_4_4_a2_, bw6_4_4_a2_, w6_4_3_a2_, bw6_4_3_a2_, w6_4_2_a2_, bw6_4_2_a2_, w6_4_1_a2_, bw6_4_1_a2_, w6_4_0_a2_, bw6_4_0_a2_, (g.fcts [1, 2, 3, 4, 5, 6] rfl)⟩, q3_of g hK ht hW⟩, g.2.2.1.F ht⟩) g.2.2.1.2.2 dX10_runThrough_59
      · have fc_6 := nle_f c_6
        have b_7 : bd 0 9 v6_3 := ltL fc_6 bv6_3 bx_5 (by decide)
        have b_8 : bd 1 10 x_5 := ltR fc_6 bv6_3 bx_5 (by decide)
        refine lv_aload_n hx hb dX10_runThrough_14 rfl (lv_at hl 3 rfl) ?_
        refine g_getk (C := RX4) (T := TX4) (N := 17) hx hb hts (mc_ inX4) hown hK g rfl 0 (by decide) rfl (hts _ (List.mem_cons_of_mem _ t_837)) (fun _ h9 => h9) 6 rfl dX10_runThrough_15 ?_
        have kb_0 : bd 0 0 (0 : Int32) := ⟨by decide, by decide⟩
        refine lv_if_ne (tgt := 59) hx hb dX10_runThrough_18 (by decide) (fun c_9 => ?_) (fun c_9 => ?_)
        · have fc_9 := neq_f c_9
          subst hQ
          exact W.vret hx hb hr (fun t ht hW => ⟨⟨_, rfl, ⟨w6_4_14_a2_, bw6_4_14_a2_, w6_4_4_a2_, bw6_4_4_a2_, w6_4_3_a2_, bw6_4_3_a2_, w6_4_2_a2_, bw6_4_2_a2_, w6_4_1_a2_, bw6_4_1_a2_, w6_4_0_a2_, bw6_4_0_a2_, (g.fcts [1, 2, 3, 4, 5, 6] rfl)⟩, q3_of g hK ht hW⟩, g.2.2.1.F ht⟩) g.2.2.1.2.2 dX10_runThrough_59
        · have fc_9 := eq_f c_9
          have b_10 : bd 0 0 w6_4_0_a2_ := eqX fc_9 bw6_4_0_a2_ kb_0 (by decide)
          refine lv_aload_n hx hb dX10_runThrough_21 rfl (lv_at hl 3 rfl) ?_
          refine lv_iload_n hx hb dX10_runThrough_22 rfl (lv_at hl 0 rfl) ?_
          have go_ := g
          refine g_put (C := RX4) (T := TX4) (N := 17) hx hb hts (mc_ inX4) tyX4 tyX4_ok nmX4 hown hK g ma2_ ka2_ (by decide) rfl 14 (by decide) (hts _ (List.mem_cons_of_mem _ t_874)) (fun _ h9 => h9) rfl rfl (okV_i (bd_sub b_7 (by decide))) rfl rfl (by decide) (Or.inr (Or.inl (by decide))) (fx' := [(3, 0, a1_, .int x_5), (4, 4, a2_, .int w6_4_4_a2_), (4, 3, a2_, .int w6_4_3_a2_), (4, 2, a2_, .int w6_4_2_a2_), (4, 1, a2_, .int w6_4_1_a2_), (4, 0, a2_, .int w6_4_0_a2_), (10, 0, a0_, .ref q0_)]) rfl dX10_runThrough_23 (fun f H locs hM_11 g => ?_)
          have hG_12 := cOK.frame hM_11 go_.2.2.2.1 mq0_ kq0_ (by decide) (by decide) hG6_c_q0_
          refine lv_aload_n hx hb dX10_runThrough_26 rfl (lv_at hl 2 rfl) ?_
          refine g_getr (K := 123) (C := RX3) (T := TX3) (N := 6) hx hb hts (mc_ inX3) hown hK g ma1_ ka1_ (by decide) rfl 2 (by decide) rfl (hts _ (List.mem_cons_of_mem _ t_808)) (fun _ h9 => h9) rfl dX10_runThrough_27 (fun a_13 ma_13 ka_13 g => ?_)
          refine lv_iload_n hx hb dX10_runThrough_30 rfl (lv_at hl 0 rfl) ?_
          refine g_iald hx hb hK g ma_13 ka_13 (by decide) rfl (in_bd b_7 (by decide)) dX10_runThrough_31 (fun x_14 bx_14 cx_14 => ?_)
          refine lv_iconst (v := (-1)) hx hb dX10_runThrough_32 (by decide) ?_
          have kb_m1 : bd (-1) (-1) ((-1) : Int32) := ⟨by decide, by decide⟩
          refine lv_icmp_ne (tgt := 46) hx hb dX10_runThrough_33 (by decide) (fun c_15 => ?_) (fun c_15 => ?_)
          · have fc_15 := neq_f c_15
            have b_16 : bd 0 11 x_14 := neX fc_15 bx_14 kb_m1 (by decide)
            refine lv_aload_n hx hb dX10_runThrough_46 rfl (lv_at hl 1 rfl) ?_
            refine lv_aload_n hx hb dX10_runThrough_47 rfl (lv_at hl 2 rfl) ?_
            refine lv_aload_n hx hb dX10_runThrough_48 rfl (lv_at hl 3 rfl) ?_
            refine lv_iload_n hx hb dX10_runThrough_49 rfl (lv_at hl 0 rfl) ?_
            have go_ := g
            refine g_callv (va_runV (As := [.ref a1_, .ref a2_, .int v6_3]) (rest := []) ⟨hx, hb, hml, hown, hts⟩ (r_X10_doCall_3 l dC dI L kd tys f H.size g.2.2.2.1 a0_ ma0_ ka0_ a1_ ma1_ ka1_ a2_ ma2_ ka2_ v6_3 b_7 q0_ mq0_ kq0_ v6_3 b_7 x_5 b_8 w6_4_4_a2_ bw6_4_4_a2_ w6_4_3_a2_ bw6_4_3_a2_ w6_4_2_a2_ bw6_4_2_a2_ w6_4_1_a2_ bw6_4_1_a2_ w6_4_0_a2_ b_10 hG_12 (g.fcts [8, 1, 2, 3, 4, 5, 6, 7] rfl)) (cwV 3 hts (gV_ t_1610 t_1612 t_69 t_194 t_1613) rfl rfl rfl (by decide +kernel) ⟨(Nat.le_of_ble_eq_true rfl), (Nat.le_of_ble_eq_true rfl)⟩) (pre3V g hK ma0_ ka0_ (by decide) (q := (RX10, TX10, 10)) rfl) rfl rfl hl.1 rfl (lv_room (Nat.le_of_ble_eq_true rfl)) dX10_runThrough_50 ⟨(Nat.le_of_ble_eq_true rfl), (Nat.le_of_ble_eq_true rfl)⟩) g hK (by decide) (by decide) (fx' := [(3, 2, a1_, .ref a_13), (4, 14, a2_, .int v6_3), (3, 0, a1_, .int x_5), (10, 0, a0_, .ref q0_)]) rfl (fun fr_17 H locs hp hMr_17 g => ?_)
            obtain ⟨x_18, h_19, x_20, h_21, x_22, h_23, x_24, h_25, x_26, h_27, hF_28⟩ := hp
            have hG_29 := cOK.frame hMr_17 go_.2.2.2.1 mq0_ kq0_ (by decide) (by decide) hG_12
            have g := g.more hF_28
            have kb_1 : bd 1 1 (1 : Int32) := ⟨by decide, by decide⟩
            obtain ⟨y_30, ey_30⟩ : ∃ z : Int32, z = v6_3 + 1 := ⟨_, rfl⟩
            refine lv_iinc (v := y_30) (lv' := [(3, .int y_30), (0, .ref a0_), (1, .ref a1_), (2, .ref a2_)]) hx hb dX10_runThrough_53 hl (k := 0) rfl (by rw [ey_30]; rfl) (by decide) rfl (fun ls hl => ?_)
            have ty_30 := add_bd ey_30 b_7 kb_1 (by decide)
            have b_31 : bd 1 10 y_30 := add_rg ty_30 b_7 kb_1 (by decide)
            refine lv_goto (tgt := 6) hx hb dX10_runThrough_56 (by decide) ?_
            have hl9 := lv_sub hl [0, 1, 2, 3] (by rfl : lv_pick [(3, .int y_30), (0, .ref a0_), (1, .ref a1_), (2, .ref a2_)] [0, 1, 2, 3] = [(3, .int y_30), (0, .ref a0_), (1, .ref a1_), (2, .ref a2_)])
            have g9 := g.sub (fx' := [(4, 14, a2_, .int v6_3), (4, 4, a2_, .int x_18), (4, 3, a2_, .int x_20), (4, 2, a2_, .int x_22), (4, 1, a2_, .int x_24), (4, 0, a2_, .int x_26), (10, 0, a0_, .ref q0_)]) [6, 0, 1, 2, 3, 4, 8] rfl
            exact ih6  y_30 v6_3 x_18 x_20 x_22 x_24 x_26 (bd_sub b_31 (by decide)) b_7 h_19 h_21 h_23 h_25 h_27 (by have h9_0 := b_31; unfold bd at h9_0; have h9_1 := b_7; unfold bd at h9_1; have h9_2 := bv6_3; unfold bd at h9_2; have h9_3 := bw6_4_0_a2_; unfold bd at h9_3; have h9_4 := bw6_4_14_a2_; unfold bd at h9_4; have h9_5 := bw6_4_1_a2_; unfold bd at h9_5; have h9_6 := bw6_4_2_a2_; unfold bd at h9_6; have h9_7 := bw6_4_3_a2_; unfold bd at h9_7; have h9_8 := bw6_4_4_a2_; unfold bd at h9_8; have h9_9 := h_19; unfold bd at h9_9; have h9_10 := h_21; unfold bd at h9_10; have h9_11 := h_23; unfold bd at h9_11; have h9_12 := h_25; unfold bd at h9_12; have h9_13 := h_27; unfold bd at h9_13; have h9_14 := kb_0; unfold bd at h9_14; have h9_15 := kb_1; unfold bd at h9_15; have h9_16 := kb_m1; unfold bd at h9_16; omega) _ _ _ _ g9 hG_29 hl9
          · have fc_15 := eq_f c_15
            have b_32 : bd (-1) (-1) x_14 := eqX fc_15 bx_14 kb_m1 (by decide)
            refine lv_aload_n hx hb dX10_runThrough_36 rfl (lv_at hl 1 rfl) ?_
            refine lv_aload_n hx hb dX10_runThrough_37 rfl (lv_at hl 2 rfl) ?_
            refine lv_aload_n hx hb dX10_runThrough_38 rfl (lv_at hl 3 rfl) ?_
            refine lv_iload_n hx hb dX10_runThrough_39 rfl (lv_at hl 0 rfl) ?_
            have go_ := g
            refine g_callv (va_runV (As := [.ref a1_, .ref a2_, .int v6_3]) (rest := []) ⟨hx, hb, hml, hown, hts⟩ (r_X10_doMake_3 l dC dI L kd tys f H.size g.2.2.2.1 a0_ ma0_ ka0_ a1_ ma1_ ka1_ a2_ ma2_ ka2_ v6_3 b_7 q0_ mq0_ kq0_ v6_3 b_7 x_5 b_8 w6_4_4_a2_ bw6_4_4_a2_ w6_4_3_a2_ bw6_4_3_a2_ w6_4_2_a2_ bw6_4_2_a2_ w6_4_1_a2_ bw6_4_1_a2_ w6_4_0_a2_ b_10 hG_12 (g.fcts [8, 1, 2, 3, 4, 5, 6, 7] rfl)) (cwV 3 hts (gV_ t_1530 t_1532 t_55 t_194 t_1533) rfl rfl rfl (by decide +kernel) ⟨(Nat.le_of_ble_eq_true rfl), (Nat.le_of_ble_eq_true rfl)⟩) (pre3V g hK ma0_ ka0_ (by decide) (q := (RX10, TX10, 10)) rfl) rfl rfl hl.1 rfl (lv_room (Nat.le_of_ble_eq_true rfl)) dX10_runThrough_40 ⟨(Nat.le_of_ble_eq_true rfl), (Nat.le_of_ble_eq_true rfl)⟩) g hK (by decide) (by decide) (fx' := [(3, 2, a1_, .ref a_13), (4, 14, a2_, .int v6_3), (3, 0, a1_, .int x_5), (4, 4, a2_, .int w6_4_4_a2_), (4, 3, a2_, .int w6_4_3_a2_), (10, 0, a0_, .ref q0_)]) rfl (fun fr_33 H locs hp hMr_33 g => ?_)
            obtain ⟨x_34, h_35, x_36, h_37, x_38, h_39, hF_40⟩ := hp
            have hG_41 := cOK.frame hMr_33 go_.2.2.2.1 mq0_ kq0_ (by decide) (by decide) hG_12
            have g := g.more hF_40
            refine lv_goto (tgt := 53) hx hb dX10_runThrough_43 (by decide) ?_
            have kb_1 : bd 1 1 (1 : Int32) := ⟨by decide, by decide⟩
            obtain ⟨y_42, ey_42⟩ : ∃ z : Int32, z = v6_3 + 1 := ⟨_, rfl⟩
            refine lv_iinc (v := y_42) (lv' := [(3, .int y_42), (0, .ref a0_), (1, .ref a1_), (2, .ref a2_)]) hx hb dX10_runThrough_53 hl (k := 0) rfl (by rw [ey_42]; rfl) (by decide) rfl (fun ls hl => ?_)
            have ty_42 := add_bd ey_42 b_7 kb_1 (by decide)
            have b_43 : bd 1 10 y_42 := add_rg ty_42 b_7 kb_1 (by decide)
            refine lv_goto (tgt := 6) hx hb dX10_runThrough_56 (by decide) ?_
            have hl9 := lv_sub hl [0, 1, 2, 3] (by rfl : lv_pick [(3, .int y_42), (0, .ref a0_), (1, .ref a1_), (2, .ref a2_)] [0, 1, 2, 3] = [(3, .int y_42), (0, .ref a0_), (1, .ref a1_), (2, .ref a2_)])
            have g9 := g.sub (fx' := [(4, 14, a2_, .int v6_3), (4, 4, a2_, .int w6_4_4_a2_), (4, 3, a2_, .int w6_4_3_a2_), (4, 2, a2_, .int x_34), (4, 1, a2_, .int x_36), (4, 0, a2_, .int x_38), (10, 0, a0_, .ref q0_)]) [4, 6, 7, 0, 1, 2, 8] rfl
            exact ih6  y_42 v6_3 w6_4_4_a2_ w6_4_3_a2_ x_34 x_36 x_38 (bd_sub b_43 (by decide)) b_7 bw6_4_4_a2_ bw6_4_3_a2_ h_35 h_37 (bd_sub h_39 (by decide)) (by have h9_0 := b_43; unfold bd at h9_0; have h9_1 := b_7; unfold bd at h9_1; have h9_2 := bv6_3; unfold bd at h9_2; have h9_3 := bw6_4_0_a2_; unfold bd at h9_3; have h9_4 := bw6_4_14_a2_; unfold bd at h9_4; have h9_5 := bw6_4_1_a2_; unfold bd at h9_5; have h9_6 := bw6_4_2_a2_; unfold bd at h9_6; have h9_7 := bw6_4_3_a2_; unfold bd at h9_7; have h9_8 := bw6_4_4_a2_; unfold bd at h9_8; have h9_9 := h_35; unfold bd at h9_9; have h9_10 := h_37; unfold bd at h9_10; have h9_11 := h_39; unfold bd at h9_11; have h9_12 := kb_0; unfold bd at h9_12; have h9_13 := kb_1; unfold bd at h9_13; have h9_14 := kb_m1; unfold bd at h9_14; omega) _ _ _ _ g9 hG_41 hl9
  have kb_0 : bd 0 0 (0 : Int32) := ⟨by decide, by decide⟩
  have kb_m1 : bd (-1) (-1) ((-1) : Int32) := ⟨by decide, by decide⟩
  have hl9 := lv_sub hl [0, 1, 2, 3] (by rfl : lv_pick [(3, .int 0), (0, .ref a0_), (1, .ref a1_), (2, .ref a2_)] [0, 1, 2, 3] = [(3, .int 0), (0, .ref a0_), (1, .ref a1_), (2, .ref a2_)])
  have g9 := g.sub (fx' := [(4, 14, a2_, .int 0), (4, 4, a2_, .int (-1)), (4, 3, a2_, .int (-1)), (4, 2, a2_, .int (-1)), (4, 1, a2_, .int (-1)), (4, 0, a2_, .int 0), (10, 0, a0_, .ref q0_)]) [0, 2, 3, 4, 5, 6, 7] rfl
  exact loop_4 (23) 0 0 (-1) (-1) (-1) (-1) 0 (bd_sub kb_0 (by decide)) (bd_sub kb_0 (by decide)) (bd_sub kb_m1 (by decide)) (bd_sub kb_m1 (by decide)) (bd_sub kb_m1 (by decide)) (bd_sub kb_m1 (by decide)) (bd_sub kb_0 (by decide)) (by have h9_0 := kb_0; unfold bd at h9_0; have h9_1 := kb_m1; unfold bd at h9_1; omega) _ _ _ _ g9 hG_3 hl9
set_option maxHeartbeats 4000000 in
set_option maxRecDepth 100000 in
theorem r_X10_runOwnRow (l : Launch) (dC : Nat → ClassId) (dI : Nat → Nat → Nat) (L : List Nat) (kd : Nat → Nat) (tys : List (ClassId × FieldType)) (f0 : Nat → va_E) (sz : Nat) (hWT : WT L kd tys f0) (a0_ : Nat) (ma0_ : a0_ ∈ L) (ka0_ : kd a0_ = 10) (q0_ : Nat) (mq0_ : q0_ ∈ L) (kq0_ : kd q0_ = 7) (q1_ : Nat) (mq1_ : q1_ ∈ L) (kq1_ : kd q1_ = 4) (hGcq0_ : cOK f0 q0_) (hfx : Fs L kd f0 [(10, 0, a0_, .ref q0_), (10, 4, a0_, .ref q1_)]) : Met l yX10_runOwnRow (.code yX10_runOwnRow cX10_runOwnRow 1 none :: lw_g) ({ frames := 6, cells := 0, slots := 0, locals := 155 }) (va_Pc [.ref a0_] (P3 (dC, dI) L tys f0 sz)) (va_Qv (fun (f : Nat → va_E) => (∃ z1_ : Int32, bd 0 9 z1_ ∧ ∃ z2_ : Int32, bd (-1) 2147483647 z2_ ∧ ∃ z3_ : Int32, bd (-1) 2147483647 z3_ ∧ ∃ z4_ : Int32, bd (-1) 2147483647 z4_ ∧ ∃ z5_ : Int32, bd (-1) 2147483647 z5_ ∧ ∃ z6_ : Int32, bd (-1) 8 z6_ ∧ Fs L kd f [(10, 8, a0_, .int 1), (4, 14, q1_, .int z1_), (4, 4, q1_, .int z2_), (4, 3, q1_, .int z3_), (4, 2, q1_, .int z4_), (4, 1, q1_, .int z5_), (4, 0, q1_, .int z6_)])) (Q3 (dC, dI) L kd tys [(1, 0), (1, 1), (1, 2), (1, 3), (1, 4), (1, 5), (1, 6), (1, 8), (1, 11), (1, 12), (1, 13), (1, 14), (1, 15), (1, 16), (1, 17), (4, 0), (4, 1), (4, 2), (4, 3), (4, 4), (4, 5), (4, 6), (4, 14), (4, 15), (4, 16), (10, 8)] [100, 101, 102, 116, 117, 126, 127, 130, 131, 146] f0 sz) (pA L sz)) 0 0 (pA L sz) := by
  refine Met.ofW (cc := cX10_runOwnRow) (maxL := 1) (ret := none) (by decide) rfl ?_
  intro p e s m args below meth c s₁ B hml hv
  obtain ⟨rfl, hsz, hP, hK, hD0⟩ := hv
  have hx := B.exec
  have hb := B.bytes
  have hr := B.returns
  have hts := atoms_spec (ws := (.code yX10_runOwnRow cX10_runOwnRow 1 none :: lw_g)) B.pre
  have hown : s.vm.findClass RX10 = some m.cls := findClass_of_methodNamed B.named
  have hlocks := B.notSynchronized
  subst hsz
  have g : G3 (dC, dI) L kd tys s f0 [(1, 0), (1, 1), (1, 2), (1, 3), (1, 4), (1, 5), (1, 6), (1, 8), (1, 11), (1, 12), (1, 13), (1, 14), (1, 15), (1, 16), (1, 17), (4, 0), (4, 1), (4, 2), (4, 3), (4, 4), (4, 5), (4, 6), (4, 14), (4, 15), (4, 16), (10, 8)] [100, 101, 102, 116, 117, 126, 127, 130, 131, 146] f0 s.heap [] [(10, 0, a0_, .ref q0_), (10, 4, a0_, .ref q1_)] := G3.start hP hD0 hWT hfx
  have hl := lv_entry ([.ref a0_]) (n := 1) (Nat.le_of_ble_eq_true rfl)
  rw [lg_entry_eq]
  generalize (lg_sl ([.ref a0_]) ++ List.replicate (1 - (lg_sl ([.ref a0_])).length) Slot.unset).toArray = ls at hl ⊢
  have hl : lv_has ls 1 [(0, .ref a0_)] := hl
  refine W_q (fun Q hQ => ?_)
  refine lv_aload_n hx hb dX10_runOwnRow_0 rfl (lv_at hl 0 rfl) ?_
  refine lv_aload_n hx hb dX10_runOwnRow_1 rfl (lv_at hl 0 rfl) ?_
  refine g_getr (K := 3) (C := RX10) (T := TX10) (N := 10) hx hb hts (mc_ inX10) hown hK g ma0_ ka0_ (by decide) rfl 2 (by decide) rfl (hts _ (List.mem_cons_of_mem _ t_914)) (fun _ h9 => h9) rfl dX10_runOwnRow_2 (fun a_1 ma_1 ka_1 g => ?_)
  refine lv_aload_n hx hb dX10_runOwnRow_5 rfl (lv_at hl 0 rfl) ?_
  refine g_getk (C := RX10) (T := TX10) (N := 10) hx hb hts (mc_ inX10) hown hK g rfl 4 (by decide) rfl (hts _ (List.mem_cons_of_mem _ t_917)) (fun _ h9 => h9) 2 rfl dX10_runOwnRow_6 ?_
  have go_ := g
  refine g_callv (va_runV (As := [.ref a_1, .ref q1_]) (rest := []) ⟨hx, hb, hml, hown, hts⟩ (r_X10_runThrough l dC dI L kd tys f0 s.heap.size g.2.2.2.1 a0_ ma0_ ka0_ a_1 ma_1 ka_1 q1_ mq1_ kq1_ q0_ mq0_ kq0_ hGcq0_ (g.fcts [1] rfl)) (cwV 2 hts (gV_ t_1526 t_1528 t_54 t_194 t_1529) rfl rfl rfl (by decide +kernel) ⟨(Nat.le_of_ble_eq_true rfl), (Nat.le_of_ble_eq_true rfl)⟩) (pre3V g hK ma0_ ka0_ (by decide) (q := (RX10, TX10, 10)) rfl) rfl rfl hl.1 rfl (lv_room (Nat.le_of_ble_eq_true rfl)) dX10_runOwnRow_9 ⟨(Nat.le_of_ble_eq_true rfl), (Nat.le_of_ble_eq_true rfl)⟩) g hK (by decide) (by decide) (fx' := [(10, 2, a0_, .ref a_1), (10, 0, a0_, .ref q0_), (10, 4, a0_, .ref q1_)]) rfl (fun fr_2 H locs hp hMr_2 g => ?_)
  obtain ⟨x_3, h_4, x_5, h_6, x_7, h_8, x_9, h_10, x_11, h_12, x_13, h_14, hF_15⟩ := hp
  have hG_16 := cOK.frame hMr_2 go_.2.2.2.1 mq0_ kq0_ (by decide) (by decide) hGcq0_
  have g := g.more hF_15
  refine lv_aload_n hx hb dX10_runOwnRow_12 rfl (lv_at hl 0 rfl) ?_
  refine lv_iconst (v := 1) hx hb dX10_runOwnRow_13 (by decide) ?_
  have kb_1 : bd 1 1 (1 : Int32) := ⟨by decide, by decide⟩
  have go_ := g
  refine g_put (C := RX10) (T := TX10) (N := 10) hx hb hts (mc_ inX10) tyX10 tyX10_ok nmX10 hown hK g ma0_ ka0_ (by decide) rfl 8 (by decide) (hts _ (List.mem_cons_of_mem _ t_924)) (fun _ h9 => h9) rfl rfl (okV_i (bd_sub kb_1 (by decide))) rfl rfl (by decide) (Or.inr (Or.inl (by decide))) (fx' := [(4, 14, q1_, .int x_3), (4, 4, q1_, .int x_5), (4, 3, q1_, .int x_7), (4, 2, q1_, .int x_9), (4, 1, q1_, .int x_11), (4, 0, q1_, .int x_13), (10, 2, a0_, .ref a_1), (10, 0, a0_, .ref q0_), (10, 4, a0_, .ref q1_)]) rfl dX10_runOwnRow_14 (fun f H locs hM_17 g => ?_)
  have hG_18 := cOK.frame hM_17 go_.2.2.2.1 mq0_ kq0_ (by decide) (by decide) hG_16
  subst hQ
  exact W.vret hx hb hr (fun t ht hW => ⟨⟨_, rfl, ⟨x_3, h_4, x_5, h_6, x_7, h_8, x_9, h_10, x_11, h_12, x_13, h_14, (g.fcts [0, 1, 2, 3, 4, 5, 6] rfl)⟩, q3_of g hK ht hW⟩, g.2.2.1.F ht⟩) g.2.2.1.2.2 dX10_runOwnRow_17
set_option maxHeartbeats 4000000 in
set_option maxRecDepth 100000 in
theorem r_X11_run (l : Launch) (dC : Nat → ClassId) (dI : Nat → Nat → Nat) (L : List Nat) (kd : Nat → Nat) (tys : List (ClassId × FieldType)) (f0 : Nat → va_E) (sz : Nat) (hWT : WT L kd tys f0) (a0_ : Nat) (ma0_ : a0_ ∈ L) (ka0_ : kd a0_ = 11) (q0_ : Nat) (mq0_ : q0_ ∈ L) (kq0_ : kd q0_ = 10) (q1_ : Nat) (mq1_ : q1_ ∈ L) (kq1_ : kd q1_ = 7) (hGcq1_ : cOK f0 q1_) (hfx : Fs L kd f0 [(11, 3, a0_, .ref q0_), (10, 0, q0_, .ref q1_)]) : Met l yX11_run (.code yX11_run cX11_run 1 (some .int) :: lw_g) ({ frames := 7, cells := 0, slots := 0, locals := 175 }) (va_Pc [.ref a0_] (P3 (dC, dI) L tys f0 sz)) (va_Qi (fun (r : Int32) (f : Nat → va_E) => (bd (-2) 8 r ∧ True)) (Q3 (dC, dI) L kd tys [(1, 0), (1, 1), (1, 2), (1, 3), (1, 4), (1, 5), (1, 6), (1, 8), (1, 11), (1, 12), (1, 13), (1, 14), (1, 15), (1, 16), (1, 17), (4, 0), (4, 1), (4, 2), (4, 3), (4, 4), (4, 5), (4, 6), (4, 14), (4, 15), (4, 16), (10, 8)] [100, 101, 102, 116, 117, 126, 127, 130, 131, 146] f0 sz) (pA L sz)) 0 0 (pA L sz) := by
  refine Met.ofW (cc := cX11_run) (maxL := 1) (ret := (some .int)) (by decide) rfl ?_
  intro p e s m args below meth c s₁ B hml hv
  obtain ⟨rfl, hsz, hP, hK, hD0⟩ := hv
  have hx := B.exec
  have hb := B.bytes
  have hr := B.returns
  have hts := atoms_spec (ws := (.code yX11_run cX11_run 1 (some .int) :: lw_g)) B.pre
  have hown : s.vm.findClass RX11 = some m.cls := findClass_of_methodNamed B.named
  have hlocks := B.notSynchronized
  subst hsz
  have g : G3 (dC, dI) L kd tys s f0 [(1, 0), (1, 1), (1, 2), (1, 3), (1, 4), (1, 5), (1, 6), (1, 8), (1, 11), (1, 12), (1, 13), (1, 14), (1, 15), (1, 16), (1, 17), (4, 0), (4, 1), (4, 2), (4, 3), (4, 4), (4, 5), (4, 6), (4, 14), (4, 15), (4, 16), (10, 8)] [100, 101, 102, 116, 117, 126, 127, 130, 131, 146] f0 s.heap [] [(11, 3, a0_, .ref q0_), (10, 0, q0_, .ref q1_)] := G3.start hP hD0 hWT hfx
  have hl := lv_entry ([.ref a0_]) (n := 1) (Nat.le_of_ble_eq_true rfl)
  rw [lg_entry_eq]
  generalize (lg_sl ([.ref a0_]) ++ List.replicate (1 - (lg_sl ([.ref a0_])).length) Slot.unset).toArray = ls at hl ⊢
  have hl : lv_has ls 1 [(0, .ref a0_)] := hl
  refine W_q (fun Q hQ => ?_)
  refine lv_aload_n hx hb dX11_run_0 rfl (lv_at hl 0 rfl) ?_
  refine g_getk (C := RX11) (T := TX11) (N := 8) hx hb hts (mc_ inX11) hown hK g rfl 3 (by decide) rfl (hts _ (List.mem_cons_of_mem _ t_951)) (fun _ h9 => h9) 0 rfl dX11_run_1 ?_
  refine g_getr (K := 3) (C := RX10) (T := TX10) (N := 10) hx hb hts (mc_ inX10) hown hK g mq0_ kq0_ (by decide) rfl 2 (by decide) rfl (hts _ (List.mem_cons_of_mem _ t_915)) (fun _ h9 => h9) rfl dX11_run_4 (fun a_1 ma_1 ka_1 g => ?_)
  refine g_geti (C := RX3) (T := TX3) (N := 6) hx hb hts (mc_ inX3) hown hK g ma_1 ka_1 (by decide) rfl 0 (by decide) rfl (hts _ (List.mem_cons_of_mem _ t_803)) (fun _ h9 => h9) rfl dX11_run_7 (fun x_2 bx_2 g => ?_)
  have kb_0 : bd 0 0 (0 : Int32) := ⟨by decide, by decide⟩
  refine lv_if_ne (tgt := 16) hx hb dX11_run_10 (by decide) (fun c_3 => ?_) (fun c_3 => ?_)
  · have fc_3 := neq_f c_3
    have b_4 : bd 1 10 x_2 := neX fc_3 bx_2 kb_0 (by decide)
    refine lv_aload_n hx hb dX11_run_16 rfl (lv_at hl 0 rfl) ?_
    refine g_getk (C := RX11) (T := TX11) (N := 8) hx hb hts (mc_ inX11) hown hK g rfl 3 (by decide) rfl (hts _ (List.mem_cons_of_mem _ t_951)) (fun _ h9 => h9) 2 rfl dX11_run_17 ?_
    obtain ⟨a_5, ma_5, ka_5, g⟩ := g_factr (K := 4) g mq0_ kq0_ (by decide) 4 rfl
    have go_ := g
    refine g_callv (va_runV (As := []) (rest := []) ⟨hx, hb, hml, hown, hts⟩ (r_X10_runOwnRow l dC dI L kd tys f0 s.heap.size g.2.2.2.1 q0_ mq0_ kq0_ q1_ mq1_ kq1_ a_5 ma_5 ka_5 hGcq1_ (g.fcts [4, 0] rfl)) (cwV 0 hts (gV_ t_1522 t_1523 t_1524 t_194 t_1525) rfl rfl rfl (by decide +kernel) ⟨(Nat.le_of_ble_eq_true rfl), (Nat.le_of_ble_eq_true rfl)⟩) (pre3V g hK mq0_ kq0_ (by decide) (q := (RX10, TX10, 10)) rfl) rfl rfl hl.1 rfl (lv_room (Nat.le_of_ble_eq_true rfl)) dX11_run_20 ⟨(Nat.le_of_ble_eq_true rfl), (Nat.le_of_ble_eq_true rfl)⟩) g hK (by decide) (by decide) (fx' := [(10, 4, q0_, .ref a_5), (3, 0, a_1, .int x_2), (10, 2, q0_, .ref a_1), (11, 3, a0_, .ref q0_), (10, 0, q0_, .ref q1_)]) rfl (fun fr_6 H locs hp hMr_6 g => ?_)
    obtain ⟨x_7, h_8, x_9, h_10, x_11, h_12, x_13, h_14, x_15, h_16, x_17, h_18, hF_19⟩ := hp
    have hG_20 := cOK.frame hMr_6 go_.2.2.2.1 mq1_ kq1_ (by decide) (by decide) hGcq1_
    have g := g.more hF_19
    refine lv_aload_n hx hb dX11_run_23 rfl (lv_at hl 0 rfl) ?_
    refine g_getk (C := RX11) (T := TX11) (N := 8) hx hb hts (mc_ inX11) hown hK g rfl 3 (by decide) rfl (hts _ (List.mem_cons_of_mem _ t_951)) (fun _ h9 => h9) 10 rfl dX11_run_24 ?_
    refine g_getk (C := RX10) (T := TX10) (N := 10) hx hb hts (mc_ inX10) hown hK g rfl 4 (by decide) rfl (hts _ (List.mem_cons_of_mem _ t_918)) (fun _ h9 => h9) 7 rfl dX11_run_27 ?_
    refine g_getk (C := RX4) (T := TX4) (N := 17) hx hb hts (mc_ inX4) hown hK g rfl 0 (by decide) rfl (hts _ (List.mem_cons_of_mem _ t_838)) (fun _ h9 => h9) 6 rfl dX11_run_30 ?_
    subst hQ
    exact W.iret (v := x_17) hx hb hr (fun t ht hW => ⟨⟨_, _, rfl, ⟨(bd_sub h_18 (by decide)), trivial⟩, q3_of g hK ht hW⟩, g.2.2.1.F ht⟩) g.2.2.1.2.2 dX11_run_33
  · have fc_3 := eq_f c_3
    have b_21 : bd 0 0 x_2 := eqX fc_3 bx_2 kb_0 (by decide)
    refine lv_bipush (v := (-2)) hx hb dX11_run_13 (by decide) ?_
    have kb_m2 : bd (-2) (-2) ((-2) : Int32) := ⟨by decide, by decide⟩
    subst hQ
    exact W.iret (v := (-2)) hx hb hr (fun t ht hW => ⟨⟨_, _, rfl, ⟨(bd_sub kb_m2 (by decide)), trivial⟩, q3_of g hK ht hW⟩, g.2.2.1.F ht⟩) g.2.2.1.2.2 dX11_run_15
set_option maxHeartbeats 4000000 in
set_option maxRecDepth 100000 in
theorem r_X10_drawNext (l : Launch) (dC : Nat → ClassId) (dI : Nat → Nat → Nat) (L : List Nat) (kd : Nat → Nat) (tys : List (ClassId × FieldType)) (f0 : Nat → va_E) (sz : Nat) (hWT : WT L kd tys f0) (a0_ : Nat) (ma0_ : a0_ ∈ L) (ka0_ : kd a0_ = 10) : Met l yX10_drawNext (.code yX10_drawNext cX10_drawNext 1 (some .int) :: lw_g) ({ frames := 0, cells := 0, slots := 0, locals := 0 }) (va_Pc [.ref a0_] (P3 (dC, dI) L tys f0 sz)) (va_Qi (fun (r : Int32) (f : Nat → va_E) => (bd 0 32767 r ∧ True)) (Q3 (dC, dI) L kd tys [(10, 9)] [] f0 sz) (pA L sz)) 0 0 (pA L sz) := by
  refine Met.ofW (cc := cX10_drawNext) (maxL := 1) (ret := (some .int)) (by decide) rfl ?_
  intro p e s m args below meth c s₁ B hml hv
  obtain ⟨rfl, hsz, hP, hK, hD0⟩ := hv
  have hx := B.exec
  have hb := B.bytes
  have hr := B.returns
  have hts := atoms_spec (ws := (.code yX10_drawNext cX10_drawNext 1 (some .int) :: lw_g)) B.pre
  have hown : s.vm.findClass RX10 = some m.cls := findClass_of_methodNamed B.named
  have hlocks := B.notSynchronized
  subst hsz
  have g : G3 (dC, dI) L kd tys s f0 [(10, 9)] [] f0 s.heap [] [] := G3.start hP hD0 hWT Fs.nil
  have hl := lv_entry ([.ref a0_]) (n := 1) (Nat.le_of_ble_eq_true rfl)
  rw [lg_entry_eq]
  generalize (lg_sl ([.ref a0_]) ++ List.replicate (1 - (lg_sl ([.ref a0_])).length) Slot.unset).toArray = ls at hl ⊢
  have hl : lv_has ls 1 [(0, .ref a0_)] := hl
  refine W_q (fun Q hQ => ?_)
  refine lv_aload_n hx hb dX10_drawNext_0 rfl (lv_at hl 0 rfl) ?_
  refine lv_ldc (v := 1103515245) hx hb hown (hts _ (List.mem_cons_of_mem _ t_1682)) dX10_drawNext_1 ?_
  refine lv_aload_n hx hb dX10_drawNext_3 rfl (lv_at hl 0 rfl) ?_
  refine g_geti (C := RX10) (T := TX10) (N := 10) hx hb hts (mc_ inX10) hown hK g ma0_ ka0_ (by decide) rfl 9 (by decide) rfl (hts _ (List.mem_cons_of_mem _ t_926)) (fun _ h9 => h9) rfl dX10_drawNext_4 (fun x_1 bx_1 g => ?_)
  refine lv_imul hx hb dX10_drawNext_7 ?_
  refine lv_topi (fun y_2 ey_2 => ?_)
  refine lv_sipush (v := 12345) hx hb dX10_drawNext_8 (by decide) ?_
  have kb_12345 : bd 12345 12345 (12345 : Int32) := ⟨by decide, by decide⟩
  refine lv_iadd hx hb dX10_drawNext_11 ?_
  refine lv_topi (fun y_3 ey_3 => ?_)
  refine g_put (C := RX10) (T := TX10) (N := 10) hx hb hts (mc_ inX10) tyX10 tyX10_ok nmX10 hown hK g ma0_ ka0_ (by decide) rfl 9 (by decide) (hts _ (List.mem_cons_of_mem _ t_926)) (fun _ h9 => h9) rfl rfl (okV_i (bdT y_3)) rfl rfl (by decide) (Or.inr (Or.inl (by decide))) (fx' := []) rfl dX10_drawNext_12 (fun f H locs hM_4 g => ?_)
  refine lv_aload_n hx hb dX10_drawNext_15 rfl (lv_at hl 0 rfl) ?_
  refine g_getk (C := RX10) (T := TX10) (N := 10) hx hb hts (mc_ inX10) hown hK g rfl 9 (by decide) rfl (hts _ (List.mem_cons_of_mem _ t_926)) (fun _ h9 => h9) 0 rfl dX10_drawNext_16 ?_
  refine lv_bipush (v := 16) hx hb dX10_drawNext_19 (by decide) ?_
  refine lv_iushr hx hb dX10_drawNext_21 rfl ?_
  refine lv_topi (fun y_5 ey_5 => ?_)
  refine lv_sipush (v := 32767) hx hb dX10_drawNext_22 (by decide) ?_
  have kb_32767 : bd 32767 32767 (32767 : Int32) := ⟨by decide, by decide⟩
  refine lv_iand hx hb dX10_drawNext_25 ?_
  refine lv_topi (fun y_6 ey_6 => ?_)
  have b_7 : bd 0 32767 y_6 := and_rg ey_6 (bdT y_5) kb_32767 (by decide)
  subst hQ
  exact W.iret (v := y_6) hx hb hr (fun t ht hW => ⟨⟨_, _, rfl, ⟨b_7, trivial⟩, q3_of g hK ht hW⟩, g.2.2.1.F ht⟩) g.2.2.1.2.2 dX10_drawNext_26
set_option maxHeartbeats 4000000 in
set_option maxRecDepth 100000 in
theorem r_X6_firstOf (l : Launch) (dC : Nat → ClassId) (dI : Nat → Nat → Nat) (L : List Nat) (kd : Nat → Nat) (tys : List (ClassId × FieldType)) (f0 : Nat → va_E) (sz : Nat) (hWT : WT L kd tys f0) (a0_ : Nat) (ma0_ : a0_ ∈ L) (ka0_ : kd a0_ = 6) (x1_ : Int32) : Met l yX6_firstOf (.code yX6_firstOf cX6_firstOf 2 (some .int) :: lw_g) ({ frames := 0, cells := 0, slots := 0, locals := 0 }) (va_Pc [.ref a0_, .int x1_] (P3 (dC, dI) L tys f0 sz)) (va_Qi (fun (r : Int32) (f : Nat → va_E) => (True)) (Q3 (dC, dI) L kd tys [] [] f0 sz) (pA L sz)) 0 0 (pA L sz) := by
  refine Met.ofW (cc := cX6_firstOf) (maxL := 2) (ret := (some .int)) (by decide) rfl ?_
  intro p e s m args below meth c s₁ B hml hv
  obtain ⟨rfl, hsz, hP, hK, hD0⟩ := hv
  have hx := B.exec
  have hb := B.bytes
  have hr := B.returns
  have hts := atoms_spec (ws := (.code yX6_firstOf cX6_firstOf 2 (some .int) :: lw_g)) B.pre
  have hown : s.vm.findClass RX6 = some m.cls := findClass_of_methodNamed B.named
  have hlocks := B.notSynchronized
  subst hsz
  have g : G3 (dC, dI) L kd tys s f0 [] [] f0 s.heap [] [] := G3.start hP hD0 hWT Fs.nil
  have hl := lv_entry ([.ref a0_, .int x1_]) (n := 2) (Nat.le_of_ble_eq_true rfl)
  rw [lg_entry_eq]
  generalize (lg_sl ([.ref a0_, .int x1_]) ++ List.replicate (2 - (lg_sl ([.ref a0_, .int x1_])).length) Slot.unset).toArray = ls at hl ⊢
  have hl : lv_has ls 2 [(0, .ref a0_), (1, .int x1_)] := hl
  refine W_q (fun Q hQ => ?_)
  refine lv_iload_n hx hb dX6_firstOf_0 rfl (lv_at hl 1 rfl) ?_
  have kb_0 : bd 0 0 (0 : Int32) := ⟨by decide, by decide⟩
  refine lv_if_lt (tgt := 9) hx hb dX6_firstOf_1 (by decide) (fun c_1 => ?_) (fun c_1 => ?_)
  · have fc_1 := lt_f c_1
    have b_2 : bd (-2147483648) (-1) x1_ := ltL fc_1 (bdT x1_) kb_0 (by decide)
    refine lv_iconst (v := 0) hx hb dX6_firstOf_9 (by decide) ?_
    subst hQ
    exact W.iret (v := 0) hx hb hr (fun t ht hW => ⟨⟨_, _, rfl, trivial, q3_of g hK ht hW⟩, g.2.2.1.F ht⟩) g.2.2.1.2.2 dX6_firstOf_10
  · have fc_1 := nlt_f c_1
    have b_3 : bd 0 2147483647 x1_ := leR fc_1 kb_0 (bdT x1_) (by decide)
    refine lv_iload_n hx hb dX6_firstOf_4 rfl (lv_at hl 1 rfl) ?_
    refine lv_iconst (v := 3) hx hb dX6_firstOf_5 (by decide) ?_
    have kb_3 : bd 3 3 (3 : Int32) := ⟨by decide, by decide⟩
    refine lv_icmp_lt (tgt := 11) hx hb dX6_firstOf_6 (by decide) (fun c_4 => ?_) (fun c_4 => ?_)
    · have fc_4 := lt_f c_4
      have b_5 : bd 0 2 x1_ := ltL fc_4 b_3 kb_3 (by decide)
      refine lv_aload_n hx hb dX6_firstOf_11 rfl (lv_at hl 0 rfl) ?_
      refine g_getr (K := 134) (C := RX6) (T := TX6) (N := 13) hx hb hts (mc_ inX6) hown hK g ma0_ ka0_ (by decide) rfl 4 (by decide) rfl (hts _ (List.mem_cons_of_mem _ t_569)) (fun _ h9 => h9) rfl dX6_firstOf_12 (fun a_6 ma_6 ka_6 g => ?_)
      refine lv_iload_n hx hb dX6_firstOf_15 rfl (lv_at hl 1 rfl) ?_
      refine g_iald hx hb hK g ma_6 ka_6 (by decide) rfl (in_bd b_5 (by decide)) dX6_firstOf_16 (fun x_7 bx_7 cx_7 => ?_)
      refine lv_if_gt (tgt := 33) hx hb dX6_firstOf_17 (by decide) (fun c_8 => ?_) (fun c_8 => ?_)
      · have fc_8 := lt_f c_8
        have b_9 : bd 1 2147483647 x_7 := ltR fc_8 kb_0 (bdT x_7) (by decide)
        refine lv_aload_n hx hb dX6_firstOf_33 rfl (lv_at hl 0 rfl) ?_
        refine g_getk (C := RX6) (T := TX6) (N := 13) hx hb hts (mc_ inX6) hown hK g rfl 4 (by decide) rfl (hts _ (List.mem_cons_of_mem _ t_569)) (fun _ h9 => h9) 0 rfl dX6_firstOf_34 ?_
        refine lv_iload_n hx hb dX6_firstOf_37 rfl (lv_at hl 1 rfl) ?_
        refine g_iald hx hb hK g ma_6 ka_6 (by decide) rfl (in_bd b_5 (by decide)) dX6_firstOf_38 (fun x_10 bx_10 cx_10 => ?_)
        obtain rfl : x_7 = x_10 := el_same cx_7 cx_10 rfl
        subst hQ
        exact W.iret (v := x_7) hx hb hr (fun t ht hW => ⟨⟨_, _, rfl, trivial, q3_of g hK ht hW⟩, g.2.2.1.F ht⟩) g.2.2.1.2.2 dX6_firstOf_39
      · have fc_8 := nlt_f c_8
        have b_11 : bd (-2147483648) 0 x_7 := leL fc_8 (bdT x_7) kb_0 (by decide)
        refine lv_aload_n hx hb dX6_firstOf_20 rfl (lv_at hl 0 rfl) ?_
        refine g_getr (K := 135) (C := RX6) (T := TX6) (N := 13) hx hb hts (mc_ inX6) hown hK g ma0_ ka0_ (by decide) rfl 5 (by decide) rfl (hts _ (List.mem_cons_of_mem _ t_573)) (fun _ h9 => h9) rfl dX6_firstOf_21 (fun a_12 ma_12 ka_12 g => ?_)
        refine lv_iload_n hx hb dX6_firstOf_24 rfl (lv_at hl 1 rfl) ?_
        refine g_iald hx hb hK g ma_12 ka_12 (by decide) rfl (in_bd b_5 (by decide)) dX6_firstOf_25 (fun x_13 bx_13 cx_13 => ?_)
        refine lv_if_lt (tgt := 33) hx hb dX6_firstOf_26 (by decide) (fun c_14 => ?_) (fun c_14 => ?_)
        · have fc_14 := lt_f c_14
          have b_15 : bd (-2147483648) (-1) x_13 := ltL fc_14 (bdT x_13) kb_0 (by decide)
          refine lv_aload_n hx hb dX6_firstOf_33 rfl (lv_at hl 0 rfl) ?_
          refine g_getk (C := RX6) (T := TX6) (N := 13) hx hb hts (mc_ inX6) hown hK g rfl 4 (by decide) rfl (hts _ (List.mem_cons_of_mem _ t_569)) (fun _ h9 => h9) 1 rfl dX6_firstOf_34 ?_
          refine lv_iload_n hx hb dX6_firstOf_37 rfl (lv_at hl 1 rfl) ?_
          refine g_iald hx hb hK g ma_6 ka_6 (by decide) rfl (in_bd b_5 (by decide)) dX6_firstOf_38 (fun x_16 bx_16 cx_16 => ?_)
          obtain rfl : x_7 = x_16 := el_same cx_7 cx_16 rfl
          subst hQ
          exact W.iret (v := x_7) hx hb hr (fun t ht hW => ⟨⟨_, _, rfl, trivial, q3_of g hK ht hW⟩, g.2.2.1.F ht⟩) g.2.2.1.2.2 dX6_firstOf_39
        · have fc_14 := nlt_f c_14
          have b_17 : bd 0 2147483647 x_13 := leR fc_14 kb_0 (bdT x_13) (by decide)
          refine lv_iconst (v := 0) hx hb dX6_firstOf_29 (by decide) ?_
          refine lv_goto (tgt := 39) hx hb dX6_firstOf_30 (by decide) ?_
          subst hQ
          exact W.iret (v := 0) hx hb hr (fun t ht hW => ⟨⟨_, _, rfl, trivial, q3_of g hK ht hW⟩, g.2.2.1.F ht⟩) g.2.2.1.2.2 dX6_firstOf_39
    · have fc_4 := nlt_f c_4
      have b_18 : bd 3 2147483647 x1_ := leR fc_4 kb_3 b_3 (by decide)
      refine lv_iconst (v := 0) hx hb dX6_firstOf_9 (by decide) ?_
      subst hQ
      exact W.iret (v := 0) hx hb hr (fun t ht hW => ⟨⟨_, _, rfl, trivial, q3_of g hK ht hW⟩, g.2.2.1.F ht⟩) g.2.2.1.2.2 dX6_firstOf_10
set_option maxHeartbeats 4000000 in
set_option maxRecDepth 100000 in
theorem r_X10_drawArgument (l : Launch) (dC : Nat → ClassId) (dI : Nat → Nat → Nat) (L : List Nat) (kd : Nat → Nat) (tys : List (ClassId × FieldType)) (f0 : Nat → va_E) (sz : Nat) (hWT : WT L kd tys f0) (a0_ : Nat) (ma0_ : a0_ ∈ L) (ka0_ : kd a0_ = 10) (a1_ : Nat) (ma1_ : a1_ ∈ L) (ka1_ : kd a1_ = 6) (x2_ : Int32) (bx2_ : bd 0 0 x2_) : Met l yX10_drawArgument (.code yX10_drawArgument cX10_drawArgument 5 (some .int) :: lw_g) ({ frames := 1, cells := 0, slots := 0, locals := 21 }) (va_Pc [.ref a0_, .ref a1_, .int x2_] (P3 (dC, dI) L tys f0 sz)) (va_Qi (fun (r : Int32) (f : Nat → va_E) => (True)) (Q3 (dC, dI) L kd tys [(10, 9)] [] f0 sz) (pA L sz)) 0 0 (pA L sz) := by
  refine Met.ofW (cc := cX10_drawArgument) (maxL := 5) (ret := (some .int)) (by decide) rfl ?_
  intro p e s m args below meth c s₁ B hml hv
  obtain ⟨rfl, hsz, hP, hK, hD0⟩ := hv
  have hx := B.exec
  have hb := B.bytes
  have hr := B.returns
  have hts := atoms_spec (ws := (.code yX10_drawArgument cX10_drawArgument 5 (some .int) :: lw_g)) B.pre
  have hown : s.vm.findClass RX10 = some m.cls := findClass_of_methodNamed B.named
  have hlocks := B.notSynchronized
  subst hsz
  have g : G3 (dC, dI) L kd tys s f0 [(10, 9)] [] f0 s.heap [] [] := G3.start hP hD0 hWT Fs.nil
  have hl := lv_entry ([.ref a0_, .ref a1_, .int x2_]) (n := 5) (Nat.le_of_ble_eq_true rfl)
  rw [lg_entry_eq]
  generalize (lg_sl ([.ref a0_, .ref a1_, .int x2_]) ++ List.replicate (5 - (lg_sl ([.ref a0_, .ref a1_, .int x2_])).length) Slot.unset).toArray = ls at hl ⊢
  have hl : lv_has ls 5 [(0, .ref a0_), (1, .ref a1_), (2, .int x2_)] := hl
  refine W_q (fun Q hQ => ?_)
  refine lv_iload_n hx hb dX10_drawArgument_0 rfl (lv_at hl 2 rfl) ?_
  refine lv_aload_n hx hb dX10_drawArgument_1 rfl (lv_at hl 1 rfl) ?_
  refine g_geti (C := RX6) (T := TX6) (N := 13) hx hb hts (mc_ inX6) hown hK g ma1_ ka1_ (by decide) rfl 3 (by decide) rfl (hts _ (List.mem_cons_of_mem _ t_566)) (fun _ h9 => h9) rfl dX10_drawArgument_2 (fun x_1 bx_1 g => ?_)
  refine lv_icmp_lt (tgt := 10) hx hb dX10_drawArgument_5 (by decide) (fun c_2 => ?_) (fun c_2 => ?_)
  · have fc_2 := lt_f c_2
    have b_3 : bd 1 3 x_1 := ltR fc_2 bx2_ bx_1 (by decide)
    refine lv_aload_n hx hb dX10_drawArgument_10 rfl (lv_at hl 0 rfl) ?_
    refine g_calli (va_runV (As := []) (rest := []) ⟨hx, hb, hml, hown, hts⟩ (r_X10_drawNext l dC dI L kd tys f0 s.heap.size g.2.2.2.1 a0_ ma0_ ka0_) (cwV 0 hts (gV_ t_1678 t_1680 t_80 t_194 t_1681) rfl rfl rfl (by decide +kernel) ⟨(Nat.le_of_ble_eq_true rfl), (Nat.le_of_ble_eq_true rfl)⟩) (pre3V g hK ma0_ ka0_ (by decide) (q := (RX10, TX10, 10)) rfl) rfl rfl hl.1 rfl (lv_room (Nat.le_of_ble_eq_true rfl)) dX10_drawArgument_11 ⟨(Nat.le_of_ble_eq_true rfl), (Nat.le_of_ble_eq_true rfl)⟩) g hK (by decide) (by decide) (fx' := [(6, 3, a1_, .int x_1)]) rfl (fun r_4 fr_4 H locs hp hMr_4 g => ?_)
    obtain ⟨h_5, -⟩ := hp
    refine lv_iconst (v := 4) hx hb dX10_drawArgument_14 (by decide) ?_
    have kb_4 : bd 4 4 (4 : Int32) := ⟨by decide, by decide⟩
    refine lv_irem hx hb dX10_drawArgument_15 (by decide) ?_
    refine lv_topi (fun y_6 ey_6 => ?_)
    have b_7 : bd 0 3 y_6 := rem_rg ey_6 h_5 kb_4 (by decide)
    by_cases e_8 : y_6 = 0
    · refine lv_topi (fun z_9 ez_9 => ?_)
      obtain rfl : z_9 = 0 := ez_9.trans e_8
      have kb_0 : bd 0 0 (0 : Int32) := ⟨by decide, by decide⟩
      have b_10 : bd 0 0 y_6 := eqX (eq_f e_8) b_7 kb_0 (by decide)
      refine lv_tableIn (off := 28) (tgt := 44) hx hb dX10_drawArgument_16 (by decide) (by decide) rfl (by decide) ?_
      refine lv_aload_n hx hb dX10_drawArgument_44 rfl (lv_at hl 1 rfl) ?_
      refine g_getr (K := 134) (C := RX6) (T := TX6) (N := 13) hx hb hts (mc_ inX6) hown hK g ma1_ ka1_ (by decide) rfl 4 (by decide) rfl (hts _ (List.mem_cons_of_mem _ t_571)) (fun _ h9 => h9) rfl dX10_drawArgument_45 (fun a_11 ma_11 ka_11 g => ?_)
      refine lv_iload_n hx hb dX10_drawArgument_48 rfl (lv_at hl 2 rfl) ?_
      refine g_iald hx hb hK g ma_11 ka_11 (by decide) rfl (in_bd bx2_ (by decide)) dX10_drawArgument_49 (fun x_12 bx_12 cx_12 => ?_)
      subst hQ
      exact W.iret (v := x_12) hx hb hr (fun t ht hW => ⟨⟨_, _, rfl, trivial, q3_of g hK ht hW⟩, g.2.2.1.F ht⟩) g.2.2.1.2.2 dX10_drawArgument_50
    by_cases e_13 : y_6 = 1
    · refine lv_topi (fun z_14 ez_14 => ?_)
      obtain rfl : z_14 = 1 := ez_14.trans e_13
      have kb_1 : bd 1 1 (1 : Int32) := ⟨by decide, by decide⟩
      have b_15 : bd 1 1 y_6 := eqX (eq_f e_13) b_7 kb_1 (by decide)
      refine lv_tableIn (off := 35) (tgt := 51) hx hb dX10_drawArgument_16 (by decide) (by decide) rfl (by decide) ?_
      refine lv_aload_n hx hb dX10_drawArgument_51 rfl (lv_at hl 1 rfl) ?_
      refine g_getr (K := 135) (C := RX6) (T := TX6) (N := 13) hx hb hts (mc_ inX6) hown hK g ma1_ ka1_ (by decide) rfl 5 (by decide) rfl (hts _ (List.mem_cons_of_mem _ t_574)) (fun _ h9 => h9) rfl dX10_drawArgument_52 (fun a_16 ma_16 ka_16 g => ?_)
      refine lv_iload_n hx hb dX10_drawArgument_55 rfl (lv_at hl 2 rfl) ?_
      refine g_iald hx hb hK g ma_16 ka_16 (by decide) rfl (in_bd bx2_ (by decide)) dX10_drawArgument_56 (fun x_17 bx_17 cx_17 => ?_)
      subst hQ
      exact W.iret (v := x_17) hx hb hr (fun t ht hW => ⟨⟨_, _, rfl, trivial, q3_of g hK ht hW⟩, g.2.2.1.F ht⟩) g.2.2.1.2.2 dX10_drawArgument_57
    by_cases e_18 : y_6 = 2
    · refine lv_topi (fun z_19 ez_19 => ?_)
      obtain rfl : z_19 = 2 := ez_19.trans e_18
      have kb_2 : bd 2 2 (2 : Int32) := ⟨by decide, by decide⟩
      have b_20 : bd 2 2 y_6 := eqX (eq_f e_18) b_7 kb_2 (by decide)
      refine lv_tableIn (off := 42) (tgt := 58) hx hb dX10_drawArgument_16 (by decide) (by decide) rfl (by decide) ?_
      refine lv_aload_n hx hb dX10_drawArgument_58 rfl (lv_at hl 1 rfl) ?_
      refine lv_iload_n hx hb dX10_drawArgument_59 rfl (lv_at hl 2 rfl) ?_
      refine g_calli (va_runV (As := [.int x2_]) (rest := []) ⟨hx, hb, hml, hown, hts⟩ (r_X6_firstOf l dC dI L kd tys fr_4 H.size g.2.2.2.1 a1_ ma1_ ka1_ x2_) (cwV 1 hts (gV_ t_1692 t_1693 t_1694 t_193 t_1695) rfl rfl rfl (by decide +kernel) ⟨(Nat.le_of_ble_eq_true rfl), (Nat.le_of_ble_eq_true rfl)⟩) (pre3V g hK ma1_ ka1_ (by decide) (q := (RX6, TX6, 13)) rfl) rfl rfl hl.1 rfl (lv_room (Nat.le_of_ble_eq_true rfl)) dX10_drawArgument_60 ⟨(Nat.le_of_ble_eq_true rfl), (Nat.le_of_ble_eq_true rfl)⟩) g hK (by decide) (by decide) (fx' := [(6, 3, a1_, .int x_1)]) rfl (fun r_21 fr_21 H locs hp hMr_21 g => ?_)
      subst hQ
      exact W.iret (v := r_21) hx hb hr (fun t ht hW => ⟨⟨_, _, rfl, trivial, q3_of g hK ht hW⟩, g.2.2.1.F ht⟩) g.2.2.1.2.2 dX10_drawArgument_63
    refine lv_tableOut (tgt := 64) hx hb dX10_drawArgument_16 (by have a0 : y_6.toInt ≠ 0 := fun h => e_8 (Int32.toInt_inj.mp (h.trans (by decide))); have a1 : y_6.toInt ≠ 1 := fun h => e_13 (Int32.toInt_inj.mp (h.trans (by decide))); have a2 : y_6.toInt ≠ 2 := fun h => e_18 (Int32.toInt_inj.mp (h.trans (by decide))); omega) (by decide) ?_
    refine lv_aload_n hx hb dX10_drawArgument_64 rfl (lv_at hl 1 rfl) ?_
    refine g_getr (K := 135) (C := RX6) (T := TX6) (N := 13) hx hb hts (mc_ inX6) hown hK g ma1_ ka1_ (by decide) rfl 5 (by decide) rfl (hts _ (List.mem_cons_of_mem _ t_574)) (fun _ h9 => h9) rfl dX10_drawArgument_65 (fun a_22 ma_22 ka_22 g => ?_)
    refine lv_iload_n hx hb dX10_drawArgument_68 rfl (lv_at hl 2 rfl) ?_
    refine g_iald hx hb hK g ma_22 ka_22 (by decide) rfl (in_bd bx2_ (by decide)) dX10_drawArgument_69 (fun x_23 bx_23 cx_23 => ?_)
    refine lv_i2l hx hb dX10_drawArgument_70 rfl ?_
    refine lv_topl (fun y_24 ey_24 => ?_)
    refine lv_aload_n hx hb dX10_drawArgument_71 rfl (lv_at hl 1 rfl) ?_
    refine g_getr (K := 134) (C := RX6) (T := TX6) (N := 13) hx hb hts (mc_ inX6) hown hK g ma1_ ka1_ (by decide) rfl 4 (by decide) rfl (hts _ (List.mem_cons_of_mem _ t_571)) (fun _ h9 => h9) rfl dX10_drawArgument_72 (fun a_25 ma_25 ka_25 g => ?_)
    refine lv_iload_n hx hb dX10_drawArgument_75 rfl (lv_at hl 2 rfl) ?_
    refine g_iald hx hb hK g ma_25 ka_25 (by decide) rfl (in_bd bx2_ (by decide)) dX10_drawArgument_76 (fun x_26 bx_26 cx_26 => ?_)
    refine lv_i2l hx hb dX10_drawArgument_77 rfl ?_
    refine lv_topl (fun y_27 ey_27 => ?_)
    refine lv_lsub hx hb dX10_drawArgument_78 ?_
    refine lv_topl (fun y_28 ey_28 => ?_)
    refine lv_lconst (v := 1) hx hb dX10_drawArgument_79 (by decide) ?_
    refine lv_ladd hx hb dX10_drawArgument_80 ?_
    refine lv_topl (fun y_29 ey_29 => ?_)
    refine lv_lconst (v := 1) hx hb dX10_drawArgument_81 (by decide) ?_
    refine va_mmax_long hx hb (hml.trans hl.1.symm) hown (hts _ (List.mem_cons_of_mem _ t_1696)) (hts _ (List.mem_cons_of_mem _ t_1697)) (hts _ (List.mem_cons_of_mem _ t_204)) (hts _ (List.mem_cons_of_mem _ t_1698)) (Nat.le_of_ble_eq_true rfl) (Nat.le_of_ble_eq_true rfl) (Nat.le_of_ble_eq_true rfl) (Nat.le_of_ble_eq_true rfl) dX10_drawArgument_82 ?_
    refine lv_topl (fun y_30 ey_30 => ?_)
    refine lv_lstore_n (lv' := [(3, .long y_30), (0, .ref a0_), (1, .ref a1_), (2, .int x2_)]) hx hb dX10_drawArgument_85 rfl hl (by decide) rfl (fun ls hl => ?_)
    refine lv_aload_n hx hb dX10_drawArgument_86 rfl (lv_at hl 2 rfl) ?_
    refine g_getk (C := RX6) (T := TX6) (N := 13) hx hb hts (mc_ inX6) hown hK g rfl 4 (by decide) rfl (hts _ (List.mem_cons_of_mem _ t_571)) (fun _ h9 => h9) 0 rfl dX10_drawArgument_87 ?_
    refine lv_iload_n hx hb dX10_drawArgument_90 rfl (lv_at hl 3 rfl) ?_
    refine g_iald hx hb hK g ma_25 ka_25 (by decide) rfl (in_bd bx2_ (by decide)) dX10_drawArgument_91 (fun x_31 bx_31 cx_31 => ?_)
    obtain rfl : x_26 = x_31 := el_same cx_26 cx_31 rfl
    refine lv_i2l hx hb dX10_drawArgument_92 rfl ?_
    refine lv_topl (fun y_32 ey_32 => ?_)
    refine lv_aload_n hx hb dX10_drawArgument_93 rfl (lv_at hl 1 rfl) ?_
    refine g_calli (va_runV (As := []) (rest := [.long y_32]) ⟨hx, hb, hml, hown, hts⟩ (r_X10_drawNext l dC dI L kd tys fr_4 H.size g.2.2.2.1 a0_ ma0_ ka0_) (cwV 0 hts (gV_ t_1678 t_1680 t_80 t_194 t_1681) rfl rfl rfl (by decide +kernel) ⟨(Nat.le_of_ble_eq_true rfl), (Nat.le_of_ble_eq_true rfl)⟩) (pre3V g hK ma0_ ka0_ (by decide) (q := (RX10, TX10, 10)) rfl) rfl rfl hl.1 rfl (lv_room (Nat.le_of_ble_eq_true rfl)) dX10_drawArgument_94 ⟨(Nat.le_of_ble_eq_true rfl), (Nat.le_of_ble_eq_true rfl)⟩) g hK (by decide) (by decide) (fx' := [(6, 4, a1_, .ref a_25), (6, 5, a1_, .ref a_22), (6, 3, a1_, .int x_1)]) rfl (fun r_33 fr_33 H locs hp hMr_33 g => ?_)
    obtain ⟨h_34, -⟩ := hp
    refine lv_i2l hx hb dX10_drawArgument_97 rfl ?_
    refine lv_topl (fun y_35 ey_35 => ?_)
    refine lv_lload_n hx hb dX10_drawArgument_98 rfl (lv_at hl 0 rfl) ?_
    refine lv_lrem hx hb dX10_drawArgument_99 (mxl1 ey_30) ?_
    refine lv_topl (fun y_36 ey_36 => ?_)
    refine lv_ladd hx hb dX10_drawArgument_100 ?_
    refine lv_topl (fun y_37 ey_37 => ?_)
    refine lv_l2i hx hb dX10_drawArgument_101 rfl ?_
    refine lv_topi (fun y_38 ey_38 => ?_)
    subst hQ
    exact W.iret (v := y_38) hx hb hr (fun t ht hW => ⟨⟨_, _, rfl, trivial, q3_of g hK ht hW⟩, g.2.2.1.F ht⟩) g.2.2.1.2.2 dX10_drawArgument_102
  · have fc_2 := nlt_f c_2
    have b_39 : bd 0 0 x_1 := leL fc_2 bx_1 bx2_ (by decide)
    refine lv_iconst (v := 0) hx hb dX10_drawArgument_8 (by decide) ?_
    subst hQ
    exact W.iret (v := 0) hx hb hr (fun t ht hW => ⟨⟨_, _, rfl, trivial, q3_of g hK ht hW⟩, g.2.2.1.F ht⟩) g.2.2.1.2.2 dX10_drawArgument_9
