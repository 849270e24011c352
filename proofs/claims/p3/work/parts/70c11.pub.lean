set_option maxHeartbeats 4000000 in
set_option maxRecDepth 100000 in
theorem r_X10_askModel_2 (l : Launch) (dC : Nat → ClassId) (dI : Nat → Nat → Nat) (L : List Nat) (kd : Nat → Nat) (tys : List (ClassId × FieldType)) (f0 : Nat → va_E) (sz : Nat) (hWT : WT L kd tys f0) (a0_ : Nat) (ma0_ : a0_ ∈ L) (ka0_ : kd a0_ = 10) (a1_ : Nat) (ma1_ : a1_ ∈ L) (ka1_ : kd a1_ = 4) (x2_ : Int32) (bx2_ : bd 0 2 x2_) (a3_ : Nat) (ma3_ : a3_ ∈ L) (ka3_ : kd a3_ = 6) (a4_ : Nat) (ma4_ : a4_ ∈ L) (ka4_ : kd a4_ = 103) (q0_ : Nat) (mq0_ : q0_ ∈ L) (kq0_ : kd q0_ = 7) (y0_ : Int32) (by0_ : bd 0 8 y0_) (y1_ : Int32) (by1_ : bd (-1) 2147483647 y1_) (y2_ : Int32) (by2_ : bd (-1) 2147483647 y2_) (y3_ : Int32) (by3_ : bd (-1) 2147483647 y3_) (y4_ : Int32) (by4_ : bd (-1) 2147483647 y4_) (y5_ : Int32) (by5_ : bd 1 8 y5_) (y6_ : Int32) (by6_ : bd 1 3 y6_) (y7_ : Int32) (by7_ : bd 0 9 y7_) (hGcq0_ : cOK f0 q0_) (hfx : Fs L kd f0 [(10, 0, a0_, .ref q0_), (4, 0, a1_, .int y0_), (4, 2, a1_, .int y1_), (4, 1, a1_, .int y2_), (4, 4, a1_, .int y3_), (4, 3, a1_, .int y4_), (7, 1, q0_, .int y5_), (4, 6, a1_, .int y6_), (4, 14, a1_, .int y7_)]) : Met l yX10_askModel (.code yX10_askModel cX10_askModel 11 none :: lw_g) ({ frames := 2, cells := 0, slots := 0, locals := 50 }) (va_Pc [.ref a0_, .ref a1_, .int x2_, .ref a3_, .ref a4_] (P3 (dC, dI) L tys f0 sz)) (va_Qv (fun (f : Nat → va_E) => (∃ z0_ : Int32, bd 0 8 z0_ ∧ Fs L kd f [(4, 0, a1_, .int z0_)])) (Q3 (dC, dI) L kd tys [(1, 0), (1, 1), (1, 2), (1, 3), (1, 4), (1, 5), (1, 6), (1, 8), (1, 11), (1, 12), (1, 13), (1, 14), (1, 15), (1, 16), (1, 17), (4, 0), (4, 5)] [100, 101, 102, 116, 117, 146] f0 sz) (pA L sz)) 0 0 (pA L sz) := by
  refine Met.ofW (cc := cX10_askModel) (maxL := 11) (ret := none) (by decide) rfl ?_
  intro p e s m args below meth c s₁ B hml hv
  obtain ⟨rfl, hsz, hP, hK, hD0⟩ := hv
  have hx := B.exec
  have hb := B.bytes
  have hr := B.returns
  have hts := atoms_spec (ws := (.code yX10_askModel cX10_askModel 11 none :: lw_g)) B.pre
  have hown : s.vm.findClass RX10 = some m.cls := findClass_of_methodNamed B.named
  have hlocks := B.notSynchronized
  subst hsz
  have g : G3 (dC, dI) L kd tys s f0 [(1, 0), (1, 1), (1, 2), (1, 3), (1, 4), (1, 5), (1, 6), (1, 8), (1, 11), (1, 12), (1, 13), (1, 14), (1, 15), (1, 16), (1, 17), (4, 0), (4, 5)] [100, 101, 102, 116, 117, 146] f0 s.heap [] [(10, 0, a0_, .ref q0_), (4, 0, a1_, .int y0_), (4, 2, a1_, .int y1_), (4, 1, a1_, .int y2_), (4, 4, a1_, .int y3_), (4, 3, a1_, .int y4_), (7, 1, q0_, .int y5_), (4, 6, a1_, .int y6_), (4, 14, a1_, .int y7_)] := G3.start hP hD0 hWT hfx
  have hl := lv_entry ([.ref a0_, .ref a1_, .int x2_, .ref a3_, .ref a4_]) (n := 11) (Nat.le_of_ble_eq_true rfl)
  rw [lg_entry_eq]
  generalize (lg_sl ([.ref a0_, .ref a1_, .int x2_, .ref a3_, .ref a4_]) ++ List.replicate (11 - (lg_sl ([.ref a0_, .ref a1_, .int x2_, .ref a3_, .ref a4_])).length) Slot.unset).toArray = ls at hl ⊢
  have hl : lv_has ls 11 [(0, .ref a0_), (1, .ref a1_), (2, .int x2_), (3, .ref a3_), (4, .ref a4_)] := hl
  refine W_q (fun Q hQ => ?_)
  refine lv_aload_n hx hb dX10_askModel_0 rfl (lv_at hl 1 rfl) ?_
  refine g_getr (K := 127) (C := RX4) (T := TX4) (N := 17) hx hb hts (mc_ inX4) hown hK g ma1_ ka1_ (by decide) rfl 8 (by decide) rfl (hts _ (List.mem_cons_of_mem _ t_857)) (fun _ h9 => h9) rfl dX10_askModel_1 (fun a_1 ma_1 ka_1 g => ?_)
  refine lv_iload_n hx hb dX10_askModel_4 rfl (lv_at hl 2 rfl) ?_
  refine g_iald hx hb hK g ma_1 ka_1 (by decide) rfl (in_bd bx2_ (by decide)) dX10_askModel_5 (fun x_2 bx_2 cx_2 => ?_)
  refine lv_istore (lv' := [(5, .int x_2), (0, .ref a0_), (1, .ref a1_), (2, .int x2_), (3, .ref a3_), (4, .ref a4_)]) hx hb dX10_askModel_6 hl (by decide) rfl (fun ls hl => ?_)
  refine lv_aload_n hx hb dX10_askModel_8 rfl (lv_at hl 2 rfl) ?_
  refine g_getk (C := RX4) (T := TX4) (N := 17) hx hb hts (mc_ inX4) hown hK g rfl 0 (by decide) rfl (hts _ (List.mem_cons_of_mem _ t_837)) (fun _ h9 => h9) 2 rfl dX10_askModel_9 ?_
  have kb_0 : bd 0 0 (0 : Int32) := ⟨by decide, by decide⟩
  refine lv_if_ne (tgt := 27) hx hb dX10_askModel_12 (by decide) (fun c_3 => ?_) (fun c_3 => ?_)
  · have fc_3 := neq_f c_3
    have b_4 : bd 1 8 y0_ := neX fc_3 by0_ kb_0 (by decide)
    subst hQ
    exact W.vret hx hb hr (fun t ht hW => ⟨⟨_, rfl, ⟨y0_, (bd_sub b_4 (by decide)), (g.fcts [2] rfl)⟩, q3_of g hK ht hW⟩, g.2.2.1.F ht⟩) g.2.2.1.2.2 dX10_askModel_27
  · have fc_3 := eq_f c_3
    have b_5 : bd 0 0 y0_ := eqX fc_3 by0_ kb_0 (by decide)
    refine lv_aload_n hx hb dX10_askModel_15 rfl (lv_at hl 1 rfl) ?_
    refine g_getk (C := RX10) (T := TX10) (N := 10) hx hb hts (mc_ inX10) hown hK g rfl 0 (by decide) rfl (hts _ (List.mem_cons_of_mem _ t_912)) (fun _ h9 => h9) 1 rfl dX10_askModel_16 ?_
    refine lv_iload hx hb dX10_askModel_19 (lv_at hl 0 rfl) ?_
    have go_ := g
    refine g_calli (va_runV (As := [.int x_2]) (rest := []) ⟨hx, hb, hml, hown, hts⟩ (r_X7_hasClass l dC dI L kd tys f0 s.heap.size g.2.2.2.1 q0_ mq0_ kq0_ x_2) (cwV 1 hts (gV_ t_1534 t_1281 t_1282 t_191 t_1283) rfl rfl rfl (by decide +kernel) ⟨(Nat.le_of_ble_eq_true rfl), (Nat.le_of_ble_eq_true rfl)⟩) (pre3V g hK mq0_ kq0_ (by decide) (q := (RX7, TX7, 19)) rfl) rfl rfl hl.1 rfl (lv_room (Nat.le_of_ble_eq_true rfl)) dX10_askModel_21 ⟨(Nat.le_of_ble_eq_true rfl), (Nat.le_of_ble_eq_true rfl)⟩) g hK (by decide) (by decide) (fx' := [(4, 8, a1_, .ref a_1), (10, 0, a0_, .ref q0_), (4, 0, a1_, .int y0_), (4, 2, a1_, .int y1_), (4, 1, a1_, .int y2_), (4, 4, a1_, .int y3_), (4, 3, a1_, .int y4_), (7, 1, q0_, .int y5_), (4, 6, a1_, .int y6_), (4, 14, a1_, .int y7_)]) rfl (fun r_6 fr_6 H locs hp hMr_6 g => ?_)
    rcases hp with ⟨h_7, -⟩ | ⟨h_8, h_9, x_10, h_11, hF_12⟩
    · have hG_13 := cOK.frame hMr_6 go_.2.2.2.1 mq0_ kq0_ (by decide) (by decide) hGcq0_
      obtain rfl : r_6 = 0 := h_7
      refine lv_if_ne (tgt := 28) hx hb dX10_askModel_24 (by decide) (fun c_ => absurd c_ (by decide)) (fun c_ => ?_)
      subst hQ
      exact W.vret hx hb hr (fun t ht hW => ⟨⟨_, rfl, ⟨y0_, (bd_sub b_5 (by decide)), (g.fcts [2] rfl)⟩, q3_of g hK ht hW⟩, g.2.2.1.F ht⟩) g.2.2.1.2.2 dX10_askModel_27
    · have hG_14 := cOK.frame hMr_6 go_.2.2.2.1 mq0_ kq0_ (by decide) (by decide) hGcq0_
      obtain rfl : r_6 = 1 := h_8
      have b_15 : bd 0 7 x_2 := eqX rfl (bdT x_2) h_9 (by decide)
      have g := g.more hF_12
      have e_16 := fx_same g 8 0 rfl rfl
      have g := g.sub (fx' := [(4, 8, a1_, .ref a_1), (10, 0, a0_, .ref q0_), (4, 0, a1_, .int y0_), (4, 2, a1_, .int y1_), (4, 1, a1_, .int y2_), (4, 4, a1_, .int y3_), (4, 3, a1_, .int y4_), (7, 1, q0_, .int y5_), (4, 6, a1_, .int y6_), (4, 14, a1_, .int y7_)]) [1, 2, 3, 4, 5, 6, 7, 8, 9, 10] rfl
      refine lv_if_ne (tgt := 28) hx hb dX10_askModel_24 (by decide) (fun c_ => ?_) (fun c_ => absurd c_ (by decide))
      refine lv_aload_n hx hb dX10_askModel_28 rfl (lv_at hl 1 rfl) ?_
      refine g_getk (C := RX10) (T := TX10) (N := 10) hx hb hts (mc_ inX10) hown hK g rfl 0 (by decide) rfl (hts _ (List.mem_cons_of_mem _ t_912)) (fun _ h9 => h9) 1 rfl dX10_askModel_29 ?_
      refine g_getr (K := 136) (C := RX7) (T := TX7) (N := 19) hx hb hts (mc_ inX7) hown hK g mq0_ kq0_ (by decide) rfl 0 (by decide) rfl (hts _ (List.mem_cons_of_mem _ t_624)) (fun _ h9 => h9) rfl dX10_askModel_32 (fun a_17 ma_17 ka_17 g => ?_)
      refine lv_iload hx hb dX10_askModel_35 (lv_at hl 0 rfl) ?_
      refine g_aald hx hb hK g ma_17 ka_17 (by decide) rfl (by decide) (in_bd b_15 (by decide)) dX10_askModel_37 (fun a_18 ma_18 ua_18 wa_18 => ?_)
      have ka_18 : kd a_18 = 9 := by omega
      refine lv_astore (lv' := [(6, .ref a_18), (5, .int x_2), (0, .ref a0_), (1, .ref a1_), (2, .int x2_), (3, .ref a3_), (4, .ref a4_)]) hx hb dX10_askModel_38 hl (by decide) rfl (fun ls hl => ?_)
      refine lv_aload_n hx hb dX10_askModel_40 rfl (lv_at hl 2 rfl) ?_
      refine g_getk (C := RX10) (T := TX10) (N := 10) hx hb hts (mc_ inX10) hown hK g rfl 0 (by decide) rfl (hts _ (List.mem_cons_of_mem _ t_912)) (fun _ h9 => h9) 2 rfl dX10_askModel_41 ?_
      refine lv_aload hx hb dX10_askModel_44 (lv_at hl 0 rfl) ?_
      refine lv_aload_n hx hb dX10_askModel_46 rfl (lv_at hl 5 rfl) ?_
      refine g_getl (C := RX6) (T := TX6) (N := 13) hx hb hts (mc_ inX6) hown hK g ma3_ ka3_ (by decide) rfl 0 (by decide) rfl (hts _ (List.mem_cons_of_mem _ t_557)) (fun _ h9 => h9) rfl dX10_askModel_47 (fun x_19 g => ?_)
      have go_ := g
      refine g_calli (va_runV (As := [.ref a_18, .long x_19]) (rest := []) ⟨hx, hb, hml, hown, hts⟩ (r_X7_memberNamed l dC dI L kd tys fr_6 H.size g.2.2.2.1 q0_ mq0_ kq0_ a_18 ma_18 ka_18 x_19) (cwV 2 hts (gV_ t_1665 t_1244 t_1245 t_191 t_1246) rfl rfl rfl (by decide +kernel) ⟨(Nat.le_of_ble_eq_true rfl), (Nat.le_of_ble_eq_true rfl)⟩) (pre3V g hK mq0_ kq0_ (by decide) (q := (RX7, TX7, 19)) rfl) rfl rfl hl.1 rfl (lv_room (Nat.le_of_ble_eq_true rfl)) dX10_askModel_50 ⟨(Nat.le_of_ble_eq_true rfl), (Nat.le_of_ble_eq_true rfl)⟩) g hK (by decide) (by decide) (fx' := [(6, 0, a3_, .long x_19), (7, 0, q0_, .ref a_17), (4, 8, a1_, .ref a_1), (10, 0, a0_, .ref q0_), (4, 0, a1_, .int y0_), (4, 2, a1_, .int y1_), (4, 1, a1_, .int y2_), (4, 4, a1_, .int y3_), (4, 3, a1_, .int y4_), (7, 1, q0_, .int y5_), (4, 6, a1_, .int y6_), (4, 14, a1_, .int y7_)]) rfl (fun r_20 fr_20 H locs hp hMr_20 g => ?_)
      obtain ⟨h_21, -⟩ := hp
      have hG_22 := cOK.frame hMr_20 go_.2.2.2.1 mq0_ kq0_ (by decide) (by decide) hG_14
      refine lv_istore (lv' := [(7, .int r_20), (6, .ref a_18), (5, .int x_2), (0, .ref a0_), (1, .ref a1_), (2, .int x2_), (3, .ref a3_), (4, .ref a4_)]) hx hb dX10_askModel_53 hl (by decide) rfl (fun ls hl => ?_)
      refine lv_iload hx hb dX10_askModel_55 (lv_at hl 0 rfl) ?_
      refine lv_iconst (v := (-1)) hx hb dX10_askModel_57 (by decide) ?_
      have kb_m1 : bd (-1) (-1) ((-1) : Int32) := ⟨by decide, by decide⟩
      refine lv_icmp_eq (tgt := 87) hx hb dX10_askModel_58 (by decide) (fun c_23 => ?_) (fun c_23 => ?_)
      · have fc_23 := eq_f c_23
        have b_24 : bd (-1) (-1) r_20 := eqX fc_23 h_21 kb_m1 (by decide)
        subst hQ
        exact W.vret hx hb hr (fun t ht hW => ⟨⟨_, rfl, ⟨y0_, (bd_sub b_5 (by decide)), (g.fcts [4] rfl)⟩, q3_of g hK ht hW⟩, g.2.2.1.F ht⟩) g.2.2.1.2.2 dX10_askModel_87
      · have fc_23 := neq_f c_23
        have b_25 : bd 0 11 r_20 := neX fc_23 h_21 kb_m1 (by decide)
        refine lv_aload_n hx hb dX10_askModel_61 rfl (lv_at hl 3 rfl) ?_
        refine g_getk (C := RX10) (T := TX10) (N := 10) hx hb hts (mc_ inX10) hown hK g rfl 0 (by decide) rfl (hts _ (List.mem_cons_of_mem _ t_912)) (fun _ h9 => h9) 3 rfl dX10_askModel_62 ?_
        refine g_getr (K := 137) (C := RX7) (T := TX7) (N := 19) hx hb hts (mc_ inX7) hown hK g mq0_ kq0_ (by decide) rfl 2 (by decide) rfl (hts _ (List.mem_cons_of_mem _ t_634)) (fun _ h9 => h9) rfl dX10_askModel_65 (fun a_26 ma_26 ka_26 g => ?_)
        refine lv_aload hx hb dX10_askModel_68 (lv_at hl 1 rfl) ?_
        refine g_getr (K := 156) (C := RX9) (T := TX9) (N := 13) hx hb hts (mc_ inX9) hown hK g ma_18 ka_18 (by decide) rfl 9 (by decide) rfl (hts _ (List.mem_cons_of_mem _ t_509)) (fun _ h9 => h9) rfl dX10_askModel_70 (fun a_27 ma_27 ka_27 g => ?_)
        refine lv_iload hx hb dX10_askModel_73 (lv_at hl 0 rfl) ?_
        refine g_iald hx hb hK g ma_27 ka_27 (by decide) rfl (in_bd b_25 (by decide)) dX10_askModel_75 (fun x_28 bx_28 cx_28 => ?_)
        refine g_aald hx hb hK g ma_26 ka_26 (by decide) rfl (by decide) (in_bd bx_28 (by decide)) dX10_askModel_76 (fun a_29 ma_29 ua_29 wa_29 => ?_)
        have ka_29 : kd a_29 = 6 := by omega
        refine g_geti (C := RX6) (T := TX6) (N := 13) hx hb hts (mc_ inX6) hown hK g ma_29 ka_29 (by decide) rfl 3 (by decide) rfl (hts _ (List.mem_cons_of_mem _ t_566)) (fun _ h9 => h9) rfl dX10_askModel_77 (fun x_30 bx_30 g => ?_)
        refine lv_aload_n hx hb dX10_askModel_80 rfl (lv_at hl 6 rfl) ?_
        refine g_geti (C := RX6) (T := TX6) (N := 13) hx hb hts (mc_ inX6) hown hK g ma3_ ka3_ (by decide) rfl 3 (by decide) rfl (hts _ (List.mem_cons_of_mem _ t_566)) (fun _ h9 => h9) rfl dX10_askModel_81 (fun x_31 bx_31 g => ?_)
        refine lv_icmp_eq (tgt := 88) hx hb dX10_askModel_84 (by decide) (fun c_32 => ?_) (fun c_32 => ?_)
        · have fc_32 := eq_f c_32
          refine lv_aload_n hx hb dX10_askModel_88 rfl (lv_at hl 4 rfl) ?_
          refine g_getl (C := RX4) (T := TX4) (N := 17) hx hb hts (mc_ inX4) hown hK g ma1_ ka1_ (by decide) rfl 5 (by decide) rfl (hts _ (List.mem_cons_of_mem _ t_848)) (fun _ h9 => h9) rfl dX10_askModel_89 (fun x_33 g => ?_)
          refine lv_lstore (lv' := [(8, .long x_33), (7, .int r_20), (6, .ref a_18), (5, .int x_2), (0, .ref a0_), (1, .ref a1_), (2, .int x2_), (3, .ref a3_), (4, .ref a4_)]) hx hb dX10_askModel_92 hl (by decide) rfl (fun ls hl => ?_)
          refine lv_aload_n hx hb dX10_askModel_94 rfl (lv_at hl 4 rfl) ?_
          refine g_getr (K := 1) (C := RX10) (T := TX10) (N := 10) hx hb hts (mc_ inX10) hown hK g ma0_ ka0_ (by decide) rfl 1 (by decide) rfl (hts _ (List.mem_cons_of_mem _ t_913)) (fun _ h9 => h9) rfl dX10_askModel_95 (fun a_34 ma_34 ka_34 g => ?_)
          refine lv_aload_n hx hb dX10_askModel_98 rfl (lv_at hl 4 rfl) ?_
          refine g_getk (C := RX10) (T := TX10) (N := 10) hx hb hts (mc_ inX10) hown hK g rfl 0 (by decide) rfl (hts _ (List.mem_cons_of_mem _ t_912)) (fun _ h9 => h9) 9 rfl dX10_askModel_99 ?_
          refine lv_aload hx hb dX10_askModel_102 (lv_at hl 2 rfl) ?_
          refine lv_aload_n hx hb dX10_askModel_104 rfl (lv_at hl 5 rfl) ?_
          refine g_getr (K := 129) (C := RX4) (T := TX4) (N := 17) hx hb hts (mc_ inX4) hown hK g ma1_ ka1_ (by decide) rfl 10 (by decide) rfl (hts _ (List.mem_cons_of_mem _ t_863)) (fun _ h9 => h9) rfl dX10_askModel_105 (fun a_35 ma_35 ka_35 g => ?_)
          refine lv_iload_n hx hb dX10_askModel_108 rfl (lv_at hl 6 rfl) ?_
          refine g_aald hx hb hK g ma_35 ka_35 (by decide) rfl (by decide) (in_bd bx2_ (by decide)) dX10_askModel_109 (fun a_36 ma_36 ua_36 wa_36 => ?_)
          have ka_36 : kd a_36 = 101 := by omega
          refine lv_aload_n hx hb dX10_askModel_110 rfl (lv_at hl 5 rfl) ?_
          refine g_getk (C := RX4) (T := TX4) (N := 17) hx hb hts (mc_ inX4) hown hK g rfl 10 (by decide) rfl (hts _ (List.mem_cons_of_mem _ t_863)) (fun _ h9 => h9) 0 rfl dX10_askModel_111 ?_
          refine lv_iload_n hx hb dX10_askModel_114 rfl (lv_at hl 6 rfl) ?_
          refine g_aald hx hb hK g ma_35 ka_35 (by decide) rfl (by decide) (in_bd bx2_ (by decide)) dX10_askModel_115 (fun a_37 ma_37 ua_37 wa_37 => ?_)
          have ka_37 : kd a_37 = 101 := by omega
          refine lv_aload hx hb dX10_askModel_116 (lv_at hl 8 rfl) ?_
          have go_ := g
          refine g_callv (va_runV (As := [.ref q0_, .ref a_18, .ref a_36, .ref a_37, .ref a4_]) (rest := []) ⟨hx, hb, hml, hown, hts⟩ (r_X1_standOn_4 l dC dI L kd tys fr_20 H.size g.2.2.2.1 a_34 ma_34 ka_34 q0_ mq0_ kq0_ a_18 ma_18 ka_18 a_36 ma_36 ka_36 a_37 ma_37 ka_37 a4_ ma4_ ka4_) (cwV 5 hts (gV_ t_1543 t_1544 t_1545 t_195 t_1546) rfl rfl rfl (by decide +kernel) ⟨(Nat.le_of_ble_eq_true rfl), (Nat.le_of_ble_eq_true rfl)⟩) (pre3V g hK ma_34 ka_34 (by decide) (q := (RX1, TX1, 18)) rfl) rfl rfl hl.1 rfl (lv_room (Nat.le_of_ble_eq_true rfl)) dX10_askModel_118 ⟨(Nat.le_of_ble_eq_true rfl), (Nat.le_of_ble_eq_true rfl)⟩) g hK (by decide) (by decide) (fx' := [(4, 10, a1_, .ref a_35), (10, 1, a0_, .ref a_34), (4, 5, a1_, .long x_33), (6, 3, a3_, .int x_31), (6, 3, a_29, .int x_30), (9, 9, a_18, .ref a_27), (7, 2, q0_, .ref a_26), (6, 0, a3_, .long x_19), (7, 0, q0_, .ref a_17), (4, 8, a1_, .ref a_1), (10, 0, a0_, .ref q0_), (4, 0, a1_, .int y0_), (4, 2, a1_, .int y1_), (4, 1, a1_, .int y2_), (4, 4, a1_, .int y3_), (4, 3, a1_, .int y4_), (7, 1, q0_, .int y5_), (4, 6, a1_, .int y6_), (4, 14, a1_, .int y7_)]) rfl (fun fr_38 H locs hp hMr_38 g => ?_)
          have hF_39 := hp
          have hG_40 := cOK.frame hMr_38 go_.2.2.2.1 mq0_ kq0_ (by decide) (by decide) hG_22
          have g := g.more hF_39
          refine lv_aload_n hx hb dX10_askModel_121 rfl (lv_at hl 4 rfl) ?_
          refine g_getk (C := RX10) (T := TX10) (N := 10) hx hb hts (mc_ inX10) hown hK g rfl 1 (by decide) rfl (hts _ (List.mem_cons_of_mem _ t_913)) (fun _ h9 => h9) 6 rfl dX10_askModel_122 ?_
          refine lv_aload_n hx hb dX10_askModel_125 rfl (lv_at hl 4 rfl) ?_
          refine g_getk (C := RX10) (T := TX10) (N := 10) hx hb hts (mc_ inX10) hown hK g rfl 0 (by decide) rfl (hts _ (List.mem_cons_of_mem _ t_912)) (fun _ h9 => h9) 15 rfl dX10_askModel_126 ?_
          refine g_getk (C := RX7) (T := TX7) (N := 19) hx hb hts (mc_ inX7) hown hK g rfl 2 (by decide) rfl (hts _ (List.mem_cons_of_mem _ t_634)) (fun _ h9 => h9) 11 rfl dX10_askModel_129 ?_
          refine lv_aload hx hb dX10_askModel_132 (lv_at hl 2 rfl) ?_
          refine g_getk (C := RX9) (T := TX9) (N := 13) hx hb hts (mc_ inX9) hown hK g rfl 9 (by decide) rfl (hts _ (List.mem_cons_of_mem _ t_509)) (fun _ h9 => h9) 10 rfl dX10_askModel_134 ?_
          refine lv_iload hx hb dX10_askModel_137 (lv_at hl 1 rfl) ?_
          refine g_iald hx hb hK g ma_27 ka_27 (by decide) rfl (in_bd b_25 (by decide)) dX10_askModel_139 (fun x_41 bx_41 cx_41 => ?_)
          obtain rfl : x_28 = x_41 := el_same cx_28 cx_41 (arr_eq hMr_38 ma_27 ka_27 (by decide) rfl)
          refine g_aald hx hb hK g ma_26 ka_26 (by decide) rfl (by decide) (in_bd bx_28 (by decide)) dX10_askModel_140 (fun a_42 ma_42 ua_42 wa_42 => ?_)
          have ka_42 : kd a_42 = 6 := by omega
          have go_ := g
          refine g_callv (va_runV (As := [.ref a_42]) (rest := []) ⟨hx, hb, hml, hown, hts⟩ (r_X1_readyToCall l dC dI L kd tys fr_38 H.size g.2.2.2.1 a_34 ma_34 ka_34 a_42 ma_42 ka_42) (cwV 1 hts (gV_ t_1629 t_1630 t_1631 t_195 t_1632) rfl rfl rfl (by decide +kernel) ⟨(Nat.le_of_ble_eq_true rfl), (Nat.le_of_ble_eq_true rfl)⟩) (pre3V g hK ma_34 ka_34 (by decide) (q := (RX1, TX1, 18)) rfl) rfl rfl hl.1 rfl (lv_room (Nat.le_of_ble_eq_true rfl)) dX10_askModel_141 ⟨(Nat.le_of_ble_eq_true rfl), (Nat.le_of_ble_eq_true rfl)⟩) g hK (by decide) (by decide) (fx' := [(1, 4, a_34, .ref a4_), (1, 3, a_34, .ref a_37), (1, 2, a_34, .ref a_36), (1, 1, a_34, .ref a_18), (1, 0, a_34, .ref q0_), (4, 10, a1_, .ref a_35), (10, 1, a0_, .ref a_34), (4, 5, a1_, .long x_33), (6, 3, a3_, .int x_31), (6, 3, a_29, .int x_30), (9, 9, a_18, .ref a_27), (7, 2, q0_, .ref a_26), (6, 0, a3_, .long x_19), (7, 0, q0_, .ref a_17), (4, 8, a1_, .ref a_1), (10, 0, a0_, .ref q0_), (4, 0, a1_, .int y0_), (4, 2, a1_, .int y1_), (4, 1, a1_, .int y2_), (4, 4, a1_, .int y3_), (4, 3, a1_, .int y4_), (7, 1, q0_, .int y5_), (4, 6, a1_, .int y6_), (4, 14, a1_, .int y7_)]) rfl (fun fr_43 H locs hp hMr_43 g => ?_)
          have hF_44 := hp
          have hG_45 := cOK.frame hMr_43 go_.2.2.2.1 mq0_ kq0_ (by decide) (by decide) hG_40
          have g := g.more hF_44
          refine lv_aload_n hx hb dX10_askModel_144 rfl (lv_at hl 4 rfl) ?_
          refine g_getk (C := RX10) (T := TX10) (N := 10) hx hb hts (mc_ inX10) hown hK g rfl 1 (by decide) rfl (hts _ (List.mem_cons_of_mem _ t_913)) (fun _ h9 => h9) 9 rfl dX10_askModel_145 ?_
          have kb_1 : bd 1 1 (1 : Int32) := ⟨by decide, by decide⟩
          have go_ := g
          refine g_callv (va_runV (As := []) (rest := []) ⟨hx, hb, hml, hown, hts⟩ (r_X1_go_3 l dC dI L kd tys fr_43 H.size g.2.2.2.1 a_34 ma_34 ka_34 q0_ mq0_ kq0_ a_18 ma_18 ka_18 1 kb_1 0 kb_0 0 kb_0 y5_ by5_ hG_45 (g.fcts [7, 6, 0, 1, 2, 24] rfl)) (cwV 0 hts (gV_ t_1555 t_1556 t_1557 t_195 t_1558) rfl rfl rfl (by decide +kernel) ⟨(Nat.le_of_ble_eq_true rfl), (Nat.le_of_ble_eq_true rfl)⟩) (pre3V g hK ma_34 ka_34 (by decide) (q := (RX1, TX1, 18)) rfl) rfl rfl hl.1 rfl (lv_room (Nat.le_of_ble_eq_true rfl)) dX10_askModel_148 ⟨(Nat.le_of_ble_eq_true rfl), (Nat.le_of_ble_eq_true rfl)⟩) g hK (by decide) (by decide) (fx' := [(1, 12, a_34, .int 1), (1, 6, a_34, .int 0), (1, 5, a_34, .int 0), (1, 4, a_34, .ref a4_), (1, 3, a_34, .ref a_37), (1, 2, a_34, .ref a_36), (1, 1, a_34, .ref a_18), (1, 0, a_34, .ref q0_), (4, 10, a1_, .ref a_35), (10, 1, a0_, .ref a_34), (4, 5, a1_, .long x_33), (6, 3, a3_, .int x_31), (6, 3, a_29, .int x_30), (9, 9, a_18, .ref a_27), (7, 2, q0_, .ref a_26), (6, 0, a3_, .long x_19), (7, 0, q0_, .ref a_17), (4, 8, a1_, .ref a_1), (10, 0, a0_, .ref q0_), (4, 0, a1_, .int y0_), (4, 2, a1_, .int y1_), (4, 1, a1_, .int y2_), (4, 4, a1_, .int y3_), (4, 3, a1_, .int y4_), (7, 1, q0_, .int y5_), (4, 6, a1_, .int y6_), (4, 14, a1_, .int y7_)]) rfl (fun fr_46 H locs hp hMr_46 g => ?_)
          obtain ⟨x_47, h_48, hF_49⟩ := hp
          have hG_50 := cOK.frame hMr_46 go_.2.2.2.1 mq0_ kq0_ (by decide) (by decide) hG_45
          have g := g.more hF_49
          refine lv_aload_n hx hb dX10_askModel_151 rfl (lv_at hl 4 rfl) ?_
          refine g_getk (C := RX10) (T := TX10) (N := 10) hx hb hts (mc_ inX10) hown hK g rfl 1 (by decide) rfl (hts _ (List.mem_cons_of_mem _ t_913)) (fun _ h9 => h9) 10 rfl dX10_askModel_152 ?_
          refine g_geti (C := RX1) (T := TX1) (N := 18) hx hb hts (mc_ inX1) hown hK g ma_34 ka_34 (by decide) rfl 15 (by decide) rfl (hts _ (List.mem_cons_of_mem _ t_751)) (fun _ h9 => h9) rfl dX10_askModel_155 (fun x_51 bx_51 g => ?_)
          refine lv_aload_n hx hb dX10_askModel_158 rfl (lv_at hl 5 rfl) ?_
          refine g_geti (C := RX4) (T := TX4) (N := 17) hx hb hts (mc_ inX4) hown hK g ma1_ ka1_ (by decide) rfl 15 (by decide) rfl (hts _ (List.mem_cons_of_mem _ t_875)) (fun _ h9 => h9) rfl dX10_askModel_159 (fun x_52 bx_52 g => ?_)
          refine lv_icmp_ne (tgt := 169) hx hb dX10_askModel_162 (by decide) (fun c_53 => ?_) (fun c_53 => ?_)
          · have fc_53 := neq_f c_53
            refine lv_iconst (v := 0) hx hb dX10_askModel_169 (by decide) ?_
            refine lv_istore (lv' := [(10, .int 0), (8, .long x_33), (7, .int r_20), (6, .ref a_18), (5, .int x_2), (0, .ref a0_), (1, .ref a1_), (2, .int x2_), (3, .ref a3_), (4, .ref a4_)]) hx hb dX10_askModel_170 hl (by decide) rfl (fun ls hl => ?_)
            refine lv_aload_n hx hb dX10_askModel_172 rfl (lv_at hl 5 rfl) ?_
            refine g_getk (C := RX10) (T := TX10) (N := 10) hx hb hts (mc_ inX10) hown hK g rfl 1 (by decide) rfl (hts _ (List.mem_cons_of_mem _ t_913)) (fun _ h9 => h9) 12 rfl dX10_askModel_173 ?_
            refine g_getk (C := RX1) (T := TX1) (N := 18) hx hb hts (mc_ inX1) hown hK g rfl 15 (by decide) rfl (hts _ (List.mem_cons_of_mem _ t_751)) (fun _ h9 => h9) 1 rfl dX10_askModel_176 ?_
            refine lv_iconst (v := 2) hx hb dX10_askModel_179 (by decide) ?_
            have kb_2 : bd 2 2 (2 : Int32) := ⟨by decide, by decide⟩
            refine lv_icmp_ne (tgt := 222) hx hb dX10_askModel_180 (by decide) (fun c_54 => ?_) (fun c_54 => ?_)
            · have fc_54 := neq_f c_54
              refine lv_iload hx hb dX10_askModel_222 (lv_at hl 0 rfl) ?_
              refine lv_if_eq (tgt := 245) hx hb dX10_askModel_224 (by decide) (fun c_ => ?_) (fun c_ => absurd (by decide) c_)
              refine lv_iconst (v := 0) hx hb dX10_askModel_245 (by decide) ?_
              refine lv_istore (lv' := [(10, .int 0), (8, .long x_33), (7, .int r_20), (6, .ref a_18), (5, .int x_2), (0, .ref a0_), (1, .ref a1_), (2, .int x2_), (3, .ref a3_), (4, .ref a4_)]) hx hb dX10_askModel_246 hl (by decide) rfl (fun ls hl => ?_)
              refine lv_aload_n hx hb dX10_askModel_248 rfl (lv_at hl 6 rfl) ?_
              refine lv_iload hx hb dX10_askModel_249 (lv_at hl 0 rfl) ?_
              refine lv_if_eq (tgt := 258) hx hb dX10_askModel_251 (by decide) (fun c_ => ?_) (fun c_ => absurd (by decide) c_)
              refine lv_bipush (v := 6) hx hb dX10_askModel_258 (by decide) ?_
              have kb_6 : bd 6 6 (6 : Int32) := ⟨by decide, by decide⟩
              have go_ := g
              refine g_put (C := RX4) (T := TX4) (N := 17) hx hb hts (mc_ inX4) tyX4 tyX4_ok nmX4 hown hK g ma1_ ka1_ (by decide) rfl 0 (by decide) (hts _ (List.mem_cons_of_mem _ t_837)) (fun _ h9 => h9) rfl rfl (okV_i (bd_sub kb_6 (by decide))) rfl rfl (by decide) (Or.inr (Or.inl (by decide))) (fx' := [(4, 15, a1_, .int x_52), (1, 15, a_34, .int x_51), (1, 11, a_34, .int x_47), (1, 12, a_34, .int 1), (1, 6, a_34, .int 0), (1, 5, a_34, .int 0), (1, 4, a_34, .ref a4_), (1, 3, a_34, .ref a_37), (1, 2, a_34, .ref a_36), (1, 1, a_34, .ref a_18), (1, 0, a_34, .ref q0_), (4, 10, a1_, .ref a_35), (10, 1, a0_, .ref a_34), (4, 5, a1_, .long x_33), (6, 3, a3_, .int x_31), (6, 3, a_29, .int x_30), (9, 9, a_18, .ref a_27), (7, 2, q0_, .ref a_26), (6, 0, a3_, .long x_19), (7, 0, q0_, .ref a_17), (4, 8, a1_, .ref a_1), (10, 0, a0_, .ref q0_), (4, 2, a1_, .int y1_), (4, 1, a1_, .int y2_), (4, 4, a1_, .int y3_), (4, 3, a1_, .int y4_), (7, 1, q0_, .int y5_), (4, 6, a1_, .int y6_), (4, 14, a1_, .int y7_)]) rfl dX10_askModel_260 (fun f H locs hM_55 g => ?_)
              have hG_56 := cOK.frame hM_55 go_.2.2.2.1 mq0_ kq0_ (by decide) (by decide) hG_50
              subst hQ
              exact W.vret hx hb hr (fun t ht hW => ⟨⟨_, rfl, ⟨6, (bd_sub kb_6 (by decide)), (g.fcts [0] rfl)⟩, q3_of g hK ht hW⟩, g.2.2.1.F ht⟩) g.2.2.1.2.2 dX10_askModel_263
            · have fc_54 := eq_f c_54
              have b_57 : bd 2 2 x_51 := eqX fc_54 (bdT x_51) kb_2 (by decide)
              refine lv_aload_n hx hb dX10_askModel_183 rfl (lv_at hl 6 rfl) ?_
              refine lv_aload_n hx hb dX10_askModel_184 rfl (lv_at hl 5 rfl) ?_
              refine g_getk (C := RX10) (T := TX10) (N := 10) hx hb hts (mc_ inX10) hown hK g rfl 1 (by decide) rfl (hts _ (List.mem_cons_of_mem _ t_913)) (fun _ h9 => h9) 12 rfl dX10_askModel_185 ?_
              refine g_getl (C := RX1) (T := TX1) (N := 18) hx hb hts (mc_ inX1) hown hK g ma_34 ka_34 (by decide) rfl 17 (by decide) rfl (hts _ (List.mem_cons_of_mem _ t_755)) (fun _ h9 => h9) rfl dX10_askModel_188 (fun x_58 g => ?_)
              have go_ := g
              refine g_put (C := RX4) (T := TX4) (N := 17) hx hb hts (mc_ inX4) tyX4 tyX4_ok nmX4 hown hK g ma1_ ka1_ (by decide) rfl 5 (by decide) (hts _ (List.mem_cons_of_mem _ t_848)) (fun _ h9 => h9) rfl rfl okV_l rfl rfl (by decide) (Or.inr (Or.inl (by decide))) (fx' := [(1, 17, a_34, .long x_58), (4, 15, a1_, .int x_52), (1, 15, a_34, .int x_51), (1, 11, a_34, .int x_47), (1, 12, a_34, .int 1), (1, 6, a_34, .int 0), (1, 5, a_34, .int 0), (1, 4, a_34, .ref a4_), (1, 3, a_34, .ref a_37), (1, 2, a_34, .ref a_36), (1, 1, a_34, .ref a_18), (1, 0, a_34, .ref q0_), (4, 10, a1_, .ref a_35), (10, 1, a0_, .ref a_34), (6, 3, a3_, .int x_31), (6, 3, a_29, .int x_30), (9, 9, a_18, .ref a_27), (7, 2, q0_, .ref a_26), (6, 0, a3_, .long x_19), (7, 0, q0_, .ref a_17), (4, 8, a1_, .ref a_1), (10, 0, a0_, .ref q0_), (4, 0, a1_, .int y0_), (4, 2, a1_, .int y1_), (4, 1, a1_, .int y2_), (4, 4, a1_, .int y3_), (4, 3, a1_, .int y4_), (7, 1, q0_, .int y5_), (4, 6, a1_, .int y6_), (4, 14, a1_, .int y7_)]) rfl dX10_askModel_191 (fun f H locs hM_59 g => ?_)
              have hG_60 := cOK.frame hM_59 go_.2.2.2.1 mq0_ kq0_ (by decide) (by decide) hG_50
              refine lv_iload hx hb dX10_askModel_194 (lv_at hl 0 rfl) ?_
              refine lv_if_eq (tgt := 216) hx hb dX10_askModel_196 (by decide) (fun c_ => ?_) (fun c_ => absurd (by decide) c_)
              refine lv_iconst (v := 0) hx hb dX10_askModel_216 (by decide) ?_
              refine lv_istore (lv' := [(10, .int 0), (8, .long x_33), (7, .int r_20), (6, .ref a_18), (5, .int x_2), (0, .ref a0_), (1, .ref a1_), (2, .int x2_), (3, .ref a3_), (4, .ref a4_)]) hx hb dX10_askModel_217 hl (by decide) rfl (fun ls hl => ?_)
              refine lv_goto (tgt := 248) hx hb dX10_askModel_219 (by decide) ?_
              refine lv_aload_n hx hb dX10_askModel_248 rfl (lv_at hl 6 rfl) ?_
              refine lv_iload hx hb dX10_askModel_249 (lv_at hl 0 rfl) ?_
              refine lv_if_eq (tgt := 258) hx hb dX10_askModel_251 (by decide) (fun c_ => ?_) (fun c_ => absurd (by decide) c_)
              refine lv_bipush (v := 6) hx hb dX10_askModel_258 (by decide) ?_
              have kb_6 : bd 6 6 (6 : Int32) := ⟨by decide, by decide⟩
              have go_ := g
              refine g_put (C := RX4) (T := TX4) (N := 17) hx hb hts (mc_ inX4) tyX4 tyX4_ok nmX4 hown hK g ma1_ ka1_ (by decide) rfl 0 (by decide) (hts _ (List.mem_cons_of_mem _ t_837)) (fun _ h9 => h9) rfl rfl (okV_i (bd_sub kb_6 (by decide))) rfl rfl (by decide) (Or.inr (Or.inl (by decide))) (fx' := [(4, 5, a1_, .long x_58), (1, 17, a_34, .long x_58), (4, 15, a1_, .int x_52), (1, 15, a_34, .int x_51), (1, 11, a_34, .int x_47), (1, 12, a_34, .int 1), (1, 6, a_34, .int 0), (1, 5, a_34, .int 0), (1, 4, a_34, .ref a4_), (1, 3, a_34, .ref a_37), (1, 2, a_34, .ref a_36), (1, 1, a_34, .ref a_18), (1, 0, a_34, .ref q0_), (4, 10, a1_, .ref a_35), (10, 1, a0_, .ref a_34), (6, 3, a3_, .int x_31), (6, 3, a_29, .int x_30), (9, 9, a_18, .ref a_27), (7, 2, q0_, .ref a_26), (6, 0, a3_, .long x_19), (7, 0, q0_, .ref a_17), (4, 8, a1_, .ref a_1), (10, 0, a0_, .ref q0_), (4, 2, a1_, .int y1_), (4, 1, a1_, .int y2_), (4, 4, a1_, .int y3_), (4, 3, a1_, .int y4_), (7, 1, q0_, .int y5_), (4, 6, a1_, .int y6_), (4, 14, a1_, .int y7_)]) rfl dX10_askModel_260 (fun f H locs hM_61 g => ?_)
              have hG_62 := cOK.frame hM_61 go_.2.2.2.1 mq0_ kq0_ (by decide) (by decide) hG_60
              subst hQ
              exact W.vret hx hb hr (fun t ht hW => ⟨⟨_, rfl, ⟨6, (bd_sub kb_6 (by decide)), (g.fcts [0] rfl)⟩, q3_of g hK ht hW⟩, g.2.2.1.F ht⟩) g.2.2.1.2.2 dX10_askModel_263
          · have fc_53 := eq_f c_53
            refine lv_iconst (v := 1) hx hb dX10_askModel_165 (by decide) ?_
            refine lv_goto (tgt := 170) hx hb dX10_askModel_166 (by decide) ?_
            refine lv_istore (lv' := [(10, .int 1), (8, .long x_33), (7, .int r_20), (6, .ref a_18), (5, .int x_2), (0, .ref a0_), (1, .ref a1_), (2, .int x2_), (3, .ref a3_), (4, .ref a4_)]) hx hb dX10_askModel_170 hl (by decide) rfl (fun ls hl => ?_)
            refine lv_aload_n hx hb dX10_askModel_172 rfl (lv_at hl 5 rfl) ?_
            refine g_getk (C := RX10) (T := TX10) (N := 10) hx hb hts (mc_ inX10) hown hK g rfl 1 (by decide) rfl (hts _ (List.mem_cons_of_mem _ t_913)) (fun _ h9 => h9) 12 rfl dX10_askModel_173 ?_
            refine g_getk (C := RX1) (T := TX1) (N := 18) hx hb hts (mc_ inX1) hown hK g rfl 15 (by decide) rfl (hts _ (List.mem_cons_of_mem _ t_751)) (fun _ h9 => h9) 1 rfl dX10_askModel_176 ?_
            refine lv_iconst (v := 2) hx hb dX10_askModel_179 (by decide) ?_
            have kb_2 : bd 2 2 (2 : Int32) := ⟨by decide, by decide⟩
            refine lv_icmp_ne (tgt := 222) hx hb dX10_askModel_180 (by decide) (fun c_63 => ?_) (fun c_63 => ?_)
            · have fc_63 := neq_f c_63
              refine lv_iload hx hb dX10_askModel_222 (lv_at hl 0 rfl) ?_
              refine lv_if_eq (tgt := 245) hx hb dX10_askModel_224 (by decide) (fun c_ => absurd c_ (by decide)) (fun c_ => ?_)
              refine lv_aload_n hx hb dX10_askModel_227 rfl (lv_at hl 5 rfl) ?_
              refine g_getk (C := RX10) (T := TX10) (N := 10) hx hb hts (mc_ inX10) hown hK g rfl 1 (by decide) rfl (hts _ (List.mem_cons_of_mem _ t_913)) (fun _ h9 => h9) 12 rfl dX10_askModel_228 ?_
              refine g_geti (C := RX1) (T := TX1) (N := 18) hx hb hts (mc_ inX1) hown hK g ma_34 ka_34 (by decide) rfl 16 (by decide) rfl (hts _ (List.mem_cons_of_mem _ t_753)) (fun _ h9 => h9) rfl dX10_askModel_231 (fun x_64 bx_64 g => ?_)
              refine lv_aload_n hx hb dX10_askModel_234 rfl (lv_at hl 6 rfl) ?_
              refine g_geti (C := RX4) (T := TX4) (N := 17) hx hb hts (mc_ inX4) hown hK g ma1_ ka1_ (by decide) rfl 16 (by decide) rfl (hts _ (List.mem_cons_of_mem _ t_876)) (fun _ h9 => h9) rfl dX10_askModel_235 (fun x_65 bx_65 g => ?_)
              refine lv_icmp_ne (tgt := 245) hx hb dX10_askModel_238 (by decide) (fun c_66 => ?_) (fun c_66 => ?_)
              · have fc_66 := neq_f c_66
                refine lv_iconst (v := 0) hx hb dX10_askModel_245 (by decide) ?_
                refine lv_istore (lv' := [(10, .int 0), (8, .long x_33), (7, .int r_20), (6, .ref a_18), (5, .int x_2), (0, .ref a0_), (1, .ref a1_), (2, .int x2_), (3, .ref a3_), (4, .ref a4_)]) hx hb dX10_askModel_246 hl (by decide) rfl (fun ls hl => ?_)
                refine lv_aload_n hx hb dX10_askModel_248 rfl (lv_at hl 6 rfl) ?_
                refine lv_iload hx hb dX10_askModel_249 (lv_at hl 0 rfl) ?_
                refine lv_if_eq (tgt := 258) hx hb dX10_askModel_251 (by decide) (fun c_ => ?_) (fun c_ => absurd (by decide) c_)
                refine lv_bipush (v := 6) hx hb dX10_askModel_258 (by decide) ?_
                have kb_6 : bd 6 6 (6 : Int32) := ⟨by decide, by decide⟩
                have go_ := g
                refine g_put (C := RX4) (T := TX4) (N := 17) hx hb hts (mc_ inX4) tyX4 tyX4_ok nmX4 hown hK g ma1_ ka1_ (by decide) rfl 0 (by decide) (hts _ (List.mem_cons_of_mem _ t_837)) (fun _ h9 => h9) rfl rfl (okV_i (bd_sub kb_6 (by decide))) rfl rfl (by decide) (Or.inr (Or.inl (by decide))) (fx' := [(4, 16, a1_, .int x_65), (1, 16, a_34, .int x_64), (4, 15, a1_, .int x_52), (1, 15, a_34, .int x_51), (1, 11, a_34, .int x_47), (1, 12, a_34, .int 1), (1, 6, a_34, .int 0), (1, 5, a_34, .int 0), (1, 4, a_34, .ref a4_), (1, 3, a_34, .ref a_37), (1, 2, a_34, .ref a_36), (1, 1, a_34, .ref a_18), (1, 0, a_34, .ref q0_), (4, 10, a1_, .ref a_35), (10, 1, a0_, .ref a_34), (4, 5, a1_, .long x_33), (6, 3, a3_, .int x_31), (6, 3, a_29, .int x_30), (9, 9, a_18, .ref a_27), (7, 2, q0_, .ref a_26), (6, 0, a3_, .long x_19), (7, 0, q0_, .ref a_17), (4, 8, a1_, .ref a_1), (10, 0, a0_, .ref q0_), (4, 2, a1_, .int y1_), (4, 1, a1_, .int y2_), (4, 4, a1_, .int y3_), (4, 3, a1_, .int y4_), (7, 1, q0_, .int y5_), (4, 6, a1_, .int y6_), (4, 14, a1_, .int y7_)]) rfl dX10_askModel_260 (fun f H locs hM_67 g => ?_)
                have hG_68 := cOK.frame hM_67 go_.2.2.2.1 mq0_ kq0_ (by decide) (by decide) hG_50
                subst hQ
                exact W.vret hx hb hr (fun t ht hW => ⟨⟨_, rfl, ⟨6, (bd_sub kb_6 (by decide)), (g.fcts [0] rfl)⟩, q3_of g hK ht hW⟩, g.2.2.1.F ht⟩) g.2.2.1.2.2 dX10_askModel_263
              · have fc_66 := eq_f c_66
                refine lv_iconst (v := 1) hx hb dX10_askModel_241 (by decide) ?_
                refine lv_goto (tgt := 246) hx hb dX10_askModel_242 (by decide) ?_
                refine lv_istore (lv' := [(10, .int 1), (8, .long x_33), (7, .int r_20), (6, .ref a_18), (5, .int x_2), (0, .ref a0_), (1, .ref a1_), (2, .int x2_), (3, .ref a3_), (4, .ref a4_)]) hx hb dX10_askModel_246 hl (by decide) rfl (fun ls hl => ?_)
                refine lv_aload_n hx hb dX10_askModel_248 rfl (lv_at hl 6 rfl) ?_
                refine lv_iload hx hb dX10_askModel_249 (lv_at hl 0 rfl) ?_
                refine lv_if_eq (tgt := 258) hx hb dX10_askModel_251 (by decide) (fun c_ => absurd c_ (by decide)) (fun c_ => ?_)
                refine lv_iconst (v := 0) hx hb dX10_askModel_254 (by decide) ?_
                refine lv_goto (tgt := 260) hx hb dX10_askModel_255 (by decide) ?_
                have go_ := g
                refine g_put (C := RX4) (T := TX4) (N := 17) hx hb hts (mc_ inX4) tyX4 tyX4_ok nmX4 hown hK g ma1_ ka1_ (by decide) rfl 0 (by decide) (hts _ (List.mem_cons_of_mem _ t_837)) (fun _ h9 => h9) rfl rfl (okV_i (bd_sub kb_0 (by decide))) rfl rfl (by decide) (Or.inr (Or.inl (by decide))) (fx' := [(4, 16, a1_, .int x_65), (1, 16, a_34, .int x_64), (4, 15, a1_, .int x_52), (1, 15, a_34, .int x_51), (1, 11, a_34, .int x_47), (1, 12, a_34, .int 1), (1, 6, a_34, .int 0), (1, 5, a_34, .int 0), (1, 4, a_34, .ref a4_), (1, 3, a_34, .ref a_37), (1, 2, a_34, .ref a_36), (1, 1, a_34, .ref a_18), (1, 0, a_34, .ref q0_), (4, 10, a1_, .ref a_35), (10, 1, a0_, .ref a_34), (4, 5, a1_, .long x_33), (6, 3, a3_, .int x_31), (6, 3, a_29, .int x_30), (9, 9, a_18, .ref a_27), (7, 2, q0_, .ref a_26), (6, 0, a3_, .long x_19), (7, 0, q0_, .ref a_17), (4, 8, a1_, .ref a_1), (10, 0, a0_, .ref q0_), (4, 2, a1_, .int y1_), (4, 1, a1_, .int y2_), (4, 4, a1_, .int y3_), (4, 3, a1_, .int y4_), (7, 1, q0_, .int y5_), (4, 6, a1_, .int y6_), (4, 14, a1_, .int y7_)]) rfl dX10_askModel_260 (fun f H locs hM_69 g => ?_)
                have hG_70 := cOK.frame hM_69 go_.2.2.2.1 mq0_ kq0_ (by decide) (by decide) hG_50
                subst hQ
                exact W.vret hx hb hr (fun t ht hW => ⟨⟨_, rfl, ⟨0, (bd_sub kb_0 (by decide)), (g.fcts [0] rfl)⟩, q3_of g hK ht hW⟩, g.2.2.1.F ht⟩) g.2.2.1.2.2 dX10_askModel_263
            · have fc_63 := eq_f c_63
              have b_71 : bd 2 2 x_51 := eqX fc_63 (bdT x_51) kb_2 (by decide)
              refine lv_aload_n hx hb dX10_askModel_183 rfl (lv_at hl 6 rfl) ?_
              refine lv_aload_n hx hb dX10_askModel_184 rfl (lv_at hl 5 rfl) ?_
              refine g_getk (C := RX10) (T := TX10) (N := 10) hx hb hts (mc_ inX10) hown hK g rfl 1 (by decide) rfl (hts _ (List.mem_cons_of_mem _ t_913)) (fun _ h9 => h9) 12 rfl dX10_askModel_185 ?_
              refine g_getl (C := RX1) (T := TX1) (N := 18) hx hb hts (mc_ inX1) hown hK g ma_34 ka_34 (by decide) rfl 17 (by decide) rfl (hts _ (List.mem_cons_of_mem _ t_755)) (fun _ h9 => h9) rfl dX10_askModel_188 (fun x_72 g => ?_)
              have go_ := g
              refine g_put (C := RX4) (T := TX4) (N := 17) hx hb hts (mc_ inX4) tyX4 tyX4_ok nmX4 hown hK g ma1_ ka1_ (by decide) rfl 5 (by decide) (hts _ (List.mem_cons_of_mem _ t_848)) (fun _ h9 => h9) rfl rfl okV_l rfl rfl (by decide) (Or.inr (Or.inl (by decide))) (fx' := [(1, 17, a_34, .long x_72), (4, 15, a1_, .int x_52), (1, 15, a_34, .int x_51), (1, 11, a_34, .int x_47), (1, 12, a_34, .int 1), (1, 6, a_34, .int 0), (1, 5, a_34, .int 0), (1, 4, a_34, .ref a4_), (1, 3, a_34, .ref a_37), (1, 2, a_34, .ref a_36), (1, 1, a_34, .ref a_18), (1, 0, a_34, .ref q0_), (4, 10, a1_, .ref a_35), (10, 1, a0_, .ref a_34), (6, 3, a3_, .int x_31), (6, 3, a_29, .int x_30), (9, 9, a_18, .ref a_27), (7, 2, q0_, .ref a_26), (6, 0, a3_, .long x_19), (7, 0, q0_, .ref a_17), (4, 8, a1_, .ref a_1), (10, 0, a0_, .ref q0_), (4, 0, a1_, .int y0_), (4, 2, a1_, .int y1_), (4, 1, a1_, .int y2_), (4, 4, a1_, .int y3_), (4, 3, a1_, .int y4_), (7, 1, q0_, .int y5_), (4, 6, a1_, .int y6_), (4, 14, a1_, .int y7_)]) rfl dX10_askModel_191 (fun f H locs hM_73 g => ?_)
              have hG_74 := cOK.frame hM_73 go_.2.2.2.1 mq0_ kq0_ (by decide) (by decide) hG_50
              refine lv_iload hx hb dX10_askModel_194 (lv_at hl 0 rfl) ?_
              refine lv_if_eq (tgt := 216) hx hb dX10_askModel_196 (by decide) (fun c_ => absurd c_ (by decide)) (fun c_ => ?_)
              refine lv_aload_n hx hb dX10_askModel_199 rfl (lv_at hl 5 rfl) ?_
              refine g_getk (C := RX10) (T := TX10) (N := 10) hx hb hts (mc_ inX10) hown hK g rfl 1 (by decide) rfl (hts _ (List.mem_cons_of_mem _ t_913)) (fun _ h9 => h9) 14 rfl dX10_askModel_200 ?_
              refine g_getk (C := RX1) (T := TX1) (N := 18) hx hb hts (mc_ inX1) hown hK g rfl 17 (by decide) rfl (hts _ (List.mem_cons_of_mem _ t_755)) (fun _ h9 => h9) 1 rfl dX10_askModel_203 ?_
              refine lv_lload hx hb dX10_askModel_206 (lv_at hl 1 rfl) ?_
              refine W.lcmp hx hb dX10_askModel_208 ?_
              refine lv_if_ne (tgt := 216) hx hb dX10_askModel_209 (by decide) (fun c_75 => ?_) (fun c_75 => ?_)
              · refine lv_iconst (v := 0) hx hb dX10_askModel_216 (by decide) ?_
                refine lv_istore (lv' := [(10, .int 0), (8, .long x_33), (7, .int r_20), (6, .ref a_18), (5, .int x_2), (0, .ref a0_), (1, .ref a1_), (2, .int x2_), (3, .ref a3_), (4, .ref a4_)]) hx hb dX10_askModel_217 hl (by decide) rfl (fun ls hl => ?_)
                refine lv_goto (tgt := 248) hx hb dX10_askModel_219 (by decide) ?_
                refine lv_aload_n hx hb dX10_askModel_248 rfl (lv_at hl 6 rfl) ?_
                refine lv_iload hx hb dX10_askModel_249 (lv_at hl 0 rfl) ?_
                refine lv_if_eq (tgt := 258) hx hb dX10_askModel_251 (by decide) (fun c_ => ?_) (fun c_ => absurd (by decide) c_)
                refine lv_bipush (v := 6) hx hb dX10_askModel_258 (by decide) ?_
                have kb_6 : bd 6 6 (6 : Int32) := ⟨by decide, by decide⟩
                have go_ := g
                refine g_put (C := RX4) (T := TX4) (N := 17) hx hb hts (mc_ inX4) tyX4 tyX4_ok nmX4 hown hK g ma1_ ka1_ (by decide) rfl 0 (by decide) (hts _ (List.mem_cons_of_mem _ t_837)) (fun _ h9 => h9) rfl rfl (okV_i (bd_sub kb_6 (by decide))) rfl rfl (by decide) (Or.inr (Or.inl (by decide))) (fx' := [(4, 5, a1_, .long x_72), (1, 17, a_34, .long x_72), (4, 15, a1_, .int x_52), (1, 15, a_34, .int x_51), (1, 11, a_34, .int x_47), (1, 12, a_34, .int 1), (1, 6, a_34, .int 0), (1, 5, a_34, .int 0), (1, 4, a_34, .ref a4_), (1, 3, a_34, .ref a_37), (1, 2, a_34, .ref a_36), (1, 1, a_34, .ref a_18), (1, 0, a_34, .ref q0_), (4, 10, a1_, .ref a_35), (10, 1, a0_, .ref a_34), (6, 3, a3_, .int x_31), (6, 3, a_29, .int x_30), (9, 9, a_18, .ref a_27), (7, 2, q0_, .ref a_26), (6, 0, a3_, .long x_19), (7, 0, q0_, .ref a_17), (4, 8, a1_, .ref a_1), (10, 0, a0_, .ref q0_), (4, 2, a1_, .int y1_), (4, 1, a1_, .int y2_), (4, 4, a1_, .int y3_), (4, 3, a1_, .int y4_), (7, 1, q0_, .int y5_), (4, 6, a1_, .int y6_), (4, 14, a1_, .int y7_)]) rfl dX10_askModel_260 (fun f H locs hM_76 g => ?_)
                have hG_77 := cOK.frame hM_76 go_.2.2.2.1 mq0_ kq0_ (by decide) (by decide) hG_74
                subst hQ
                exact W.vret hx hb hr (fun t ht hW => ⟨⟨_, rfl, ⟨6, (bd_sub kb_6 (by decide)), (g.fcts [0] rfl)⟩, q3_of g hK ht hW⟩, g.2.2.1.F ht⟩) g.2.2.1.2.2 dX10_askModel_263
              · refine lv_iconst (v := 1) hx hb dX10_askModel_212 (by decide) ?_
                refine lv_goto (tgt := 217) hx hb dX10_askModel_213 (by decide) ?_
                refine lv_istore (lv' := [(10, .int 1), (8, .long x_33), (7, .int r_20), (6, .ref a_18), (5, .int x_2), (0, .ref a0_), (1, .ref a1_), (2, .int x2_), (3, .ref a3_), (4, .ref a4_)]) hx hb dX10_askModel_217 hl (by decide) rfl (fun ls hl => ?_)
                refine lv_goto (tgt := 248) hx hb dX10_askModel_219 (by decide) ?_
                refine lv_aload_n hx hb dX10_askModel_248 rfl (lv_at hl 6 rfl) ?_
                refine lv_iload hx hb dX10_askModel_249 (lv_at hl 0 rfl) ?_
                refine lv_if_eq (tgt := 258) hx hb dX10_askModel_251 (by decide) (fun c_ => absurd c_ (by decide)) (fun c_ => ?_)
                refine lv_iconst (v := 0) hx hb dX10_askModel_254 (by decide) ?_
                refine lv_goto (tgt := 260) hx hb dX10_askModel_255 (by decide) ?_
                have go_ := g
                refine g_put (C := RX4) (T := TX4) (N := 17) hx hb hts (mc_ inX4) tyX4 tyX4_ok nmX4 hown hK g ma1_ ka1_ (by decide) rfl 0 (by decide) (hts _ (List.mem_cons_of_mem _ t_837)) (fun _ h9 => h9) rfl rfl (okV_i (bd_sub kb_0 (by decide))) rfl rfl (by decide) (Or.inr (Or.inl (by decide))) (fx' := [(4, 5, a1_, .long x_72), (1, 17, a_34, .long x_72), (4, 15, a1_, .int x_52), (1, 15, a_34, .int x_51), (1, 11, a_34, .int x_47), (1, 12, a_34, .int 1), (1, 6, a_34, .int 0), (1, 5, a_34, .int 0), (1, 4, a_34, .ref a4_), (1, 3, a_34, .ref a_37), (1, 2, a_34, .ref a_36), (1, 1, a_34, .ref a_18), (1, 0, a_34, .ref q0_), (4, 10, a1_, .ref a_35), (10, 1, a0_, .ref a_34), (6, 3, a3_, .int x_31), (6, 3, a_29, .int x_30), (9, 9, a_18, .ref a_27), (7, 2, q0_, .ref a_26), (6, 0, a3_, .long x_19), (7, 0, q0_, .ref a_17), (4, 8, a1_, .ref a_1), (10, 0, a0_, .ref q0_), (4, 2, a1_, .int y1_), (4, 1, a1_, .int y2_), (4, 4, a1_, .int y3_), (4, 3, a1_, .int y4_), (7, 1, q0_, .int y5_), (4, 6, a1_, .int y6_), (4, 14, a1_, .int y7_)]) rfl dX10_askModel_260 (fun f H locs hM_78 g => ?_)
                have hG_79 := cOK.frame hM_78 go_.2.2.2.1 mq0_ kq0_ (by decide) (by decide) hG_74
                subst hQ
                exact W.vret hx hb hr (fun t ht hW => ⟨⟨_, rfl, ⟨0, (bd_sub kb_0 (by decide)), (g.fcts [0] rfl)⟩, q3_of g hK ht hW⟩, g.2.2.1.F ht⟩) g.2.2.1.2.2 dX10_askModel_263
        · have fc_32 := neq_f c_32
          subst hQ
          exact W.vret hx hb hr (fun t ht hW => ⟨⟨_, rfl, ⟨y0_, (bd_sub b_5 (by decide)), (g.fcts [8] rfl)⟩, q3_of g hK ht hW⟩, g.2.2.1.F ht⟩) g.2.2.1.2.2 dX10_askModel_87
set_option maxHeartbeats 4000000 in
set_option maxRecDepth 100000 in
theorem r_X10_doCall_3 (l : Launch) (dC : Nat → ClassId) (dI : Nat → Nat → Nat) (L : List Nat) (kd : Nat → Nat) (tys : List (ClassId × FieldType)) (f0 : Nat → va_E) (sz : Nat) (hWT : WT L kd tys f0) (a0_ : Nat) (ma0_ : a0_ ∈ L) (ka0_ : kd a0_ = 10) (a1_ : Nat) (ma1_ : a1_ ∈ L) (ka1_ : kd a1_ = 3) (a2_ : Nat) (ma2_ : a2_ ∈ L) (ka2_ : kd a2_ = 4) (x3_ : Int32) (bx3_ : bd 0 9 x3_) (q0_ : Nat) (mq0_ : q0_ ∈ L) (kq0_ : kd q0_ = 7) (y0_ : Int32) (by0_ : bd 0 9 y0_) (y1_ : Int32) (by1_ : bd 1 10 y1_) (y2_ : Int32) (by2_ : bd (-1) 2147483647 y2_) (y3_ : Int32) (by3_ : bd (-1) 2147483647 y3_) (y4_ : Int32) (by4_ : bd (-1) 2147483647 y4_) (y5_ : Int32) (by5_ : bd (-1) 2147483647 y5_) (y6_ : Int32) (by6_ : bd 0 0 y6_) (hGcq0_ : cOK f0 q0_) (hfx : Fs L kd f0 [(10, 0, a0_, .ref q0_), (4, 14, a2_, .int y0_), (3, 0, a1_, .int y1_), (4, 4, a2_, .int y2_), (4, 3, a2_, .int y3_), (4, 2, a2_, .int y4_), (4, 1, a2_, .int y5_), (4, 0, a2_, .int y6_)]) : Met l yX10_doCall (.code yX10_doCall cX10_doCall 10 none :: lw_g) ({ frames := 4, cells := 0, slots := 0, locals := 103 }) (va_Pc [.ref a0_, .ref a1_, .ref a2_, .int x3_] (P3 (dC, dI) L tys f0 sz)) (va_Qv (fun (f : Nat → va_E) => (∃ z0_ : Int32, bd (-1) 2147483647 z0_ ∧ ∃ z1_ : Int32, bd (-1) 2147483647 z1_ ∧ ∃ z2_ : Int32, bd (-1) 2147483647 z2_ ∧ ∃ z3_ : Int32, bd (-1) 2147483647 z3_ ∧ ∃ z4_ : Int32, bd (-1) 8 z4_ ∧ Fs L kd f [(4, 4, a2_, .int z0_), (4, 3, a2_, .int z1_), (4, 2, a2_, .int z2_), (4, 1, a2_, .int z3_), (4, 0, a2_, .int z4_)])) (Q3 (dC, dI) L kd tys [(1, 0), (1, 1), (1, 2), (1, 3), (1, 4), (1, 5), (1, 6), (1, 8), (1, 11), (1, 12), (1, 13), (1, 14), (1, 15), (1, 16), (1, 17), (4, 0), (4, 1), (4, 2), (4, 3), (4, 4), (4, 5), (4, 15), (4, 16)] [100, 101, 102, 116, 117, 130, 131, 146] f0 sz) (pA L sz)) 0 0 (pA L sz) := by
  refine Met.ofW (cc := cX10_doCall) (maxL := 10) (ret := none) (by decide) rfl ?_
  intro p e s m args below meth c s₁ B hml hv
  obtain ⟨rfl, hsz, hP, hK, hD0⟩ := hv
  have hx := B.exec
  have hb := B.bytes
  have hr := B.returns
  have hts := atoms_spec (ws := (.code yX10_doCall cX10_doCall 10 none :: lw_g)) B.pre
  have hown : s.vm.findClass RX10 = some m.cls := findClass_of_methodNamed B.named
  have hlocks := B.notSynchronized
  subst hsz
  have g : G3 (dC, dI) L kd tys s f0 [(1, 0), (1, 1), (1, 2), (1, 3), (1, 4), (1, 5), (1, 6), (1, 8), (1, 11), (1, 12), (1, 13), (1, 14), (1, 15), (1, 16), (1, 17), (4, 0), (4, 1), (4, 2), (4, 3), (4, 4), (4, 5), (4, 15), (4, 16)] [100, 101, 102, 116, 117, 130, 131, 146] f0 s.heap [] [(10, 0, a0_, .ref q0_), (4, 14, a2_, .int y0_), (3, 0, a1_, .int y1_), (4, 4, a2_, .int y2_), (4, 3, a2_, .int y3_), (4, 2, a2_, .int y4_), (4, 1, a2_, .int y5_), (4, 0, a2_, .int y6_)] := G3.start hP hD0 hWT hfx
  have hl := lv_entry ([.ref a0_, .ref a1_, .ref a2_, .int x3_]) (n := 10) (Nat.le_of_ble_eq_true rfl)
  rw [lg_entry_eq]
  generalize (lg_sl ([.ref a0_, .ref a1_, .ref a2_, .int x3_]) ++ List.replicate (10 - (lg_sl ([.ref a0_, .ref a1_, .ref a2_, .int x3_])).length) Slot.unset).toArray = ls at hl ⊢
  have hl : lv_has ls 10 [(0, .ref a0_), (1, .ref a1_), (2, .ref a2_), (3, .int x3_)] := hl
  refine W_q (fun Q hQ => ?_)
  refine lv_aload_n hx hb dX10_doCall_0 rfl (lv_at hl 1 rfl) ?_
  refine g_getr (K := 122) (C := RX3) (T := TX3) (N := 6) hx hb hts (mc_ inX3) hown hK g ma1_ ka1_ (by decide) rfl 1 (by decide) rfl (hts _ (List.mem_cons_of_mem _ t_805)) (fun _ h9 => h9) rfl dX10_doCall_1 (fun a_1 ma_1 ka_1 g => ?_)
  refine lv_iload_n hx hb dX10_doCall_4 rfl (lv_at hl 3 rfl) ?_
  refine g_iald hx hb hK g ma_1 ka_1 (by decide) rfl (in_bd bx3_ (by decide)) dX10_doCall_5 (fun x_2 bx_2 cx_2 => ?_)
  refine lv_istore (lv' := [(4, .int x_2), (0, .ref a0_), (1, .ref a1_), (2, .ref a2_), (3, .int x3_)]) hx hb dX10_doCall_6 hl (by decide) rfl (fun ls hl => ?_)
  refine lv_aload_n hx hb dX10_doCall_8 rfl (lv_at hl 2 rfl) ?_
  refine g_getr (K := 124) (C := RX3) (T := TX3) (N := 6) hx hb hts (mc_ inX3) hown hK g ma1_ ka1_ (by decide) rfl 3 (by decide) rfl (hts _ (List.mem_cons_of_mem _ t_811)) (fun _ h9 => h9) rfl dX10_doCall_9 (fun a_3 ma_3 ka_3 g => ?_)
  refine lv_iload_n hx hb dX10_doCall_12 rfl (lv_at hl 4 rfl) ?_
  refine g_aald hx hb hK g ma_3 ka_3 (by decide) rfl (by decide) (in_bd bx3_ (by decide)) dX10_doCall_13 (fun a_4 ma_4 ua_4 wa_4 => ?_)
  have ka_4 : kd a_4 = 103 := by omega
  refine lv_astore (lv' := [(5, .ref a_4), (4, .int x_2), (0, .ref a0_), (1, .ref a1_), (2, .ref a2_), (3, .int x3_)]) hx hb dX10_doCall_14 hl (by decide) rfl (fun ls hl => ?_)
  refine lv_iload hx hb dX10_doCall_16 (lv_at hl 1 rfl) ?_
  refine lv_aload_n hx hb dX10_doCall_18 rfl (lv_at hl 4 rfl) ?_
  refine g_geti (C := RX4) (T := TX4) (N := 17) hx hb hts (mc_ inX4) hown hK g ma2_ ka2_ (by decide) rfl 6 (by decide) rfl (hts _ (List.mem_cons_of_mem _ t_851)) (fun _ h9 => h9) rfl dX10_doCall_19 (fun x_5 bx_5 g => ?_)
  refine lv_icmp_ge (tgt := 48) hx hb dX10_doCall_22 (by decide) (fun c_6 => ?_) (fun c_6 => ?_)
  · have fc_6 := le_f c_6
    have b_7 : bd 0 2 x_5 := leL fc_6 bx_5 bx_2 (by decide)
    subst hQ
    exact W.vret hx hb hr (fun t ht hW => ⟨⟨_, rfl, ⟨y2_, by2_, y3_, by3_, y4_, by4_, y5_, by5_, y6_, (bd_sub by6_ (by decide)), (g.fcts [6, 7, 8, 9, 10] rfl)⟩, q3_of g hK ht hW⟩, g.2.2.1.F ht⟩) g.2.2.1.2.2 dX10_doCall_48
  · have fc_6 := nle_f c_6
    have b_8 : bd 1 3 x_5 := ltR fc_6 bx_2 bx_5 (by decide)
    refine lv_aload_n hx hb dX10_doCall_25 rfl (lv_at hl 2 rfl) ?_
    refine g_getk (C := RX10) (T := TX10) (N := 10) hx hb hts (mc_ inX10) hown hK g rfl 0 (by decide) rfl (hts _ (List.mem_cons_of_mem _ t_912)) (fun _ h9 => h9) 3 rfl dX10_doCall_26 ?_
    refine lv_aload_n hx hb dX10_doCall_29 rfl (lv_at hl 4 rfl) ?_
    refine g_getr (K := 126) (C := RX4) (T := TX4) (N := 17) hx hb hts (mc_ inX4) hown hK g ma2_ ka2_ (by decide) rfl 7 (by decide) rfl (hts _ (List.mem_cons_of_mem _ t_854)) (fun _ h9 => h9) rfl dX10_doCall_30 (fun a_9 ma_9 ka_9 g => ?_)
    refine lv_iload hx hb dX10_doCall_33 (lv_at hl 1 rfl) ?_
    refine g_iald hx hb hK g ma_9 ka_9 (by decide) rfl (in_bd bx_2 (by decide)) dX10_doCall_35 (fun x_10 bx_10 cx_10 => ?_)
    refine lv_aload_n hx hb dX10_doCall_36 rfl (lv_at hl 3 rfl) ?_
    refine g_getr (K := 123) (C := RX3) (T := TX3) (N := 6) hx hb hts (mc_ inX3) hown hK g ma1_ ka1_ (by decide) rfl 2 (by decide) rfl (hts _ (List.mem_cons_of_mem _ t_808)) (fun _ h9 => h9) rfl dX10_doCall_37 (fun a_11 ma_11 ka_11 g => ?_)
    refine lv_iload_n hx hb dX10_doCall_40 rfl (lv_at hl 5 rfl) ?_
    refine g_iald hx hb hK g ma_11 ka_11 (by decide) rfl (in_bd bx3_ (by decide)) dX10_doCall_41 (fun x_12 bx_12 cx_12 => ?_)
    have go_ := g
    refine g_calli (va_runV (As := [.int x_10, .int x_12]) (rest := []) ⟨hx, hb, hml, hown, hts⟩ (r_X7_hasMember l dC dI L kd tys f0 s.heap.size g.2.2.2.1 q0_ mq0_ kq0_ x_10 x_12) (cwV 2 hts (gV_ t_1614 t_1448 t_1449 t_191 t_1450) rfl rfl rfl (by decide +kernel) ⟨(Nat.le_of_ble_eq_true rfl), (Nat.le_of_ble_eq_true rfl)⟩) (pre3V g hK mq0_ kq0_ (by decide) (q := (RX7, TX7, 19)) rfl) rfl rfl hl.1 rfl (lv_room (Nat.le_of_ble_eq_true rfl)) dX10_doCall_42 ⟨(Nat.le_of_ble_eq_true rfl), (Nat.le_of_ble_eq_true rfl)⟩) g hK (by decide) (by decide) (fx' := [(3, 2, a1_, .ref a_11), (4, 7, a2_, .ref a_9), (4, 6, a2_, .int x_5), (3, 3, a1_, .ref a_3), (3, 1, a1_, .ref a_1), (10, 0, a0_, .ref q0_), (4, 14, a2_, .int y0_), (3, 0, a1_, .int y1_), (4, 4, a2_, .int y2_), (4, 3, a2_, .int y3_), (4, 2, a2_, .int y4_), (4, 1, a2_, .int y5_), (4, 0, a2_, .int y6_)]) rfl (fun r_13 fr_13 H locs hp hMr_13 g => ?_)
    rcases hp with ⟨h_14, -⟩ | ⟨h_15, h_16, h_17, x_18, h_19, hF_20⟩
    · have hG_21 := cOK.frame hMr_13 go_.2.2.2.1 mq0_ kq0_ (by decide) (by decide) hGcq0_
      obtain rfl : r_13 = 0 := h_14
      refine lv_if_ne (tgt := 49) hx hb dX10_doCall_45 (by decide) (fun c_ => absurd c_ (by decide)) (fun c_ => ?_)
      subst hQ
      exact W.vret hx hb hr (fun t ht hW => ⟨⟨_, rfl, ⟨y2_, by2_, y3_, by3_, y4_, by4_, y5_, by5_, y6_, (bd_sub by6_ (by decide)), (g.fcts [8, 9, 10, 11, 12] rfl)⟩, q3_of g hK ht hW⟩, g.2.2.1.F ht⟩) g.2.2.1.2.2 dX10_doCall_48
    · have hG_22 := cOK.frame hMr_13 go_.2.2.2.1 mq0_ kq0_ (by decide) (by decide) hGcq0_
      obtain rfl : r_13 = 1 := h_15
      have b_23 : bd 0 11 x_12 := eqX rfl bx_12 h_17 (by decide)
      have g := g.more hF_20
      refine lv_if_ne (tgt := 49) hx hb dX10_doCall_45 (by decide) (fun c_ => ?_) (fun c_ => absurd c_ (by decide))
      refine lv_aload_n hx hb dX10_doCall_49 rfl (lv_at hl 2 rfl) ?_
      refine g_getk (C := RX10) (T := TX10) (N := 10) hx hb hts (mc_ inX10) hown hK g rfl 0 (by decide) rfl (hts _ (List.mem_cons_of_mem _ t_912)) (fun _ h9 => h9) 6 rfl dX10_doCall_50 ?_
      refine g_getr (K := 136) (C := RX7) (T := TX7) (N := 19) hx hb hts (mc_ inX7) hown hK g mq0_ kq0_ (by decide) rfl 0 (by decide) rfl (hts _ (List.mem_cons_of_mem _ t_624)) (fun _ h9 => h9) rfl dX10_doCall_53 (fun a_24 ma_24 ka_24 g => ?_)
      refine lv_aload_n hx hb dX10_doCall_56 rfl (lv_at hl 4 rfl) ?_
      refine g_getk (C := RX4) (T := TX4) (N := 17) hx hb hts (mc_ inX4) hown hK g rfl 7 (by decide) rfl (hts _ (List.mem_cons_of_mem _ t_854)) (fun _ h9 => h9) 3 rfl dX10_doCall_57 ?_
      refine lv_iload hx hb dX10_doCall_60 (lv_at hl 1 rfl) ?_
      refine g_iald hx hb hK g ma_9 ka_9 (by decide) rfl (in_bd bx_2 (by decide)) dX10_doCall_62 (fun x_25 bx_25 cx_25 => ?_)
      obtain rfl : x_10 = x_25 := el_same cx_10 cx_25 (arr_eq hMr_13 ma_9 ka_9 (by decide) rfl)
      refine g_aald hx hb hK g ma_24 ka_24 (by decide) rfl (by decide) (in_bd bx_10 (by decide)) dX10_doCall_63 (fun a_26 ma_26 ua_26 wa_26 => ?_)
      have ka_26 : kd a_26 = 9 := by omega
      refine lv_astore (lv' := [(6, .ref a_26), (5, .ref a_4), (4, .int x_2), (0, .ref a0_), (1, .ref a1_), (2, .ref a2_), (3, .int x3_)]) hx hb dX10_doCall_64 hl (by decide) rfl (fun ls hl => ?_)
      refine lv_aload hx hb dX10_doCall_66 (lv_at hl 0 rfl) ?_
      refine g_getr (K := 156) (C := RX9) (T := TX9) (N := 13) hx hb hts (mc_ inX9) hown hK g ma_26 ka_26 (by decide) rfl 9 (by decide) rfl (hts _ (List.mem_cons_of_mem _ t_509)) (fun _ h9 => h9) rfl dX10_doCall_68 (fun a_27 ma_27 ka_27 g => ?_)
      refine lv_aload_n hx hb dX10_doCall_71 rfl (lv_at hl 4 rfl) ?_
      refine g_getk (C := RX3) (T := TX3) (N := 6) hx hb hts (mc_ inX3) hown hK g rfl 2 (by decide) rfl (hts _ (List.mem_cons_of_mem _ t_808)) (fun _ h9 => h9) 3 rfl dX10_doCall_72 ?_
      refine lv_iload_n hx hb dX10_doCall_75 rfl (lv_at hl 6 rfl) ?_
      refine g_iald hx hb hK g ma_11 ka_11 (by decide) rfl (in_bd bx3_ (by decide)) dX10_doCall_76 (fun x_28 bx_28 cx_28 => ?_)
      obtain rfl : x_12 = x_28 := el_same cx_12 cx_28 (arr_eq hMr_13 ma_11 ka_11 (by decide) rfl)
      refine g_iald hx hb hK g ma_27 ka_27 (by decide) rfl (in_bd b_23 (by decide)) dX10_doCall_77 (fun x_29 bx_29 cx_29 => ?_)
      refine lv_istore (lv' := [(7, .int x_29), (6, .ref a_26), (5, .ref a_4), (4, .int x_2), (0, .ref a0_), (1, .ref a1_), (2, .ref a2_), (3, .int x3_)]) hx hb dX10_doCall_78 hl (by decide) rfl (fun ls hl => ?_)
      refine lv_aload_n hx hb dX10_doCall_80 rfl (lv_at hl 6 rfl) ?_
      refine g_getr (K := 128) (C := RX4) (T := TX4) (N := 17) hx hb hts (mc_ inX4) hown hK g ma2_ ka2_ (by decide) rfl 9 (by decide) rfl (hts _ (List.mem_cons_of_mem _ t_860)) (fun _ h9 => h9) rfl dX10_doCall_81 (fun a_30 ma_30 ka_30 g => ?_)
      refine lv_iload hx hb dX10_doCall_84 (lv_at hl 3 rfl) ?_
      refine g_aald hx hb hK g ma_30 ka_30 (by decide) rfl (by decide) (in_bd bx_2 (by decide)) dX10_doCall_86 (fun a_31 ma_31 ua_31 wa_31 => ?_)
      have ka_31 : kd a_31 = 101 := by omega
      refine lv_astore (lv' := [(8, .ref a_31), (7, .int x_29), (6, .ref a_26), (5, .ref a_4), (4, .int x_2), (0, .ref a0_), (1, .ref a1_), (2, .ref a2_), (3, .int x3_)]) hx hb dX10_doCall_87 hl (by decide) rfl (fun ls hl => ?_)
      refine lv_aload hx hb dX10_doCall_89 (lv_at hl 0 rfl) ?_
      refine lv_iconst (v := 0) hx hb dX10_doCall_91 (by decide) ?_
      refine lv_aload_n hx hb dX10_doCall_92 rfl (lv_at hl 7 rfl) ?_
      refine g_getr (K := 102) (C := RX4) (T := TX4) (N := 17) hx hb hts (mc_ inX4) hown hK g ma2_ ka2_ (by decide) rfl 11 (by decide) rfl (hts _ (List.mem_cons_of_mem _ t_866)) (fun _ h9 => h9) rfl dX10_doCall_93 (fun a_32 ma_32 ka_32 g => ?_)
      refine lv_iconst (v := 0) hx hb dX10_doCall_96 (by decide) ?_
      refine lv_bipush (v := 24) hx hb dX10_doCall_97 (by decide) ?_
      have go_ := g
      refine g_copyi hx hb (hml.trans hl.1.symm) hown (hts _ (List.mem_cons_of_mem _ t_1615)) (hts _ (List.mem_cons_of_mem _ t_1142)) (hts _ (List.mem_cons_of_mem _ t_1141)) (hts _ (List.mem_cons_of_mem _ t_206)) hK g ma_31 ka_31 ma_32 ka_32 (by decide) (by decide) rfl rfl (by decide) (by decide) (by decide) (by decide) (by decide) (Nat.le_of_ble_eq_true rfl) (Nat.le_of_ble_eq_true rfl) dX10_doCall_99 (fun f H locs hM_33 g => ?_)
      have hG_34 := cOK.frame hM_33 go_.2.2.2.1 mq0_ kq0_ (by decide) (by decide) hG_22
      refine lv_aload_n hx hb dX10_doCall_102 rfl (lv_at hl 5 rfl) ?_
      refine g_getr (K := 1) (C := RX10) (T := TX10) (N := 10) hx hb hts (mc_ inX10) hown hK g ma0_ ka0_ (by decide) rfl 1 (by decide) rfl (hts _ (List.mem_cons_of_mem _ t_913)) (fun _ h9 => h9) rfl dX10_doCall_103 (fun a_35 ma_35 ka_35 g => ?_)
      refine lv_aload_n hx hb dX10_doCall_106 rfl (lv_at hl 5 rfl) ?_
      refine g_getk (C := RX10) (T := TX10) (N := 10) hx hb hts (mc_ inX10) hown hK g rfl 0 (by decide) rfl (hts _ (List.mem_cons_of_mem _ t_912)) (fun _ h9 => h9) 11 rfl dX10_doCall_107 ?_
      refine lv_aload hx hb dX10_doCall_110 (lv_at hl 2 rfl) ?_
      refine lv_aload hx hb dX10_doCall_112 (lv_at hl 0 rfl) ?_
      refine lv_aload_n hx hb dX10_doCall_114 rfl (lv_at hl 7 rfl) ?_
      refine g_getk (C := RX4) (T := TX4) (N := 17) hx hb hts (mc_ inX4) hown hK g rfl 11 (by decide) rfl (hts _ (List.mem_cons_of_mem _ t_866)) (fun _ h9 => h9) 1 rfl dX10_doCall_115 ?_
      refine lv_aload hx hb dX10_doCall_118 (lv_at hl 3 rfl) ?_
      have go_ := g
      refine g_callv (va_runV (As := [.ref q0_, .ref a_26, .ref a_31, .ref a_32, .ref a_4]) (rest := []) ⟨hx, hb, hml, hown, hts⟩ (r_X1_standOn_2 l dC dI L kd tys f H.size g.2.2.2.1 a_35 ma_35 ka_35 q0_ mq0_ kq0_ a_26 ma_26 ka_26 a_31 ma_31 ka_31 a_32 ma_32 ka_32 a_4 ma_4 ka_4) (cwV 5 hts (gV_ t_1543 t_1544 t_1545 t_195 t_1546) rfl rfl rfl (by decide +kernel) ⟨(Nat.le_of_ble_eq_true rfl), (Nat.le_of_ble_eq_true rfl)⟩) (pre3V g hK ma_35 ka_35 (by decide) (q := (RX1, TX1, 18)) rfl) rfl rfl hl.1 rfl (lv_room (Nat.le_of_ble_eq_true rfl)) dX10_doCall_120 ⟨(Nat.le_of_ble_eq_true rfl), (Nat.le_of_ble_eq_true rfl)⟩) g hK (by decide) (by decide) (fx' := [(10, 1, a0_, .ref a_35), (4, 11, a2_, .ref a_32), (4, 9, a2_, .ref a_30), (9, 9, a_26, .ref a_27), (7, 0, q0_, .ref a_24), (7, 1, q0_, .int x_18), (3, 2, a1_, .ref a_11), (4, 7, a2_, .ref a_9), (4, 6, a2_, .int x_5), (3, 3, a1_, .ref a_3), (3, 1, a1_, .ref a_1), (10, 0, a0_, .ref q0_), (4, 14, a2_, .int y0_), (3, 0, a1_, .int y1_), (4, 4, a2_, .int y2_), (4, 3, a2_, .int y3_), (4, 2, a2_, .int y4_), (4, 1, a2_, .int y5_), (4, 0, a2_, .int y6_)]) rfl (fun fr_36 H locs hp hMr_36 g => ?_)
      have hF_37 := hp
      have hG_38 := cOK.frame hMr_36 go_.2.2.2.1 mq0_ kq0_ (by decide) (by decide) hG_34
      have g := g.more hF_37
      refine lv_aload_n hx hb dX10_doCall_123 rfl (lv_at hl 5 rfl) ?_
      refine lv_aload_n hx hb dX10_doCall_124 rfl (lv_at hl 7 rfl) ?_
      refine lv_iload hx hb dX10_doCall_125 (lv_at hl 4 rfl) ?_
      refine lv_iload hx hb dX10_doCall_127 (lv_at hl 1 rfl) ?_
      have go_ := g
      refine g_callv (va_runV (As := [.ref a2_, .int x_2, .int x_29]) (rest := []) ⟨hx, hb, hml, hown, hts⟩ (r_X10_askNeeds_2 l dC dI L kd tys fr_36 H.size g.2.2.2.1 a0_ ma0_ ka0_ a2_ ma2_ ka2_ x_2 bx_2 x_29 bx_29 a_35 ma_35 ka_35 q0_ mq0_ kq0_ a_26 ma_26 ka_26 x_18 h_19 x_5 b_8 y0_ by0_ y2_ by2_ y3_ by3_ y4_ by4_ y5_ by5_ y6_ by6_ hG_38 (g.fcts [5, 4, 3, 10, 13, 17, 19, 20, 21, 22, 23] rfl)) (cwV 3 hts (gV_ t_1616 t_1618 t_70 t_194 t_1619) rfl rfl rfl (by decide +kernel) ⟨(Nat.le_of_ble_eq_true rfl), (Nat.le_of_ble_eq_true rfl)⟩) (pre3V g hK ma0_ ka0_ (by decide) (q := (RX10, TX10, 10)) rfl) rfl rfl hl.1 rfl (lv_room (Nat.le_of_ble_eq_true rfl)) dX10_doCall_129 ⟨(Nat.le_of_ble_eq_true rfl), (Nat.le_of_ble_eq_true rfl)⟩) g hK (by decide) (by decide) (fx' := [(1, 4, a_35, .ref a_4), (1, 3, a_35, .ref a_32), (1, 2, a_35, .ref a_31), (1, 1, a_35, .ref a_26), (1, 0, a_35, .ref q0_), (10, 1, a0_, .ref a_35), (4, 11, a2_, .ref a_32), (4, 9, a2_, .ref a_30), (9, 9, a_26, .ref a_27), (7, 0, q0_, .ref a_24), (7, 1, q0_, .int x_18), (3, 2, a1_, .ref a_11), (4, 7, a2_, .ref a_9), (4, 6, a2_, .int x_5), (3, 3, a1_, .ref a_3), (3, 1, a1_, .ref a_1), (10, 0, a0_, .ref q0_), (4, 14, a2_, .int y0_), (3, 0, a1_, .int y1_), (4, 4, a2_, .int y2_), (4, 3, a2_, .int y3_)]) rfl (fun fr_39 H locs hp hMr_39 g => ?_)
      obtain ⟨x_40, h_41, x_42, h_43, x_44, h_45, hF_46⟩ := hp
      have hG_47 := cOK.frame hMr_39 go_.2.2.2.1 mq0_ kq0_ (by decide) (by decide) hG_38
      have g := g.more hF_46
      refine lv_aload_n hx hb dX10_doCall_132 rfl (lv_at hl 7 rfl) ?_
      refine g_getk (C := RX4) (T := TX4) (N := 17) hx hb hts (mc_ inX4) hown hK g rfl 0 (by decide) rfl (hts _ (List.mem_cons_of_mem _ t_837)) (fun _ h9 => h9) 0 rfl dX10_doCall_133 ?_
      have kb_0 : bd 0 0 (0 : Int32) := ⟨by decide, by decide⟩
      refine lv_if_eq (tgt := 140) hx hb dX10_doCall_136 (by decide) (fun c_48 => ?_) (fun c_48 => ?_)
      · have fc_48 := eq_f c_48
        have b_49 : bd 0 0 x_40 := eqX fc_48 h_41 kb_0 (by decide)
        refine lv_aload_n hx hb dX10_doCall_140 rfl (lv_at hl 5 rfl) ?_
        refine g_getk (C := RX10) (T := TX10) (N := 10) hx hb hts (mc_ inX10) hown hK g rfl 1 (by decide) rfl (hts _ (List.mem_cons_of_mem _ t_913)) (fun _ h9 => h9) 8 rfl dX10_doCall_141 ?_
        refine lv_aload_n hx hb dX10_doCall_144 rfl (lv_at hl 5 rfl) ?_
        refine g_getk (C := RX10) (T := TX10) (N := 10) hx hb hts (mc_ inX10) hown hK g rfl 0 (by decide) rfl (hts _ (List.mem_cons_of_mem _ t_912)) (fun _ h9 => h9) 19 rfl dX10_doCall_145 ?_
        refine g_getr (K := 137) (C := RX7) (T := TX7) (N := 19) hx hb hts (mc_ inX7) hown hK g mq0_ kq0_ (by decide) rfl 2 (by decide) rfl (hts _ (List.mem_cons_of_mem _ t_634)) (fun _ h9 => h9) rfl dX10_doCall_148 (fun a_50 ma_50 ka_50 g => ?_)
        refine lv_iload hx hb dX10_doCall_151 (lv_at hl 1 rfl) ?_
        refine g_aald hx hb hK g ma_50 ka_50 (by decide) rfl (by decide) (in_bd bx_29 (by decide)) dX10_doCall_153 (fun a_51 ma_51 ua_51 wa_51 => ?_)
        have ka_51 : kd a_51 = 6 := by omega
        have go_ := g
        refine g_callv (va_runV (As := [.ref a_51]) (rest := []) ⟨hx, hb, hml, hown, hts⟩ (r_X1_readyToCall l dC dI L kd tys fr_39 H.size g.2.2.2.1 a_35 ma_35 ka_35 a_51 ma_51 ka_51) (cwV 1 hts (gV_ t_1629 t_1630 t_1631 t_195 t_1632) rfl rfl rfl (by decide +kernel) ⟨(Nat.le_of_ble_eq_true rfl), (Nat.le_of_ble_eq_true rfl)⟩) (pre3V g hK ma_35 ka_35 (by decide) (q := (RX1, TX1, 18)) rfl) rfl rfl hl.1 rfl (lv_room (Nat.le_of_ble_eq_true rfl)) dX10_doCall_154 ⟨(Nat.le_of_ble_eq_true rfl), (Nat.le_of_ble_eq_true rfl)⟩) g hK (by decide) (by decide) (fx' := [(7, 2, q0_, .ref a_50), (4, 0, a2_, .int x_40), (4, 2, a2_, .int x_42), (4, 1, a2_, .int x_44), (1, 4, a_35, .ref a_4), (1, 3, a_35, .ref a_32), (1, 2, a_35, .ref a_31), (1, 1, a_35, .ref a_26), (1, 0, a_35, .ref q0_), (10, 1, a0_, .ref a_35), (4, 11, a2_, .ref a_32), (4, 9, a2_, .ref a_30), (9, 9, a_26, .ref a_27), (7, 0, q0_, .ref a_24), (7, 1, q0_, .int x_18), (3, 2, a1_, .ref a_11), (4, 7, a2_, .ref a_9), (4, 6, a2_, .int x_5), (3, 3, a1_, .ref a_3), (3, 1, a1_, .ref a_1), (10, 0, a0_, .ref q0_), (4, 14, a2_, .int y0_), (3, 0, a1_, .int y1_), (4, 4, a2_, .int y2_), (4, 3, a2_, .int y3_)]) rfl (fun fr_52 H locs hp hMr_52 g => ?_)
        have hF_53 := hp
        have hG_54 := cOK.frame hMr_52 go_.2.2.2.1 mq0_ kq0_ (by decide) (by decide) hG_47
        have g := g.more hF_53
        refine lv_aload_n hx hb dX10_doCall_157 rfl (lv_at hl 5 rfl) ?_
        refine g_getk (C := RX10) (T := TX10) (N := 10) hx hb hts (mc_ inX10) hown hK g rfl 1 (by decide) rfl (hts _ (List.mem_cons_of_mem _ t_913)) (fun _ h9 => h9) 12 rfl dX10_doCall_158 ?_
        have kb_1 : bd 1 1 (1 : Int32) := ⟨by decide, by decide⟩
        have go_ := g
        refine g_callv (va_runV (As := []) (rest := []) ⟨hx, hb, hml, hown, hts⟩ (r_X1_go_3 l dC dI L kd tys fr_52 H.size g.2.2.2.1 a_35 ma_35 ka_35 q0_ mq0_ kq0_ a_26 ma_26 ka_26 1 kb_1 0 kb_0 0 kb_0 x_18 h_19 hG_54 (g.fcts [11, 10, 0, 1, 2, 17] rfl)) (cwV 0 hts (gV_ t_1555 t_1556 t_1557 t_195 t_1558) rfl rfl rfl (by decide +kernel) ⟨(Nat.le_of_ble_eq_true rfl), (Nat.le_of_ble_eq_true rfl)⟩) (pre3V g hK ma_35 ka_35 (by decide) (q := (RX1, TX1, 18)) rfl) rfl rfl hl.1 rfl (lv_room (Nat.le_of_ble_eq_true rfl)) dX10_doCall_161 ⟨(Nat.le_of_ble_eq_true rfl), (Nat.le_of_ble_eq_true rfl)⟩) g hK (by decide) (by decide) (fx' := [(1, 12, a_35, .int 1), (1, 6, a_35, .int 0), (1, 5, a_35, .int 0), (7, 2, q0_, .ref a_50), (4, 0, a2_, .int x_40), (4, 2, a2_, .int x_42), (4, 1, a2_, .int x_44), (1, 4, a_35, .ref a_4), (1, 3, a_35, .ref a_32), (1, 2, a_35, .ref a_31), (1, 1, a_35, .ref a_26), (1, 0, a_35, .ref q0_), (10, 1, a0_, .ref a_35), (4, 11, a2_, .ref a_32), (4, 9, a2_, .ref a_30), (9, 9, a_26, .ref a_27), (7, 0, q0_, .ref a_24), (7, 1, q0_, .int x_18), (3, 2, a1_, .ref a_11), (4, 7, a2_, .ref a_9), (4, 6, a2_, .int x_5), (3, 3, a1_, .ref a_3), (3, 1, a1_, .ref a_1), (10, 0, a0_, .ref q0_), (4, 14, a2_, .int y0_), (3, 0, a1_, .int y1_), (4, 4, a2_, .int y2_), (4, 3, a2_, .int y3_)]) rfl (fun fr_55 H locs hp hMr_55 g => ?_)
        obtain ⟨x_56, h_57, hF_58⟩ := hp
        have hG_59 := cOK.frame hMr_55 go_.2.2.2.1 mq0_ kq0_ (by decide) (by decide) hG_54
        have g := g.more hF_58
        refine lv_aload_n hx hb dX10_doCall_164 rfl (lv_at hl 5 rfl) ?_
        refine lv_aload_n hx hb dX10_doCall_165 rfl (lv_at hl 7 rfl) ?_
        refine lv_iload_n hx hb dX10_doCall_166 rfl (lv_at hl 8 rfl) ?_
        have go_ := g
        refine g_callv (va_runV (As := [.ref a2_, .int x3_]) (rest := []) ⟨hx, hb, hml, hown, hts⟩ (r_X10_noteCall_2 l dC dI L kd tys fr_55 H.size g.2.2.2.1 a0_ ma0_ ka0_ a2_ ma2_ ka2_ x3_ bx3_ x_40 b_49 x_42 h_43 x_44 h_45 x_5 b_8 y0_ by0_ y2_ by2_ y3_ by3_ (g.fcts [5, 6, 7, 21, 25, 27, 28] rfl)) (cwV 2 hts (gV_ t_1633 t_1635 t_73 t_194 t_1636) rfl rfl rfl (by decide +kernel) ⟨(Nat.le_of_ble_eq_true rfl), (Nat.le_of_ble_eq_true rfl)⟩) (pre3V g hK ma0_ ka0_ (by decide) (q := (RX10, TX10, 10)) rfl) rfl rfl hl.1 rfl (lv_room (Nat.le_of_ble_eq_true rfl)) dX10_doCall_167 ⟨(Nat.le_of_ble_eq_true rfl), (Nat.le_of_ble_eq_true rfl)⟩) g hK (by decide) (by decide) (fx' := [(1, 11, a_35, .int x_56), (1, 12, a_35, .int 1), (1, 6, a_35, .int 0), (1, 5, a_35, .int 0), (7, 2, q0_, .ref a_50), (4, 2, a2_, .int x_42), (4, 1, a2_, .int x_44), (1, 4, a_35, .ref a_4), (1, 3, a_35, .ref a_32), (1, 2, a_35, .ref a_31), (1, 1, a_35, .ref a_26), (1, 0, a_35, .ref q0_), (10, 1, a0_, .ref a_35), (4, 11, a2_, .ref a_32), (4, 9, a2_, .ref a_30), (9, 9, a_26, .ref a_27), (7, 0, q0_, .ref a_24), (7, 1, q0_, .int x_18), (3, 2, a1_, .ref a_11), (4, 7, a2_, .ref a_9), (4, 6, a2_, .int x_5), (3, 3, a1_, .ref a_3), (3, 1, a1_, .ref a_1), (10, 0, a0_, .ref q0_), (4, 14, a2_, .int y0_), (3, 0, a1_, .int y1_), (4, 4, a2_, .int y2_), (4, 3, a2_, .int y3_)]) rfl (fun fr_60 H locs hp hMr_60 g => ?_)
        obtain ⟨x_61, h_62, hF_63⟩ := hp
        have hG_64 := cOK.frame hMr_60 go_.2.2.2.1 mq0_ kq0_ (by decide) (by decide) hG_59
        have g := g.more hF_63
        refine lv_aload_n hx hb dX10_doCall_170 rfl (lv_at hl 5 rfl) ?_
        refine g_getk (C := RX10) (T := TX10) (N := 10) hx hb hts (mc_ inX10) hown hK g rfl 1 (by decide) rfl (hts _ (List.mem_cons_of_mem _ t_913)) (fun _ h9 => h9) 13 rfl dX10_doCall_171 ?_
        refine lv_aload_n hx hb dX10_doCall_174 rfl (lv_at hl 5 rfl) ?_
        refine g_getk (C := RX10) (T := TX10) (N := 10) hx hb hts (mc_ inX10) hown hK g rfl 0 (by decide) rfl (hts _ (List.mem_cons_of_mem _ t_912)) (fun _ h9 => h9) 24 rfl dX10_doCall_175 ?_
        refine lv_aload hx hb dX10_doCall_178 (lv_at hl 2 rfl) ?_
        refine lv_aload_n hx hb dX10_doCall_180 rfl (lv_at hl 7 rfl) ?_
        refine g_getk (C := RX4) (T := TX4) (N := 17) hx hb hts (mc_ inX4) hown hK g rfl 11 (by decide) rfl (hts _ (List.mem_cons_of_mem _ t_866)) (fun _ h9 => h9) 14 rfl dX10_doCall_181 ?_
        refine lv_aload_n hx hb dX10_doCall_184 rfl (lv_at hl 7 rfl) ?_
        refine g_getk (C := RX4) (T := TX4) (N := 17) hx hb hts (mc_ inX4) hown hK g rfl 11 (by decide) rfl (hts _ (List.mem_cons_of_mem _ t_866)) (fun _ h9 => h9) 14 rfl dX10_doCall_185 ?_
        refine lv_aload hx hb dX10_doCall_188 (lv_at hl 3 rfl) ?_
        have go_ := g
        refine g_callv (va_runV (As := [.ref q0_, .ref a_26, .ref a_32, .ref a_32, .ref a_4]) (rest := []) ⟨hx, hb, hml, hown, hts⟩ (r_X1_standOn_3 l dC dI L kd tys fr_60 H.size g.2.2.2.1 a_35 ma_35 ka_35 q0_ mq0_ kq0_ a_26 ma_26 ka_26 a_32 ma_32 ka_32 a_32 ma_32 ka_32 a_4 ma_4 ka_4) (cwV 5 hts (gV_ t_1543 t_1544 t_1545 t_195 t_1546) rfl rfl rfl (by decide +kernel) ⟨(Nat.le_of_ble_eq_true rfl), (Nat.le_of_ble_eq_true rfl)⟩) (pre3V g hK ma_35 ka_35 (by decide) (q := (RX1, TX1, 18)) rfl) rfl rfl hl.1 rfl (lv_room (Nat.le_of_ble_eq_true rfl)) dX10_doCall_190 ⟨(Nat.le_of_ble_eq_true rfl), (Nat.le_of_ble_eq_true rfl)⟩) g hK (by decide) (by decide) (fx' := [(4, 0, a2_, .int x_61), (1, 11, a_35, .int x_56), (1, 12, a_35, .int 1), (1, 6, a_35, .int 0), (1, 5, a_35, .int 0), (7, 2, q0_, .ref a_50), (4, 2, a2_, .int x_42), (4, 1, a2_, .int x_44), (10, 1, a0_, .ref a_35), (4, 11, a2_, .ref a_32), (4, 9, a2_, .ref a_30), (9, 9, a_26, .ref a_27), (7, 0, q0_, .ref a_24), (7, 1, q0_, .int x_18), (3, 2, a1_, .ref a_11), (4, 7, a2_, .ref a_9), (4, 6, a2_, .int x_5), (3, 3, a1_, .ref a_3), (3, 1, a1_, .ref a_1), (10, 0, a0_, .ref q0_), (4, 14, a2_, .int y0_), (3, 0, a1_, .int y1_), (4, 4, a2_, .int y2_), (4, 3, a2_, .int y3_)]) rfl (fun fr_65 H locs hp hMr_65 g => ?_)
        have hF_66 := hp
        have hG_67 := cOK.frame hMr_65 go_.2.2.2.1 mq0_ kq0_ (by decide) (by decide) hG_64
        have g := g.more hF_66
        refine lv_aload_n hx hb dX10_doCall_193 rfl (lv_at hl 5 rfl) ?_
        refine lv_aload_n hx hb dX10_doCall_194 rfl (lv_at hl 7 rfl) ?_
        refine lv_iload hx hb dX10_doCall_195 (lv_at hl 4 rfl) ?_
        refine lv_iload hx hb dX10_doCall_197 (lv_at hl 1 rfl) ?_
        have go_ := g
        refine g_callv (va_runV (As := [.ref a2_, .int x_2, .int x_29]) (rest := []) ⟨hx, hb, hml, hown, hts⟩ (r_X10_askThrows_2 l dC dI L kd tys fr_65 H.size g.2.2.2.1 a0_ ma0_ ka0_ a2_ ma2_ ka2_ x_2 bx_2 x_29 bx_29 a_35 ma_35 ka_35 q0_ mq0_ kq0_ a_26 ma_26 ka_26 x_61 h_62 x_56 h_57 1 kb_1 0 kb_0 0 kb_0 x_42 h_43 x_44 h_45 x_18 h_19 x_5 b_8 y0_ by0_ y2_ by2_ y3_ by3_ hG_67 (g.fcts [13, 4, 3, 5, 6, 7, 8, 9, 11, 12, 18, 21, 25, 27, 28] rfl)) (cwV 3 hts (gV_ t_1637 t_1639 t_74 t_194 t_1640) rfl rfl rfl (by decide +kernel) ⟨(Nat.le_of_ble_eq_true rfl), (Nat.le_of_ble_eq_true rfl)⟩) (pre3V g hK ma0_ ka0_ (by decide) (q := (RX10, TX10, 10)) rfl) rfl rfl hl.1 rfl (lv_room (Nat.le_of_ble_eq_true rfl)) dX10_doCall_199 ⟨(Nat.le_of_ble_eq_true rfl), (Nat.le_of_ble_eq_true rfl)⟩) g hK (by decide) (by decide) (fx' := [(1, 4, a_35, .ref a_4), (1, 3, a_35, .ref a_32), (1, 2, a_35, .ref a_32), (1, 1, a_35, .ref a_26), (1, 0, a_35, .ref q0_), (7, 2, q0_, .ref a_50), (10, 1, a0_, .ref a_35), (4, 11, a2_, .ref a_32), (4, 9, a2_, .ref a_30), (9, 9, a_26, .ref a_27), (7, 0, q0_, .ref a_24), (7, 1, q0_, .int x_18), (3, 2, a1_, .ref a_11), (4, 7, a2_, .ref a_9), (4, 6, a2_, .int x_5), (3, 3, a1_, .ref a_3), (3, 1, a1_, .ref a_1), (10, 0, a0_, .ref q0_), (4, 14, a2_, .int y0_), (3, 0, a1_, .int y1_), (4, 4, a2_, .int y2_), (4, 3, a2_, .int y3_)]) rfl (fun fr_68 H locs hp hMr_68 g => ?_)
        obtain ⟨x_69, h_70, x_71, h_72, x_73, h_74, hF_75⟩ := hp
        have hG_76 := cOK.frame hMr_68 go_.2.2.2.1 mq0_ kq0_ (by decide) (by decide) hG_67
        have g := g.more hF_75
        refine lv_aload_n hx hb dX10_doCall_202 rfl (lv_at hl 5 rfl) ?_
        refine lv_aload_n hx hb dX10_doCall_203 rfl (lv_at hl 7 rfl) ?_
        refine lv_iload hx hb dX10_doCall_204 (lv_at hl 4 rfl) ?_
        refine lv_iload hx hb dX10_doCall_206 (lv_at hl 1 rfl) ?_
        have go_ := g
        refine g_callv (va_runV (As := [.ref a2_, .int x_2, .int x_29]) (rest := []) ⟨hx, hb, hml, hown, hts⟩ (r_X10_findChanges_2 l dC dI L kd tys fr_68 H.size g.2.2.2.1 a0_ ma0_ ka0_ a2_ ma2_ ka2_ x_2 bx_2 x_29 bx_29 x_69 h_70 x_71 h_72 x_73 h_74 x_5 b_8 y0_ by0_ y2_ by2_ y3_ by3_ (g.fcts [0, 1, 2, 17, 21, 23, 24] rfl)) (cwV 3 hts (gV_ t_1641 t_1643 t_75 t_194 t_1644) rfl rfl rfl (by decide +kernel) ⟨(Nat.le_of_ble_eq_true rfl), (Nat.le_of_ble_eq_true rfl)⟩) (pre3V g hK ma0_ ka0_ (by decide) (q := (RX10, TX10, 10)) rfl) rfl rfl hl.1 rfl (lv_room (Nat.le_of_ble_eq_true rfl)) dX10_doCall_208 ⟨(Nat.le_of_ble_eq_true rfl), (Nat.le_of_ble_eq_true rfl)⟩) g hK (by decide) (by decide) (fx' := [(4, 2, a2_, .int x_71), (4, 1, a2_, .int x_73), (1, 4, a_35, .ref a_4), (1, 3, a_35, .ref a_32), (1, 2, a_35, .ref a_32), (1, 1, a_35, .ref a_26), (1, 0, a_35, .ref q0_), (7, 2, q0_, .ref a_50), (10, 1, a0_, .ref a_35), (4, 11, a2_, .ref a_32), (4, 9, a2_, .ref a_30), (9, 9, a_26, .ref a_27), (7, 0, q0_, .ref a_24), (7, 1, q0_, .int x_18), (3, 2, a1_, .ref a_11), (4, 7, a2_, .ref a_9), (4, 6, a2_, .int x_5), (3, 3, a1_, .ref a_3), (3, 1, a1_, .ref a_1), (10, 0, a0_, .ref q0_), (4, 14, a2_, .int y0_), (3, 0, a1_, .int y1_)]) rfl (fun fr_77 H locs hp hMr_77 g => ?_)
        obtain ⟨x_78, h_79, x_80, h_81, x_82, h_83, hF_84⟩ := hp
        have hG_85 := cOK.frame hMr_77 go_.2.2.2.1 mq0_ kq0_ (by decide) (by decide) hG_76
        have g := g.more hF_84
        refine lv_aload_n hx hb dX10_doCall_211 rfl (lv_at hl 5 rfl) ?_
        refine g_getk (C := RX10) (T := TX10) (N := 10) hx hb hts (mc_ inX10) hown hK g rfl 1 (by decide) rfl (hts _ (List.mem_cons_of_mem _ t_913)) (fun _ h9 => h9) 11 rfl dX10_doCall_212 ?_
        refine lv_aload_n hx hb dX10_doCall_215 rfl (lv_at hl 5 rfl) ?_
        refine g_getk (C := RX10) (T := TX10) (N := 10) hx hb hts (mc_ inX10) hown hK g rfl 0 (by decide) rfl (hts _ (List.mem_cons_of_mem _ t_912)) (fun _ h9 => h9) 22 rfl dX10_doCall_216 ?_
        refine lv_aload hx hb dX10_doCall_219 (lv_at hl 2 rfl) ?_
        refine lv_aload hx hb dX10_doCall_221 (lv_at hl 0 rfl) ?_
        refine lv_aload_n hx hb dX10_doCall_223 rfl (lv_at hl 7 rfl) ?_
        refine g_getk (C := RX4) (T := TX4) (N := 17) hx hb hts (mc_ inX4) hown hK g rfl 11 (by decide) rfl (hts _ (List.mem_cons_of_mem _ t_866)) (fun _ h9 => h9) 12 rfl dX10_doCall_224 ?_
        refine lv_aload hx hb dX10_doCall_227 (lv_at hl 3 rfl) ?_
        have go_ := g
        refine g_callv (va_runV (As := [.ref q0_, .ref a_26, .ref a_31, .ref a_32, .ref a_4]) (rest := []) ⟨hx, hb, hml, hown, hts⟩ (r_X1_standOn_2 l dC dI L kd tys fr_77 H.size g.2.2.2.1 a_35 ma_35 ka_35 q0_ mq0_ kq0_ a_26 ma_26 ka_26 a_31 ma_31 ka_31 a_32 ma_32 ka_32 a_4 ma_4 ka_4) (cwV 5 hts (gV_ t_1543 t_1544 t_1545 t_195 t_1546) rfl rfl rfl (by decide +kernel) ⟨(Nat.le_of_ble_eq_true rfl), (Nat.le_of_ble_eq_true rfl)⟩) (pre3V g hK ma_35 ka_35 (by decide) (q := (RX1, TX1, 18)) rfl) rfl rfl hl.1 rfl (lv_room (Nat.le_of_ble_eq_true rfl)) dX10_doCall_229 ⟨(Nat.le_of_ble_eq_true rfl), (Nat.le_of_ble_eq_true rfl)⟩) g hK (by decide) (by decide) (fx' := [(4, 0, a2_, .int x_78), (4, 4, a2_, .int x_80), (4, 3, a2_, .int x_82), (4, 2, a2_, .int x_71), (4, 1, a2_, .int x_73), (7, 2, q0_, .ref a_50), (10, 1, a0_, .ref a_35), (4, 11, a2_, .ref a_32), (4, 9, a2_, .ref a_30), (9, 9, a_26, .ref a_27), (7, 0, q0_, .ref a_24), (7, 1, q0_, .int x_18), (3, 2, a1_, .ref a_11), (4, 7, a2_, .ref a_9), (4, 6, a2_, .int x_5), (3, 3, a1_, .ref a_3), (3, 1, a1_, .ref a_1), (10, 0, a0_, .ref q0_), (4, 14, a2_, .int y0_), (3, 0, a1_, .int y1_)]) rfl (fun fr_86 H locs hp hMr_86 g => ?_)
        have hF_87 := hp
        have hG_88 := cOK.frame hMr_86 go_.2.2.2.1 mq0_ kq0_ (by decide) (by decide) hG_85
        have g := g.more hF_87
        refine lv_aload_n hx hb dX10_doCall_232 rfl (lv_at hl 5 rfl) ?_
        refine lv_aload_n hx hb dX10_doCall_233 rfl (lv_at hl 7 rfl) ?_
        refine lv_iload hx hb dX10_doCall_234 (lv_at hl 4 rfl) ?_
        refine lv_iload hx hb dX10_doCall_236 (lv_at hl 1 rfl) ?_
        have go_ := g
        refine g_callv (va_runV (As := [.ref a2_, .int x_2, .int x_29]) (rest := []) ⟨hx, hb, hml, hown, hts⟩ (r_X10_askGives_2 l dC dI L kd tys fr_86 H.size g.2.2.2.1 a0_ ma0_ ka0_ a2_ ma2_ ka2_ x_2 bx_2 x_29 bx_29 a_35 ma_35 ka_35 q0_ mq0_ kq0_ a_26 ma_26 ka_26 x_78 h_79 x_80 h_81 x_82 h_83 x_71 h_72 x_73 h_74 x_18 h_19 x_5 b_8 y0_ by0_ hG_88 (g.fcts [11, 4, 3, 5, 6, 7, 8, 9, 16, 19, 23] rfl)) (cwV 3 hts (gV_ t_1657 t_1659 t_77 t_194 t_1660) rfl rfl rfl (by decide +kernel) ⟨(Nat.le_of_ble_eq_true rfl), (Nat.le_of_ble_eq_true rfl)⟩) (pre3V g hK ma0_ ka0_ (by decide) (q := (RX10, TX10, 10)) rfl) rfl rfl hl.1 rfl (lv_room (Nat.le_of_ble_eq_true rfl)) dX10_doCall_238 ⟨(Nat.le_of_ble_eq_true rfl), (Nat.le_of_ble_eq_true rfl)⟩) g hK (by decide) (by decide) (fx' := [(1, 4, a_35, .ref a_4), (1, 3, a_35, .ref a_32), (1, 2, a_35, .ref a_31), (1, 1, a_35, .ref a_26), (1, 0, a_35, .ref q0_), (4, 4, a2_, .int x_80), (4, 3, a2_, .int x_82), (7, 2, q0_, .ref a_50), (10, 1, a0_, .ref a_35), (4, 11, a2_, .ref a_32), (4, 9, a2_, .ref a_30), (9, 9, a_26, .ref a_27), (7, 0, q0_, .ref a_24), (7, 1, q0_, .int x_18), (3, 2, a1_, .ref a_11), (4, 7, a2_, .ref a_9), (4, 6, a2_, .int x_5), (3, 3, a1_, .ref a_3), (3, 1, a1_, .ref a_1), (10, 0, a0_, .ref q0_), (4, 14, a2_, .int y0_), (3, 0, a1_, .int y1_)]) rfl (fun fr_89 H locs hp hMr_89 g => ?_)
        obtain ⟨x_90, h_91, x_92, h_93, x_94, h_95, hF_96⟩ := hp
        have hG_97 := cOK.frame hMr_89 go_.2.2.2.1 mq0_ kq0_ (by decide) (by decide) hG_88
        have g := g.more hF_96
        refine lv_iconst (v := 0) hx hb dX10_doCall_241 (by decide) ?_
        refine lv_istore (lv' := [(9, .int 0), (8, .ref a_31), (7, .int x_29), (6, .ref a_26), (5, .ref a_4), (4, .int x_2), (0, .ref a0_), (1, .ref a1_), (2, .ref a2_), (3, .int x3_)]) hx hb dX10_doCall_242 hl (by decide) rfl (fun ls hl => ?_)
        have loop_98 : ∀ (n : Nat) (v244_9 : Int32) (w244_4_0_a2_ : Int32) (w244_4_2_a2_ : Int32) (w244_4_1_a2_ : Int32), bd 0 3 v244_9 → bd 0 8 w244_4_0_a2_ → bd (-1) 2147483647 w244_4_2_a2_ → bd (-1) 2147483647 w244_4_1_a2_ → (3 - v244_9.toInt < (n : Int)) → ∀ (f : Nat → va_E) (H : Heap) (locs : List Loc) (ls : Array Slot), G3 (dC, dI) L kd tys s f0 [(1, 0), (1, 1), (1, 2), (1, 3), (1, 4), (1, 5), (1, 6), (1, 8), (1, 11), (1, 12), (1, 13), (1, 14), (1, 15), (1, 16), (1, 17), (4, 0), (4, 1), (4, 2), (4, 3), (4, 4), (4, 5), (4, 15), (4, 16)] [100, 101, 102, 116, 117, 130, 131, 146] f H locs [(4, 0, a2_, .int w244_4_0_a2_), (4, 2, a2_, .int w244_4_2_a2_), (4, 1, a2_, .int w244_4_1_a2_), (4, 4, a2_, .int x_80), (4, 3, a2_, .int x_82), (7, 2, q0_, .ref a_50), (10, 1, a0_, .ref a_35), (4, 11, a2_, .ref a_32), (4, 9, a2_, .ref a_30), (9, 9, a_26, .ref a_27), (7, 0, q0_, .ref a_24), (7, 1, q0_, .int x_18), (3, 2, a1_, .ref a_11), (4, 7, a2_, .ref a_9), (4, 6, a2_, .int x_5), (3, 3, a1_, .ref a_3), (3, 1, a1_, .ref a_1), (10, 0, a0_, .ref q0_), (4, 14, a2_, .int y0_), (3, 0, a1_, .int y1_)] → cOK f q0_ → lv_has ls 10 [(9, .int v244_9), (8, .ref a_31), (7, .int x_29), (6, .ref a_26), (5, .ref a_4), (4, .int x_2), (0, .ref a0_), (1, .ref a1_), (2, .ref a2_), (3, .int x3_)] → W p l e ({ frames := 4, cells := 0, slots := 0, locals := 103 } : Room) s m [.ref a0_, .ref a1_, .ref a2_, .int x3_].toArray below meth c H locs 0 0 Q (F0 m 244 ls []) := by
          intro n244
          induction n244 with
          | zero =>
            intro v244_9 w244_4_0_a2_ w244_4_2_a2_ w244_4_1_a2_ bv244_9 bw244_4_0_a2_ bw244_4_2_a2_ bw244_4_1_a2_ hm244 f H locs ls g hG244_c_q0_ hl
            exact absurd hm244 (by have h9_v244_9 := bv244_9; unfold bd at h9_v244_9; have h9_w244_4_0_a2_ := bw244_4_0_a2_; unfold bd at h9_w244_4_0_a2_; have h9_w244_4_2_a2_ := bw244_4_2_a2_; unfold bd at h9_w244_4_2_a2_; have h9_w244_4_1_a2_ := bw244_4_1_a2_; unfold bd at h9_w244_4_1_a2_; omega)
          | succ n244 ih244 =>
            intro v244_9 w244_4_0_a2_ w244_4_2_a2_ w244_4_1_a2_ bv244_9 bw244_4_0_a2_ bw244_4_2_a2_ bw244_4_1_a2_ hm244 f H locs ls g hG244_c_q0_ hl
            refine lv_iload hx hb dX10_doCall_244 (lv_at hl 0 rfl) ?_
            refine lv_aload_n hx hb dX10_doCall_246 rfl (lv_at hl 8 rfl) ?_
            refine g_getk (C := RX4) (T := TX4) (N := 17) hx hb hts (mc_ inX4) hown hK g rfl 6 (by decide) rfl (hts _ (List.mem_cons_of_mem _ t_851)) (fun _ h9 => h9) 14 rfl dX10_doCall_247 ?_
            refine lv_icmp_ge (tgt := 266) hx hb dX10_doCall_250 (by decide) (fun c_99 => ?_) (fun c_99 => ?_)
            · have fc_99 := le_f c_99
              have b_100 : bd 1 3 v244_9 := leR fc_99 b_8 bv244_9 (by decide)
              refine lv_aload_n hx hb dX10_doCall_266 rfl (lv_at hl 6 rfl) ?_
              refine lv_aload_n hx hb dX10_doCall_267 rfl (lv_at hl 8 rfl) ?_
              refine lv_iload hx hb dX10_doCall_268 (lv_at hl 5 rfl) ?_
              refine lv_aload_n hx hb dX10_doCall_270 rfl (lv_at hl 6 rfl) ?_
              refine g_getk (C := RX10) (T := TX10) (N := 10) hx hb hts (mc_ inX10) hown hK g rfl 0 (by decide) rfl (hts _ (List.mem_cons_of_mem _ t_912)) (fun _ h9 => h9) 17 rfl dX10_doCall_271 ?_
              refine g_getk (C := RX7) (T := TX7) (N := 19) hx hb hts (mc_ inX7) hown hK g rfl 2 (by decide) rfl (hts _ (List.mem_cons_of_mem _ t_634)) (fun _ h9 => h9) 5 rfl dX10_doCall_274 ?_
              refine lv_iload hx hb dX10_doCall_277 (lv_at hl 2 rfl) ?_
              refine g_aald hx hb hK g ma_50 ka_50 (by decide) rfl (by decide) (in_bd bx_29 (by decide)) dX10_doCall_279 (fun a_101 ma_101 ua_101 wa_101 => ?_)
              have ka_101 : kd a_101 = 6 := by omega
              refine lv_aload hx hb dX10_doCall_280 (lv_at hl 4 rfl) ?_
              have go_ := g
              refine g_callv (va_runV (As := [.ref a2_, .int x_2, .ref a_101, .ref a_4]) (rest := []) ⟨hx, hb, hml, hown, hts⟩ (r_X10_askModel_2 l dC dI L kd tys f H.size g.2.2.2.1 a0_ ma0_ ka0_ a2_ ma2_ ka2_ x_2 bx_2 a_101 ma_101 ka_101 a_4 ma_4 ka_4 q0_ mq0_ kq0_ w244_4_0_a2_ bw244_4_0_a2_ w244_4_2_a2_ bw244_4_2_a2_ w244_4_1_a2_ bw244_4_1_a2_ x_80 h_81 x_82 h_83 x_18 h_19 x_5 b_8 y0_ by0_ hG244_c_q0_ (g.fcts [17, 0, 1, 2, 3, 4, 11, 14, 18] rfl)) (cwV 4 hts (gV_ t_1661 t_1663 t_78 t_194 t_1664) rfl rfl rfl (by decide +kernel) ⟨(Nat.le_of_ble_eq_true rfl), (Nat.le_of_ble_eq_true rfl)⟩) (pre3V g hK ma0_ ka0_ (by decide) (q := (RX10, TX10, 10)) rfl) rfl rfl hl.1 rfl (lv_room (Nat.le_of_ble_eq_true rfl)) dX10_doCall_282 ⟨(Nat.le_of_ble_eq_true rfl), (Nat.le_of_ble_eq_true rfl)⟩) g hK (by decide) (by decide) (fx' := [(4, 2, a2_, .int w244_4_2_a2_), (4, 1, a2_, .int w244_4_1_a2_), (4, 4, a2_, .int x_80), (4, 3, a2_, .int x_82), (7, 2, q0_, .ref a_50), (10, 1, a0_, .ref a_35), (4, 11, a2_, .ref a_32), (4, 9, a2_, .ref a_30), (9, 9, a_26, .ref a_27), (7, 0, q0_, .ref a_24), (7, 1, q0_, .int x_18), (3, 2, a1_, .ref a_11), (4, 7, a2_, .ref a_9), (4, 6, a2_, .int x_5), (3, 3, a1_, .ref a_3), (3, 1, a1_, .ref a_1), (10, 0, a0_, .ref q0_), (4, 14, a2_, .int y0_), (3, 0, a1_, .int y1_)]) rfl (fun fr_102 H locs hp hMr_102 g => ?_)
              obtain ⟨x_103, h_104, hF_105⟩ := hp
              have hG_106 := cOK.frame hMr_102 go_.2.2.2.1 mq0_ kq0_ (by decide) (by decide) hG244_c_q0_
              have g := g.more hF_105
              subst hQ
              exact W.vret hx hb hr (fun t ht hW => ⟨⟨_, rfl, ⟨x_80, h_81, x_82, h_83, w244_4_2_a2_, bw244_4_2_a2_, w244_4_1_a2_, bw244_4_1_a2_, x_103, (bd_sub h_104 (by decide)), (g.fcts [3, 4, 1, 2, 0] rfl)⟩, q3_of g hK ht hW⟩, g.2.2.1.F ht⟩) g.2.2.1.2.2 dX10_doCall_285
            · have fc_99 := nle_f c_99
              have b_107 : bd 0 2 v244_9 := ltL fc_99 bv244_9 b_8 (by decide)
              refine lv_aload_n hx hb dX10_doCall_253 rfl (lv_at hl 6 rfl) ?_
              refine lv_aload_n hx hb dX10_doCall_254 rfl (lv_at hl 8 rfl) ?_
              refine lv_iload hx hb dX10_doCall_255 (lv_at hl 0 rfl) ?_
              have go_ := g
              refine g_callv (va_runV (As := [.ref a2_, .int v244_9]) (rest := []) ⟨hx, hb, hml, hown, hts⟩ (r_X10_askKept_6 l dC dI L kd tys f H.size g.2.2.2.1 a0_ ma0_ ka0_ a2_ ma2_ ka2_ v244_9 b_107 q0_ mq0_ kq0_ a_35 ma_35 ka_35 w244_4_0_a2_ bw244_4_0_a2_ w244_4_2_a2_ bw244_4_2_a2_ w244_4_1_a2_ bw244_4_1_a2_ x_80 h_81 x_82 h_83 x_18 h_19 x_5 b_8 y0_ by0_ hG244_c_q0_ (g.fcts [17, 6, 0, 1, 2, 3, 4, 11, 14, 18] rfl)) (cwV 2 hts (gV_ t_1539 t_1541 t_56 t_194 t_1542) rfl rfl rfl (by decide +kernel) ⟨(Nat.le_of_ble_eq_true rfl), (Nat.le_of_ble_eq_true rfl)⟩) (pre3V g hK ma0_ ka0_ (by decide) (q := (RX10, TX10, 10)) rfl) rfl rfl hl.1 rfl (lv_room (Nat.le_of_ble_eq_true rfl)) dX10_doCall_257 ⟨(Nat.le_of_ble_eq_true rfl), (Nat.le_of_ble_eq_true rfl)⟩) g hK (by decide) (by decide) (fx' := [(4, 4, a2_, .int x_80), (4, 3, a2_, .int x_82), (7, 2, q0_, .ref a_50), (10, 1, a0_, .ref a_35), (4, 11, a2_, .ref a_32), (4, 9, a2_, .ref a_30), (9, 9, a_26, .ref a_27), (7, 0, q0_, .ref a_24), (7, 1, q0_, .int x_18), (3, 2, a1_, .ref a_11), (4, 7, a2_, .ref a_9), (4, 6, a2_, .int x_5), (3, 3, a1_, .ref a_3), (3, 1, a1_, .ref a_1), (10, 0, a0_, .ref q0_), (4, 14, a2_, .int y0_), (3, 0, a1_, .int y1_)]) rfl (fun fr_108 H locs hp hMr_108 g => ?_)
              obtain ⟨x_109, h_110, x_111, h_112, x_113, h_114, hF_115⟩ := hp
              have hG_116 := cOK.frame hMr_108 go_.2.2.2.1 mq0_ kq0_ (by decide) (by decide) hG244_c_q0_
              have g := g.more hF_115
              obtain ⟨y_117, ey_117⟩ : ∃ z : Int32, z = v244_9 + 1 := ⟨_, rfl⟩
              refine lv_iinc (v := y_117) (lv' := [(9, .int y_117), (8, .ref a_31), (7, .int x_29), (6, .ref a_26), (5, .ref a_4), (4, .int x_2), (0, .ref a0_), (1, .ref a1_), (2, .ref a2_), (3, .int x3_)]) hx hb dX10_doCall_260 hl (k := 0) rfl (by rw [ey_117]; rfl) (by decide) rfl (fun ls hl => ?_)
              have ty_117 := add_bd ey_117 b_107 kb_1 (by decide)
              have b_118 : bd 1 3 y_117 := add_rg ty_117 b_107 kb_1 (by decide)
              refine lv_goto (tgt := 244) hx hb dX10_doCall_263 (by decide) ?_
              have hl9 := lv_sub hl [0, 1, 2, 3, 4, 5, 6, 7, 8, 9] (by rfl : lv_pick [(9, .int y_117), (8, .ref a_31), (7, .int x_29), (6, .ref a_26), (5, .ref a_4), (4, .int x_2), (0, .ref a0_), (1, .ref a1_), (2, .ref a2_), (3, .int x3_)] [0, 1, 2, 3, 4, 5, 6, 7, 8, 9] = [(9, .int y_117), (8, .ref a_31), (7, .int x_29), (6, .ref a_26), (5, .ref a_4), (4, .int x_2), (0, .ref a0_), (1, .ref a1_), (2, .ref a2_), (3, .int x3_)])
              have g9 := g.sub (fx' := [(4, 0, a2_, .int x_109), (4, 2, a2_, .int x_111), (4, 1, a2_, .int x_113), (4, 4, a2_, .int x_80), (4, 3, a2_, .int x_82), (7, 2, q0_, .ref a_50), (10, 1, a0_, .ref a_35), (4, 11, a2_, .ref a_32), (4, 9, a2_, .ref a_30), (9, 9, a_26, .ref a_27), (7, 0, q0_, .ref a_24), (7, 1, q0_, .int x_18), (3, 2, a1_, .ref a_11), (4, 7, a2_, .ref a_9), (4, 6, a2_, .int x_5), (3, 3, a1_, .ref a_3), (3, 1, a1_, .ref a_1), (10, 0, a0_, .ref q0_), (4, 14, a2_, .int y0_), (3, 0, a1_, .int y1_)]) [0, 1, 2, 3, 4, 5, 6, 7, 8, 9, 10, 11, 12, 13, 14, 15, 16, 17, 18, 19] rfl
              exact ih244  y_117 x_109 x_111 x_113 (bd_sub b_118 (by decide)) h_110 h_112 h_114 (by have h9_0 := b_118; unfold bd at h9_0; have h9_1 := bv244_9; unfold bd at h9_1; have h9_2 := bw244_4_0_a2_; unfold bd at h9_2; have h9_3 := bw244_4_1_a2_; unfold bd at h9_3; have h9_4 := bw244_4_2_a2_; unfold bd at h9_4; have h9_5 := h_110; unfold bd at h9_5; have h9_6 := h_112; unfold bd at h9_6; have h9_7 := h_114; unfold bd at h9_7; have h9_8 := kb_0; unfold bd at h9_8; have h9_9 := kb_1; unfold bd at h9_9; omega) _ _ _ _ g9 hG_116 hl9
        have hl9 := lv_sub hl [0, 1, 2, 3, 4, 5, 6, 7, 8, 9] (by rfl : lv_pick [(9, .int 0), (8, .ref a_31), (7, .int x_29), (6, .ref a_26), (5, .ref a_4), (4, .int x_2), (0, .ref a0_), (1, .ref a1_), (2, .ref a2_), (3, .int x3_)] [0, 1, 2, 3, 4, 5, 6, 7, 8, 9] = [(9, .int 0), (8, .ref a_31), (7, .int x_29), (6, .ref a_26), (5, .ref a_4), (4, .int x_2), (0, .ref a0_), (1, .ref a1_), (2, .ref a2_), (3, .int x3_)])
        have g9 := g.sub (fx' := [(4, 0, a2_, .int x_90), (4, 2, a2_, .int x_92), (4, 1, a2_, .int x_94), (4, 4, a2_, .int x_80), (4, 3, a2_, .int x_82), (7, 2, q0_, .ref a_50), (10, 1, a0_, .ref a_35), (4, 11, a2_, .ref a_32), (4, 9, a2_, .ref a_30), (9, 9, a_26, .ref a_27), (7, 0, q0_, .ref a_24), (7, 1, q0_, .int x_18), (3, 2, a1_, .ref a_11), (4, 7, a2_, .ref a_9), (4, 6, a2_, .int x_5), (3, 3, a1_, .ref a_3), (3, 1, a1_, .ref a_1), (10, 0, a0_, .ref q0_), (4, 14, a2_, .int y0_), (3, 0, a1_, .int y1_)]) [0, 1, 2, 8, 9, 10, 11, 12, 13, 14, 15, 16, 17, 18, 19, 20, 21, 22, 23, 24] rfl
        exact loop_98 (9) 0 x_90 x_92 x_94 (bd_sub kb_0 (by decide)) h_91 h_93 h_95 (by have h9_0 := h_91; unfold bd at h9_0; have h9_1 := h_93; unfold bd at h9_1; have h9_2 := h_95; unfold bd at h9_2; have h9_3 := kb_0; unfold bd at h9_3; have h9_4 := kb_1; unfold bd at h9_4; omega) _ _ _ _ g9 hG_97 hl9
      · have fc_48 := neq_f c_48
        subst hQ
        exact W.vret hx hb hr (fun t ht hW => ⟨⟨_, rfl, ⟨y2_, by2_, y3_, by3_, x_42, h_43, x_44, h_45, x_40, h_41, (g.fcts [22, 23, 1, 2, 0] rfl)⟩, q3_of g hK ht hW⟩, g.2.2.1.F ht⟩) g.2.2.1.2.2 dX10_doCall_139
set_option maxHeartbeats 4000000 in
set_option maxRecDepth 100000 in
theorem r_X10_holds_20 (l : Launch) (dC : Nat → ClassId) (dI : Nat → Nat → Nat) (L : List Nat) (kd : Nat → Nat) (tys : List (ClassId × FieldType)) (f0 : Nat → va_E) (sz : Nat) (hWT : WT L kd tys f0) (a0_ : Nat) (ma0_ : a0_ ∈ L) (ka0_ : kd a0_ = 10) (a1_ : Nat) (ma1_ : a1_ ∈ L) (ka1_ : kd a1_ = 4) (x2_ : Int32) (bx2_ : bd 0 499 x2_) (x3_ : Int32) (bx3_ : bd 0 2 x3_) (q0_ : Nat) (mq0_ : q0_ ∈ L) (kq0_ : kd q0_ = 1) (q1_ : Nat) (mq1_ : q1_ ∈ L) (kq1_ : kd q1_ = 7) (q2_ : Nat) (mq2_ : q2_ ∈ L) (kq2_ : kd q2_ = 9) (y0_ : Int32) (by0_ : bd 1 500 y0_) (y1_ : Int32) (by1_ : bd 1 3 y1_) (y2_ : Int32) (by2_ : bd 1 8 y2_) (y3_ : Int32) (by3_ : bd 0 9 y3_) (y4_ : Int32) (by4_ : bd (-1) 2147483647 y4_) (y5_ : Int32) (by5_ : bd (-1) 2147483647 y5_) (y6_ : Int32) (by6_ : bd (-1) 2147483647 y6_) (y7_ : Int32) (by7_ : bd (-1) 2147483647 y7_) (y8_ : Int32) (by8_ : bd 0 0 y8_) (hGcq1_ : cOK f0 q1_) (hfx : Fs L kd f0 [(10, 1, a0_, .ref q0_), (1, 0, q0_, .ref q1_), (1, 1, q0_, .ref q2_), (7, 13, q1_, .int y0_), (4, 6, a1_, .int y1_), (7, 1, q1_, .int y2_), (4, 14, a1_, .int y3_), (4, 4, a1_, .int y4_), (4, 3, a1_, .int y5_), (4, 2, a1_, .int y6_), (4, 1, a1_, .int y7_), (4, 0, a1_, .int y8_)]) : Met l yX10_holds (.code yX10_holds cX10_holds 4 (some .boolean) :: lw_g) ({ frames := 2, cells := 0, slots := 0, locals := 50 }) (va_Pc [.ref a0_, .ref a1_, .int x2_, .int x3_] (P3 (dC, dI) L tys f0 sz)) (va_Qi (fun (r : Int32) (f : Nat → va_E) => (r = 0 ∧ ∃ z0_ : Int32, bd (-1) 2147483647 z0_ ∧ ∃ z1_ : Int32, bd (-1) 2147483647 z1_ ∧ ∃ z2_ : Int32, bd 0 7 z2_ ∧ Fs L kd f [(4, 2, a1_, .int z0_), (4, 1, a1_, .int z1_), (4, 0, a1_, .int z2_), (1, 12, q0_, .int 0), (1, 5, q0_, .int 1)]) ∨ (r = 1 ∧ ∃ z0_ : Int32, bd 1 1 z0_ ∧ Fs L kd f [(1, 15, q0_, .int z0_), (1, 12, q0_, .int 0), (1, 5, q0_, .int 1), (4, 2, a1_, .int y6_), (4, 1, a1_, .int y7_), (4, 0, a1_, .int y8_)])) (Q3 (dC, dI) L kd tys [(1, 5), (1, 6), (1, 8), (1, 11), (1, 12), (1, 13), (1, 14), (1, 15), (1, 16), (1, 17), (4, 0), (4, 1), (4, 2), (4, 5)] [100, 116, 117, 146] f0 sz) (pA L sz)) 0 0 (pA L sz) := by
  refine Met.ofW (cc := cX10_holds) (maxL := 4) (ret := (some .boolean)) (by decide) rfl ?_
  intro p e s m args below meth c s₁ B hml hv
  obtain ⟨rfl, hsz, hP, hK, hD0⟩ := hv
  have hx := B.exec
  have hb := B.bytes
  have hr := B.returns
  have hts := atoms_spec (ws := (.code yX10_holds cX10_holds 4 (some .boolean) :: lw_g)) B.pre
  have hown : s.vm.findClass RX10 = some m.cls := findClass_of_methodNamed B.named
  have hlocks := B.notSynchronized
  subst hsz
  have g : G3 (dC, dI) L kd tys s f0 [(1, 5), (1, 6), (1, 8), (1, 11), (1, 12), (1, 13), (1, 14), (1, 15), (1, 16), (1, 17), (4, 0), (4, 1), (4, 2), (4, 5)] [100, 116, 117, 146] f0 s.heap [] [(10, 1, a0_, .ref q0_), (1, 0, q0_, .ref q1_), (1, 1, q0_, .ref q2_), (7, 13, q1_, .int y0_), (4, 6, a1_, .int y1_), (7, 1, q1_, .int y2_), (4, 14, a1_, .int y3_), (4, 4, a1_, .int y4_), (4, 3, a1_, .int y5_), (4, 2, a1_, .int y6_), (4, 1, a1_, .int y7_), (4, 0, a1_, .int y8_)] := G3.start hP hD0 hWT hfx
  have hl := lv_entry ([.ref a0_, .ref a1_, .int x2_, .int x3_]) (n := 4) (Nat.le_of_ble_eq_true rfl)
  rw [lg_entry_eq]
  generalize (lg_sl ([.ref a0_, .ref a1_, .int x2_, .int x3_]) ++ List.replicate (4 - (lg_sl ([.ref a0_, .ref a1_, .int x2_, .int x3_])).length) Slot.unset).toArray = ls at hl ⊢
  have hl : lv_has ls 4 [(0, .ref a0_), (1, .ref a1_), (2, .int x2_), (3, .int x3_)] := hl
  refine W_q (fun Q hQ => ?_)
  refine lv_aload_n hx hb dX10_holds_0 rfl (lv_at hl 0 rfl) ?_
  refine g_getk (C := RX10) (T := TX10) (N := 10) hx hb hts (mc_ inX10) hown hK g rfl 1 (by decide) rfl (hts _ (List.mem_cons_of_mem _ t_913)) (fun _ h9 => h9) 0 rfl dX10_holds_1 ?_
  refine lv_aload_n hx hb dX10_holds_4 rfl (lv_at hl 0 rfl) ?_
  refine g_getr (K := 7) (C := RX10) (T := TX10) (N := 10) hx hb hts (mc_ inX10) hown hK g ma0_ ka0_ (by decide) rfl 0 (by decide) rfl (hts _ (List.mem_cons_of_mem _ t_912)) (fun _ h9 => h9) rfl dX10_holds_5 (fun a_1 ma_1 ka_1 g => ?_)
  refine g_getr (K := 141) (C := RX7) (T := TX7) (N := 19) hx hb hts (mc_ inX7) hown hK g ma_1 ka_1 (by decide) rfl 8 (by decide) rfl (hts _ (List.mem_cons_of_mem _ t_652)) (fun _ h9 => h9) rfl dX10_holds_8 (fun a_2 ma_2 ka_2 g => ?_)
  refine lv_iload_n hx hb dX10_holds_11 rfl (lv_at hl 2 rfl) ?_
  refine g_iald hx hb hK g ma_2 ka_2 (by decide) rfl (in_bd bx2_ (by decide)) dX10_holds_12 (fun x_3 bx_3 cx_3 => ?_)
  refine lv_aload_n hx hb dX10_holds_13 rfl (lv_at hl 1 rfl) ?_
  refine g_geti (C := RX4) (T := TX4) (N := 17) hx hb hts (mc_ inX4) hown hK g ma1_ ka1_ (by decide) rfl 16 (by decide) rfl (hts _ (List.mem_cons_of_mem _ t_876)) (fun _ h9 => h9) rfl dX10_holds_14 (fun x_4 bx_4 g => ?_)
  have go_ := g
  refine g_callv (va_runV (As := [.int x_3, .int x_4]) (rest := []) ⟨hx, hb, hml, hown, hts⟩ (r_X1_readyToAsk l dC dI L kd tys f0 s.heap.size g.2.2.2.1 q0_ mq0_ kq0_ x_3 x_4) (cwV 2 hts (gV_ t_1551 t_1552 t_1553 t_195 t_1554) rfl rfl rfl (by decide +kernel) ⟨(Nat.le_of_ble_eq_true rfl), (Nat.le_of_ble_eq_true rfl)⟩) (pre3V g hK mq0_ kq0_ (by decide) (q := (RX1, TX1, 18)) rfl) rfl rfl hl.1 rfl (lv_room (Nat.le_of_ble_eq_true rfl)) dX10_holds_17 ⟨(Nat.le_of_ble_eq_true rfl), (Nat.le_of_ble_eq_true rfl)⟩) g hK (by decide) (by decide) (fx' := [(4, 16, a1_, .int x_4), (7, 8, a_1, .ref a_2), (10, 0, a0_, .ref a_1), (10, 1, a0_, .ref q0_), (1, 0, q0_, .ref q1_), (1, 1, q0_, .ref q2_), (7, 13, q1_, .int y0_), (4, 6, a1_, .int y1_), (7, 1, q1_, .int y2_), (4, 14, a1_, .int y3_), (4, 4, a1_, .int y4_), (4, 3, a1_, .int y5_), (4, 2, a1_, .int y6_), (4, 1, a1_, .int y7_), (4, 0, a1_, .int y8_)]) rfl (fun fr_5 H locs hp hMr_5 g => ?_)
  have hF_6 := hp
  have hG_7 := cOK.frame hMr_5 go_.2.2.2.1 mq1_ kq1_ (by decide) (by decide) hGcq1_
  have g := g.more hF_6
  refine lv_aload_n hx hb dX10_holds_20 rfl (lv_at hl 0 rfl) ?_
  refine g_getk (C := RX10) (T := TX10) (N := 10) hx hb hts (mc_ inX10) hown hK g rfl 1 (by decide) rfl (hts _ (List.mem_cons_of_mem _ t_913)) (fun _ h9 => h9) 7 rfl dX10_holds_21 ?_
  have kb_0 : bd 0 0 (0 : Int32) := ⟨by decide, by decide⟩
  have kb_1 : bd 1 1 (1 : Int32) := ⟨by decide, by decide⟩
  have go_ := g
  refine g_callv (va_runV (As := []) (rest := []) ⟨hx, hb, hml, hown, hts⟩ (r_X1_go l dC dI L kd tys fr_5 H.size g.2.2.2.1 q0_ mq0_ kq0_ q1_ mq1_ kq1_ q2_ mq2_ kq2_ 0 kb_0 1 kb_1 y0_ by0_ y2_ by2_ hG_7 (g.fcts [8, 9, 1, 3, 10, 12] rfl)) (cwV 0 hts (gV_ t_1555 t_1556 t_1557 t_195 t_1558) rfl rfl rfl (by decide +kernel) ⟨(Nat.le_of_ble_eq_true rfl), (Nat.le_of_ble_eq_true rfl)⟩) (pre3V g hK mq0_ kq0_ (by decide) (q := (RX1, TX1, 18)) rfl) rfl rfl hl.1 rfl (lv_room (Nat.le_of_ble_eq_true rfl)) dX10_holds_24 ⟨(Nat.le_of_ble_eq_true rfl), (Nat.le_of_ble_eq_true rfl)⟩) g hK (by decide) (by decide) (fx' := [(1, 12, q0_, .int 0), (1, 6, q0_, .int x_4), (1, 5, q0_, .int 1), (4, 16, a1_, .int x_4), (7, 8, a_1, .ref a_2), (10, 0, a0_, .ref a_1), (10, 1, a0_, .ref q0_), (1, 0, q0_, .ref q1_), (1, 1, q0_, .ref q2_), (7, 13, q1_, .int y0_), (4, 6, a1_, .int y1_), (7, 1, q1_, .int y2_), (4, 14, a1_, .int y3_), (4, 4, a1_, .int y4_), (4, 3, a1_, .int y5_), (4, 2, a1_, .int y6_), (4, 1, a1_, .int y7_), (4, 0, a1_, .int y8_)]) rfl (fun fr_8 H locs hp hMr_8 g => ?_)
  have hG_9 := cOK.frame hMr_8 go_.2.2.2.1 mq1_ kq1_ (by decide) (by decide) hG_7
  refine lv_aload_n hx hb dX10_holds_27 rfl (lv_at hl 0 rfl) ?_
  refine g_getk (C := RX10) (T := TX10) (N := 10) hx hb hts (mc_ inX10) hown hK g rfl 1 (by decide) rfl (hts _ (List.mem_cons_of_mem _ t_913)) (fun _ h9 => h9) 6 rfl dX10_holds_28 ?_
  refine g_geti (C := RX1) (T := TX1) (N := 18) hx hb hts (mc_ inX1) hown hK g mq0_ kq0_ (by decide) rfl 15 (by decide) rfl (hts _ (List.mem_cons_of_mem _ t_751)) (fun _ h9 => h9) rfl dX10_holds_31 (fun x_10 bx_10 g => ?_)
  refine lv_iconst (v := 1) hx hb dX10_holds_34 (by decide) ?_
  refine lv_icmp_ne (tgt := 54) hx hb dX10_holds_35 (by decide) (fun c_11 => ?_) (fun c_11 => ?_)
  · have fc_11 := neq_f c_11
    refine lv_aload_n hx hb dX10_holds_54 rfl (lv_at hl 0 rfl) ?_
    refine g_getk (C := RX10) (T := TX10) (N := 10) hx hb hts (mc_ inX10) hown hK g rfl 1 (by decide) rfl (hts _ (List.mem_cons_of_mem _ t_913)) (fun _ h9 => h9) 7 rfl dX10_holds_55 ?_
    refine g_getk (C := RX1) (T := TX1) (N := 18) hx hb hts (mc_ inX1) hown hK g rfl 15 (by decide) rfl (hts _ (List.mem_cons_of_mem _ t_751)) (fun _ h9 => h9) 0 rfl dX10_holds_58 ?_
    refine lv_iconst (v := 2) hx hb dX10_holds_61 (by decide) ?_
    have kb_2 : bd 2 2 (2 : Int32) := ⟨by decide, by decide⟩
    refine lv_icmp_ne (tgt := 76) hx hb dX10_holds_62 (by decide) (fun c_12 => ?_) (fun c_12 => ?_)
    · have fc_12 := neq_f c_12
      refine lv_aload_n hx hb dX10_holds_76 rfl (lv_at hl 1 rfl) ?_
      refine lv_aload_n hx hb dX10_holds_77 rfl (lv_at hl 0 rfl) ?_
      refine g_getk (C := RX10) (T := TX10) (N := 10) hx hb hts (mc_ inX10) hown hK g rfl 1 (by decide) rfl (hts _ (List.mem_cons_of_mem _ t_913)) (fun _ h9 => h9) 7 rfl dX10_holds_78 ?_
      refine g_getk (C := RX1) (T := TX1) (N := 18) hx hb hts (mc_ inX1) hown hK g rfl 15 (by decide) rfl (hts _ (List.mem_cons_of_mem _ t_751)) (fun _ h9 => h9) 0 rfl dX10_holds_81 ?_
      refine lv_iconst (v := 4) hx hb dX10_holds_84 (by decide) ?_
      have kb_4 : bd 4 4 (4 : Int32) := ⟨by decide, by decide⟩
      refine lv_icmp_ne (tgt := 92) hx hb dX10_holds_85 (by decide) (fun c_13 => ?_) (fun c_13 => ?_)
      · have fc_13 := neq_f c_13
        refine lv_bipush (v := 7) hx hb dX10_holds_92 (by decide) ?_
        refine lv_iload_n hx hb dX10_holds_94 rfl (lv_at hl 2 rfl) ?_
        refine lv_iload_n hx hb dX10_holds_95 rfl (lv_at hl 3 rfl) ?_
        have go_ := g
        refine g_callv (va_runV (As := [.int 7, .int x2_, .int x3_]) (rest := []) ⟨hx, hb, hml, hown, hts⟩ (r_X4_breakBy l dC dI L kd tys fr_8 H.size g.2.2.2.1 a1_ ma1_ ka1_ 7 x2_ x3_) (cwV 3 hts (gV_ t_1606 t_1607 t_1608 t_197 t_1609) rfl rfl rfl (by decide +kernel) ⟨(Nat.le_of_ble_eq_true rfl), (Nat.le_of_ble_eq_true rfl)⟩) (pre3V g hK ma1_ ka1_ (by decide) (q := (RX4, TX4, 17)) rfl) rfl rfl hl.1 rfl (lv_room (Nat.le_of_ble_eq_true rfl)) dX10_holds_96 ⟨(Nat.le_of_ble_eq_true rfl), (Nat.le_of_ble_eq_true rfl)⟩) g hK (by decide) (by decide) (fx' := [(1, 15, q0_, .int x_10), (1, 12, q0_, .int 0), (1, 6, q0_, .int x_4), (1, 5, q0_, .int 1), (4, 16, a1_, .int x_4), (7, 8, a_1, .ref a_2), (10, 0, a0_, .ref a_1), (10, 1, a0_, .ref q0_), (1, 0, q0_, .ref q1_), (1, 1, q0_, .ref q2_), (7, 13, q1_, .int y0_), (4, 6, a1_, .int y1_), (7, 1, q1_, .int y2_), (4, 14, a1_, .int y3_), (4, 4, a1_, .int y4_), (4, 3, a1_, .int y5_)]) rfl (fun fr_14 H locs hp hMr_14 g => ?_)
        have hF_15 := hp
        have hG_16 := cOK.frame hMr_14 go_.2.2.2.1 mq1_ kq1_ (by decide) (by decide) hG_9
        have g := g.more hF_15
        refine lv_iconst (v := 0) hx hb dX10_holds_99 (by decide) ?_
        have kb_7 : bd 7 7 (7 : Int32) := ⟨by decide, by decide⟩
        subst hQ
        exact W.zret (v := 0) hx hb hr (nar_z (bd_sub kb_0 (by decide) : bd 0 1 _).1 (bd_sub kb_0 (by decide) : bd 0 1 _).2) (fun t ht hW => ⟨⟨_, _, rfl, Or.inl ⟨rfl, x3_, (bd_sub bx3_ (by decide)), x2_, (bd_sub bx2_ (by decide)), 7, (bd_sub kb_7 (by decide)), (g.fcts [0, 1, 2, 4, 6] rfl)⟩, q3_of g hK ht hW⟩, g.2.2.1.F ht⟩) g.2.2.1.2.2 dX10_holds_100
      · have fc_13 := eq_f c_13
        have b_17 : bd 4 4 x_10 := eqX fc_13 (bdT x_10) kb_4 (by decide)
        refine lv_iconst (v := 5) hx hb dX10_holds_88 (by decide) ?_
        refine lv_goto (tgt := 94) hx hb dX10_holds_89 (by decide) ?_
        refine lv_iload_n hx hb dX10_holds_94 rfl (lv_at hl 2 rfl) ?_
        refine lv_iload_n hx hb dX10_holds_95 rfl (lv_at hl 3 rfl) ?_
        have go_ := g
        refine g_callv (va_runV (As := [.int 5, .int x2_, .int x3_]) (rest := []) ⟨hx, hb, hml, hown, hts⟩ (r_X4_breakBy l dC dI L kd tys fr_8 H.size g.2.2.2.1 a1_ ma1_ ka1_ 5 x2_ x3_) (cwV 3 hts (gV_ t_1606 t_1607 t_1608 t_197 t_1609) rfl rfl rfl (by decide +kernel) ⟨(Nat.le_of_ble_eq_true rfl), (Nat.le_of_ble_eq_true rfl)⟩) (pre3V g hK ma1_ ka1_ (by decide) (q := (RX4, TX4, 17)) rfl) rfl rfl hl.1 rfl (lv_room (Nat.le_of_ble_eq_true rfl)) dX10_holds_96 ⟨(Nat.le_of_ble_eq_true rfl), (Nat.le_of_ble_eq_true rfl)⟩) g hK (by decide) (by decide) (fx' := [(1, 15, q0_, .int x_10), (1, 12, q0_, .int 0), (1, 6, q0_, .int x_4), (1, 5, q0_, .int 1), (4, 16, a1_, .int x_4), (7, 8, a_1, .ref a_2), (10, 0, a0_, .ref a_1), (10, 1, a0_, .ref q0_), (1, 0, q0_, .ref q1_), (1, 1, q0_, .ref q2_), (7, 13, q1_, .int y0_), (4, 6, a1_, .int y1_), (7, 1, q1_, .int y2_), (4, 14, a1_, .int y3_), (4, 4, a1_, .int y4_), (4, 3, a1_, .int y5_)]) rfl (fun fr_18 H locs hp hMr_18 g => ?_)
        have hF_19 := hp
        have hG_20 := cOK.frame hMr_18 go_.2.2.2.1 mq1_ kq1_ (by decide) (by decide) hG_9
        have g := g.more hF_19
        refine lv_iconst (v := 0) hx hb dX10_holds_99 (by decide) ?_
        have kb_5 : bd 5 5 (5 : Int32) := ⟨by decide, by decide⟩
        subst hQ
        exact W.zret (v := 0) hx hb hr (nar_z (bd_sub kb_0 (by decide) : bd 0 1 _).1 (bd_sub kb_0 (by decide) : bd 0 1 _).2) (fun t ht hW => ⟨⟨_, _, rfl, Or.inl ⟨rfl, x3_, (bd_sub bx3_ (by decide)), x2_, (bd_sub bx2_ (by decide)), 5, (bd_sub kb_5 (by decide)), (g.fcts [0, 1, 2, 4, 6] rfl)⟩, q3_of g hK ht hW⟩, g.2.2.1.F ht⟩) g.2.2.1.2.2 dX10_holds_100
    · have fc_12 := eq_f c_12
      have b_21 : bd 2 2 x_10 := eqX fc_12 (bdT x_10) kb_2 (by decide)
      refine lv_aload_n hx hb dX10_holds_65 rfl (lv_at hl 1 rfl) ?_
      refine lv_aload_n hx hb dX10_holds_66 rfl (lv_at hl 0 rfl) ?_
      refine g_getk (C := RX10) (T := TX10) (N := 10) hx hb hts (mc_ inX10) hown hK g rfl 1 (by decide) rfl (hts _ (List.mem_cons_of_mem _ t_913)) (fun _ h9 => h9) 7 rfl dX10_holds_67 ?_
      refine g_getl (C := RX1) (T := TX1) (N := 18) hx hb hts (mc_ inX1) hown hK g mq0_ kq0_ (by decide) rfl 17 (by decide) rfl (hts _ (List.mem_cons_of_mem _ t_755)) (fun _ h9 => h9) rfl dX10_holds_70 (fun x_22 g => ?_)
      have go_ := g
      refine g_put (C := RX4) (T := TX4) (N := 17) hx hb hts (mc_ inX4) tyX4 tyX4_ok nmX4 hown hK g ma1_ ka1_ (by decide) rfl 5 (by decide) (hts _ (List.mem_cons_of_mem _ t_848)) (fun _ h9 => h9) rfl rfl okV_l rfl rfl (by decide) (Or.inr (Or.inl (by decide))) (fx' := [(1, 17, q0_, .long x_22), (1, 15, q0_, .int x_10), (1, 12, q0_, .int 0), (1, 6, q0_, .int x_4), (1, 5, q0_, .int 1), (4, 16, a1_, .int x_4), (7, 8, a_1, .ref a_2), (10, 0, a0_, .ref a_1), (10, 1, a0_, .ref q0_), (1, 0, q0_, .ref q1_), (1, 1, q0_, .ref q2_), (7, 13, q1_, .int y0_), (4, 6, a1_, .int y1_), (7, 1, q1_, .int y2_), (4, 14, a1_, .int y3_), (4, 4, a1_, .int y4_), (4, 3, a1_, .int y5_), (4, 2, a1_, .int y6_), (4, 1, a1_, .int y7_), (4, 0, a1_, .int y8_)]) rfl dX10_holds_73 (fun f H locs hM_23 g => ?_)
      have hG_24 := cOK.frame hM_23 go_.2.2.2.1 mq1_ kq1_ (by decide) (by decide) hG_9
      refine lv_aload_n hx hb dX10_holds_76 rfl (lv_at hl 1 rfl) ?_
      refine lv_aload_n hx hb dX10_holds_77 rfl (lv_at hl 0 rfl) ?_
      refine g_getk (C := RX10) (T := TX10) (N := 10) hx hb hts (mc_ inX10) hown hK g rfl 1 (by decide) rfl (hts _ (List.mem_cons_of_mem _ t_913)) (fun _ h9 => h9) 9 rfl dX10_holds_78 ?_
      refine g_getk (C := RX1) (T := TX1) (N := 18) hx hb hts (mc_ inX1) hown hK g rfl 15 (by decide) rfl (hts _ (List.mem_cons_of_mem _ t_751)) (fun _ h9 => h9) 2 rfl dX10_holds_81 ?_
      refine lv_iconst (v := 4) hx hb dX10_holds_84 (by decide) ?_
      have kb_4 : bd 4 4 (4 : Int32) := ⟨by decide, by decide⟩
      refine lv_icmp_ne (tgt := 92) hx hb dX10_holds_85 (by decide) (fun c_25 => ?_) (fun c_25 => ?_)
      · have fc_25 := neq_f c_25
        refine lv_bipush (v := 7) hx hb dX10_holds_92 (by decide) ?_
        refine lv_iload_n hx hb dX10_holds_94 rfl (lv_at hl 2 rfl) ?_
        refine lv_iload_n hx hb dX10_holds_95 rfl (lv_at hl 3 rfl) ?_
        have go_ := g
        refine g_callv (va_runV (As := [.int 7, .int x2_, .int x3_]) (rest := []) ⟨hx, hb, hml, hown, hts⟩ (r_X4_breakBy l dC dI L kd tys f H.size g.2.2.2.1 a1_ ma1_ ka1_ 7 x2_ x3_) (cwV 3 hts (gV_ t_1606 t_1607 t_1608 t_197 t_1609) rfl rfl rfl (by decide +kernel) ⟨(Nat.le_of_ble_eq_true rfl), (Nat.le_of_ble_eq_true rfl)⟩) (pre3V g hK ma1_ ka1_ (by decide) (q := (RX4, TX4, 17)) rfl) rfl rfl hl.1 rfl (lv_room (Nat.le_of_ble_eq_true rfl)) dX10_holds_96 ⟨(Nat.le_of_ble_eq_true rfl), (Nat.le_of_ble_eq_true rfl)⟩) g hK (by decide) (by decide) (fx' := [(4, 5, a1_, .long x_22), (1, 17, q0_, .long x_22), (1, 15, q0_, .int x_10), (1, 12, q0_, .int 0), (1, 6, q0_, .int x_4), (1, 5, q0_, .int 1), (4, 16, a1_, .int x_4), (7, 8, a_1, .ref a_2), (10, 0, a0_, .ref a_1), (10, 1, a0_, .ref q0_), (1, 0, q0_, .ref q1_), (1, 1, q0_, .ref q2_), (7, 13, q1_, .int y0_), (4, 6, a1_, .int y1_), (7, 1, q1_, .int y2_), (4, 14, a1_, .int y3_), (4, 4, a1_, .int y4_), (4, 3, a1_, .int y5_)]) rfl (fun fr_26 H locs hp hMr_26 g => ?_)
        have hF_27 := hp
        have hG_28 := cOK.frame hMr_26 go_.2.2.2.1 mq1_ kq1_ (by decide) (by decide) hG_24
        have g := g.more hF_27
        refine lv_iconst (v := 0) hx hb dX10_holds_99 (by decide) ?_
        have kb_7 : bd 7 7 (7 : Int32) := ⟨by decide, by decide⟩
        subst hQ
        exact W.zret (v := 0) hx hb hr (nar_z (bd_sub kb_0 (by decide) : bd 0 1 _).1 (bd_sub kb_0 (by decide) : bd 0 1 _).2) (fun t ht hW => ⟨⟨_, _, rfl, Or.inl ⟨rfl, x3_, (bd_sub bx3_ (by decide)), x2_, (bd_sub bx2_ (by decide)), 7, (bd_sub kb_7 (by decide)), (g.fcts [0, 1, 2, 6, 8] rfl)⟩, q3_of g hK ht hW⟩, g.2.2.1.F ht⟩) g.2.2.1.2.2 dX10_holds_100
      · have fc_25 := eq_f c_25
        have b_29 : bd 4 2 x_10 := eqX fc_25 b_21 kb_4 (by decide)
        exact bd_no b_29 (by decide)
  · have fc_11 := eq_f c_11
    have b_30 : bd 1 1 x_10 := eqX fc_11 (bdT x_10) kb_1 (by decide)
    refine lv_aload_n hx hb dX10_holds_38 rfl (lv_at hl 0 rfl) ?_
    refine g_getk (C := RX10) (T := TX10) (N := 10) hx hb hts (mc_ inX10) hown hK g rfl 1 (by decide) rfl (hts _ (List.mem_cons_of_mem _ t_913)) (fun _ h9 => h9) 7 rfl dX10_holds_39 ?_
    refine g_geti (C := RX1) (T := TX1) (N := 18) hx hb hts (mc_ inX1) hown hK g mq0_ kq0_ (by decide) rfl 16 (by decide) rfl (hts _ (List.mem_cons_of_mem _ t_753)) (fun _ h9 => h9) rfl dX10_holds_42 (fun x_31 bx_31 g => ?_)
    refine lv_if_eq (tgt := 52) hx hb dX10_holds_45 (by decide) (fun c_32 => ?_) (fun c_32 => ?_)
    · have fc_32 := eq_f c_32
      have b_33 : bd 0 0 x_31 := eqX fc_32 (bdT x_31) kb_0 (by decide)
      refine lv_iconst (v := 0) hx hb dX10_holds_52 (by decide) ?_
      subst hQ
      exact W.zret (v := 0) hx hb hr (nar_z (bd_sub kb_0 (by decide) : bd 0 1 _).1 (bd_sub kb_0 (by decide) : bd 0 1 _).2) (fun t ht hW => ⟨⟨_, _, rfl, Or.inl ⟨rfl, y6_, by6_, y7_, by7_, y8_, (bd_sub by8_ (by decide)), (g.fcts [17, 18, 19, 2, 4] rfl)⟩, q3_of g hK ht hW⟩, g.2.2.1.F ht⟩) g.2.2.1.2.2 dX10_holds_53
    · have fc_32 := neq_f c_32
      refine lv_iconst (v := 1) hx hb dX10_holds_48 (by decide) ?_
      refine lv_goto (tgt := 53) hx hb dX10_holds_49 (by decide) ?_
      subst hQ
      exact W.zret (v := 1) hx hb hr (nar_z (bd_sub kb_1 (by decide) : bd 0 1 _).1 (bd_sub kb_1 (by decide) : bd 0 1 _).2) (fun t ht hW => ⟨⟨_, _, rfl, Or.inr (⟨rfl, x_10, b_30, (g.fcts [1, 2, 4, 17, 18, 19] rfl)⟩), q3_of g hK ht hW⟩, g.2.2.1.F ht⟩) g.2.2.1.2.2 dX10_holds_53
