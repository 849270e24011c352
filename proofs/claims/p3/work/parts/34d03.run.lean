set_option maxHeartbeats 4000000 in
set_option maxRecDepth 100000 in
theorem r_X14_likeModel (l : Launch) (dC : Nat → ClassId) (dI : Nat → Nat → Nat) (L : List Nat) (kd : Nat → Nat) (tys : List (ClassId × FieldType)) (f0 : Nat → va_E) (sz : Nat) (hWT : WT L kd tys f0) (adK adV : Nat → Nat) (a0_ : Nat) (ma0_ : a0_ ∈ L) (ka0_ : kd a0_ = 14) (x1_ : Int32) (bx1_ : bd 0 109 x1_) (x2_ : Int32) (bx2_ : bd 0 2 x2_) (x3_ : Int32) (bx3_ : bd 0 9 x3_) (x4_ : Int32) (x5_ : Int32) (x6_ : Int64) (x7_ : Int64) (q0_ : Nat) (mq0_ : q0_ ∈ L) (kq0_ : kd q0_ = 12) (V_ : PV) (δ_ : Nat → Nat) (hW : wfP V_ δ_) (O_ : Nat → Int32) (hGOa0_ : OA f0 a0_ O_) (hGVq0_ : isV f0 q0_ V_) (hbs : ∀ j : Int32, j.toInt = 3 + x2_.toInt → (O_ j.toNatClampNeg).toInt = -1 ∨ okc V_ (O_ j.toNatClampNeg)) (hfx : Fs L kd f0 [(14, 1, a0_, .ref q0_)]) : Met l yX14_likeModel (.code yX14_likeModel cX14_likeModel 13 (some .boolean) :: lw_g) ({ frames := 974, cells := 0, slots := 0, locals := 39027 }) (va_Pc [.ref a0_, .int x1_, .int x2_, .int x3_, .int x4_, .int x5_, .long x6_, .long x7_] (P3A (dC, dI) L tys f0 sz adK adV)) (va_Qi (fun (r : Int32) (f : Nat → va_E) => (r = 0 ∧ True) ∨ (r = 1 ∧ True)) (Q3 (dC, dI) L kd tys [(14, 31), (14, 32), (14, 33), (14, 34), (14, 35), (14, 38), (14, 39), (14, 40), (14, 45)] [200, 216, 218, 219, 220, 221] f0 sz) (pA L sz)) 0 0 (pA L sz) := by
  refine Met.ofW (cc := cX14_likeModel) (maxL := 13) (ret := (some .boolean)) (by decide) rfl ?_
  intro p e s m args below meth c s₁ B hml hv
  obtain ⟨rfl, ⟨hsz, hP, hK, hD0⟩, hAm⟩ := hv
  have hx := B.exec
  have hb := B.bytes
  have hr := B.returns
  have hts := atoms_spec (ws := (.code yX14_likeModel cX14_likeModel 13 (some .boolean) :: lw_g)) B.pre
  have hown : s.vm.findClass RX14 = some m.cls := findClass_of_methodNamed B.named
  have hlocks := B.notSynchronized
  subst hsz
  have g : G3 (dC, dI) L kd tys s f0 [(14, 31), (14, 32), (14, 33), (14, 34), (14, 35), (14, 38), (14, 39), (14, 40), (14, 45)] [200, 216, 218, 219, 220, 221] f0 s.heap [] [(14, 1, a0_, .ref q0_)] := G3.start hP hD0 hWT hfx
  have hl := lv_entry ([.ref a0_, .int x1_, .int x2_, .int x3_, .int x4_, .int x5_, .long x6_, .long x7_]) (n := 13) (Nat.le_of_ble_eq_true rfl)
  rw [lg_entry_eq]
  generalize (lg_sl ([.ref a0_, .int x1_, .int x2_, .int x3_, .int x4_, .int x5_, .long x6_, .long x7_]) ++ List.replicate (13 - (lg_sl ([.ref a0_, .int x1_, .int x2_, .int x3_, .int x4_, .int x5_, .long x6_, .long x7_])).length) Slot.unset).toArray = ls at hl ⊢
  have hl : lv_has ls 13 [(0, .ref a0_), (1, .int x1_), (2, .int x2_), (3, .int x3_), (4, .int x4_), (5, .int x5_), (6, .long x6_), (8, .long x7_)] := hl
  refine W_q (fun Q hQ => ?_)
  refine lv_aload_n hx hb dX14_likeModel_0 rfl (lv_at hl 0 rfl) ?_
  refine g_getr (K := 215) (C := RX14) (T := TX14) (N := 67) hx hb hts (mc_ inX14) hown hK g ma0_ ka0_ (by decide) rfl 27 (by decide) rfl (hts _ (List.mem_cons_of_mem _ t_2173)) (fun _ h9 => h9) rfl dX14_likeModel_1 (fun a_1 ma_1 ka_1 g => ?_)
  refine lv_iconst (v := 3) hx hb dX14_likeModel_4 (by decide) ?_
  refine lv_iload_n hx hb dX14_likeModel_5 rfl (lv_at hl 2 rfl) ?_
  have kb_3 : bd 3 3 (3 : Int32) := ⟨by decide, by decide⟩
  refine lv_iadd hx hb dX14_likeModel_6 ?_
  refine lv_topi (fun y_2 ey_2 => ?_)
  have ty_2 := add_bd ey_2 kb_3 bx2_ (by decide)
  have b_3 : bd 3 5 y_2 := add_rg ty_2 kb_3 bx2_ (by decide)
  refine g_iald hx hb hK g ma_1 ka_1 (by decide) rfl (in_bd b_3 (by decide)) dX14_likeModel_7 (fun x_4 bx_4 cx_4 => ?_)
  have vx_4 := hGOa0_.cls g 0 rfl cx_4
  have hb_5 : x_4.toInt = -1 ∨ okc V_ x_4 := by rw [vx_4]; exact hbs y_2 (by have h9_0 := bx1_; unfold bd at h9_0; have h9_1 := bx2_; unfold bd at h9_1; have h9_2 := bx3_; unfold bd at h9_2; have h9_3 := bx_4; unfold bd at h9_3; have h9_4 := b_3; unfold bd at h9_4; have h8_0 := kb_3; unfold bd at h8_0; omega)
  refine lv_istore (lv' := [(10, .int x_4), (0, .ref a0_), (1, .int x1_), (2, .int x2_), (3, .int x3_), (4, .int x4_), (5, .int x5_), (6, .long x6_), (8, .long x7_)]) hx hb dX14_likeModel_8 hl (by decide) rfl (fun ls hl => ?_)
  refine lv_iload hx hb dX14_likeModel_10 (lv_at hl 0 rfl) ?_
  refine lv_iconst (v := (-1)) hx hb dX14_likeModel_12 (by decide) ?_
  have kb_m1 : bd (-1) (-1) ((-1) : Int32) := ⟨by decide, by decide⟩
  refine lv_icmp_ne (tgt := 18) hx hb dX14_likeModel_13 (by decide) (fun c_6 => ?_) (fun c_6 => ?_)
  · have fc_6 := neq_f c_6
    have b_7 : bd 0 7 x_4 := neX fc_6 bx_4 kb_m1 (by decide)
    refine lv_aload_n hx hb dX14_likeModel_18 rfl (lv_at hl 1 rfl) ?_
    refine g_getk (C := RX14) (T := TX14) (N := 67) hx hb hts (mc_ inX14) hown hK g rfl 1 (by decide) rfl (hts _ (List.mem_cons_of_mem _ t_2147)) (fun _ h9 => h9) 1 rfl dX14_likeModel_19 ?_
    refine lv_iload hx hb dX14_likeModel_22 (lv_at hl 0 rfl) ?_
    refine lv_aload_n hx hb dX14_likeModel_24 rfl (lv_at hl 1 rfl) ?_
    refine g_getk (C := RX14) (T := TX14) (N := 67) hx hb hts (mc_ inX14) hown hK g rfl 1 (by decide) rfl (hts _ (List.mem_cons_of_mem _ t_2147)) (fun _ h9 => h9) 1 rfl dX14_likeModel_25 ?_
    refine g_getr (K := 172) (C := RX12) (T := TX12) (N := 60) hx hb hts (mc_ inX12) hown hK g mq0_ kq0_ (by decide) rfl 16 (by decide) rfl (hts _ (List.mem_cons_of_mem _ t_1938)) (fun _ h9 => h9) rfl dX14_likeModel_28 (fun a_8 ma_8 ka_8 g => ?_)
    refine lv_iload_n hx hb dX14_likeModel_31 rfl (lv_at hl 2 rfl) ?_
    refine g_laldX hx hb hK g ma_8 ka_8 (by decide) rfl (in_bd bx1_ (by decide)) dX14_likeModel_32 (fun x_9 cx_9 => ?_)
    have vx_9 : x_9 = V_.l 16 x1_.toNatClampNeg := hGVq0_.atL g 0 rfl rfl cx_9
    refine lv_aload_n hx hb dX14_likeModel_33 rfl (lv_at hl 1 rfl) ?_
    refine g_getk (C := RX14) (T := TX14) (N := 67) hx hb hts (mc_ inX14) hown hK g rfl 1 (by decide) rfl (hts _ (List.mem_cons_of_mem _ t_2147)) (fun _ h9 => h9) 2 rfl dX14_likeModel_34 ?_
    refine g_getr (K := 173) (C := RX12) (T := TX12) (N := 60) hx hb hts (mc_ inX12) hown hK g mq0_ kq0_ (by decide) rfl 17 (by decide) rfl (hts _ (List.mem_cons_of_mem _ t_1940)) (fun _ h9 => h9) rfl dX14_likeModel_37 (fun a_10 ma_10 ka_10 g => ?_)
    refine lv_iload_n hx hb dX14_likeModel_40 rfl (lv_at hl 2 rfl) ?_
    refine g_laldX hx hb hK g ma_10 ka_10 (by decide) rfl (in_bd bx1_ (by decide)) dX14_likeModel_41 (fun x_11 cx_11 => ?_)
    have vx_11 : x_11 = V_.l 17 x1_.toNatClampNeg := hGVq0_.atL g 0 rfl rfl cx_11
    have go_ := g
    refine g_calli (va_runV (As := [.int x_4, .long x_9, .long x_11]) (rest := []) ⟨hx, hb, hml, hown, hts⟩ (r_X12_findN l dC dI L kd tys f0 s.heap.size g.2.2.2.1 q0_ mq0_ kq0_ x_4 (bd_sub b_7 (by decide)) x_9 x_11 V_ hGVq0_) (cwV 3 hts (gV_ t_2500 t_2501 t_2502 t_203 t_2503) rfl rfl rfl (by decide +kernel) ⟨(Nat.le_of_ble_eq_true rfl), (Nat.le_of_ble_eq_true rfl)⟩) (pre3V g hK mq0_ kq0_ (by decide) (q := (RX12, TX12, 60)) rfl) rfl rfl hl.1 rfl (lv_room (Nat.le_of_ble_eq_true rfl)) dX14_likeModel_42 ⟨(Nat.le_of_ble_eq_true rfl), (Nat.le_of_ble_eq_true rfl)⟩) g hK (by decide) (by decide) (fx' := [(12, 17, q0_, .ref a_10), (12, 16, q0_, .ref a_8), (14, 27, a0_, .ref a_1), (14, 1, a0_, .ref q0_)]) rfl (fun r_12 fr_12 H locs hp hMr_12 g => ?_)
    rcases hp with ⟨hx_13, h_14, -⟩ | ⟨hx_15, h_16, -⟩
    · have hG_17 := OA.frame hMr_12 go_.2.2.2.1 ma0_ ka0_ (by decide) (by decide) hGOa0_
      have hG_18 := isV.frame hMr_12 go_.2.2.2.1 mq0_ kq0_ (by decide) (by decide) hGVq0_
      obtain rfl : r_12 = (-1) := h_14
      refine lv_istore (lv' := [(11, .int (-1)), (10, .int x_4), (0, .ref a0_), (1, .int x1_), (2, .int x2_), (3, .int x3_), (4, .int x4_), (5, .int x5_), (6, .long x6_), (8, .long x7_)]) hx hb dX14_likeModel_45 hl (by decide) rfl (fun ls hl => ?_)
      refine lv_iload hx hb dX14_likeModel_47 (lv_at hl 0 rfl) ?_
      refine lv_iconst (v := (-1)) hx hb dX14_likeModel_49 (by decide) ?_
      refine lv_icmp_eq (tgt := 75) hx hb dX14_likeModel_50 (by decide) (fun c_ => ?_) (fun c_ => absurd (by decide) c_)
      refine lv_iconst (v := 1) hx hb dX14_likeModel_75 (by decide) ?_
      subst hQ
      have kb_1 : bd 1 1 (1 : Int32) := ⟨by decide, by decide⟩
      exact W.zret (v := 1) hx hb hr (nar_z (bd_sub kb_1 (by decide) : bd 0 1 _).1 (bd_sub kb_1 (by decide) : bd 0 1 _).2) (fun t ht hW => ⟨⟨_, _, rfl, Or.inr (⟨rfl, trivial⟩), q3_of g hK ht hW⟩, g.2.2.1.F ht⟩) g.2.2.1.2.2 dX14_likeModel_76
    · have hG_19 := OA.frame hMr_12 go_.2.2.2.1 ma0_ ka0_ (by decide) (by decide) hGOa0_
      have hG_20 := isV.frame hMr_12 go_.2.2.2.1 mq0_ kq0_ (by decide) (by decide) hGVq0_
      have hm_21 := hx_15.mem hW (hb_5.resolve_left fc_6)
      refine lv_istore (lv' := [(11, .int r_12), (10, .int x_4), (0, .ref a0_), (1, .int x1_), (2, .int x2_), (3, .int x3_), (4, .int x4_), (5, .int x5_), (6, .long x6_), (8, .long x7_)]) hx hb dX14_likeModel_45 hl (by decide) rfl (fun ls hl => ?_)
      refine lv_iload hx hb dX14_likeModel_47 (lv_at hl 0 rfl) ?_
      refine lv_iconst (v := (-1)) hx hb dX14_likeModel_49 (by decide) ?_
      refine lv_icmp_eq (tgt := 75) hx hb dX14_likeModel_50 (by decide) (fun c_22 => ?_) (fun c_22 => ?_)
      · have fc_22 := eq_f c_22
        have b_23 : bd 0 (-1) r_12 := eqX fc_22 h_16 kb_m1 (by decide)
        exact bd_no b_23 (by decide)
      · have fc_22 := neq_f c_22
        refine lv_aload_n hx hb dX14_likeModel_53 rfl (lv_at hl 2 rfl) ?_
        refine g_getk (C := RX14) (T := TX14) (N := 67) hx hb hts (mc_ inX14) hown hK g rfl 1 (by decide) rfl (hts _ (List.mem_cons_of_mem _ t_2147)) (fun _ h9 => h9) 3 rfl dX14_likeModel_54 ?_
        refine g_getr (K := 175) (C := RX12) (T := TX12) (N := 60) hx hb hts (mc_ inX12) hown hK g mq0_ kq0_ (by decide) rfl 19 (by decide) rfl (hts _ (List.mem_cons_of_mem _ t_1944)) (fun _ h9 => h9) rfl dX14_likeModel_57 (fun a_24 ma_24 ka_24 g => ?_)
        refine lv_iload hx hb dX14_likeModel_60 (lv_at hl 0 rfl) ?_
        refine g_iald hx hb hK g ma_24 ka_24 (by decide) rfl (in_bd h_16 (by decide)) dX14_likeModel_62 (fun x_25 bx_25 cx_25 => ?_)
        have vx_25 : x_25 = V_.i 19 r_12.toNatClampNeg := hG_20.at g 0 rfl rfl cx_25
        refine lv_aload_n hx hb dX14_likeModel_63 rfl (lv_at hl 2 rfl) ?_
        refine g_getk (C := RX14) (T := TX14) (N := 67) hx hb hts (mc_ inX14) hown hK g rfl 1 (by decide) rfl (hts _ (List.mem_cons_of_mem _ t_2147)) (fun _ h9 => h9) 4 rfl dX14_likeModel_64 ?_
        refine g_getk (C := RX12) (T := TX12) (N := 60) hx hb hts (mc_ inX12) hown hK g rfl 19 (by decide) rfl (hts _ (List.mem_cons_of_mem _ t_1944)) (fun _ h9 => h9) 0 rfl dX14_likeModel_67 ?_
        refine lv_iload_n hx hb dX14_likeModel_70 rfl (lv_at hl 3 rfl) ?_
        refine g_iald hx hb hK g ma_24 ka_24 (by decide) rfl (in_bd bx1_ (by decide)) dX14_likeModel_71 (fun x_26 bx_26 cx_26 => ?_)
        have vx_26 : x_26 = V_.i 19 x1_.toNatClampNeg := hG_20.at g 0 rfl rfl cx_26
        refine lv_icmp_eq (tgt := 77) hx hb dX14_likeModel_72 (by decide) (fun c_27 => ?_) (fun c_27 => ?_)
        · have fc_27 := eq_f c_27
          refine lv_aload_n hx hb dX14_likeModel_77 rfl (lv_at hl 2 rfl) ?_
          refine lv_iload hx hb dX14_likeModel_78 (lv_at hl 0 rfl) ?_
          refine lv_iconst (v := 3) hx hb dX14_likeModel_80 (by decide) ?_
          refine lv_iload_n hx hb dX14_likeModel_81 rfl (lv_at hl 4 rfl) ?_
          refine lv_iadd hx hb dX14_likeModel_82 ?_
          refine lv_topi (fun y_28 ey_28 => ?_)
          obtain rfl : y_2 = y_28 := ey_2.trans ey_28.symm
          refine lv_iload_n hx hb dX14_likeModel_83 rfl (lv_at hl 5 rfl) ?_
          have go_ := g
          refine g_calli (va_runVH (n := 3) (As := [.int r_12, .int y_2, .int x3_]) (rest := []) ⟨hx, hb, hml, hown, hts⟩ (r_X14_calls l dC dI L kd tys fr_12 H.size g.2.2.2.1 adK adV a0_ ma0_ ka0_ r_12 h_16 y_2 (bd_sub b_3 (by decide)) x3_ bx3_ q0_ mq0_ kq0_ V_ δ_ hW O_ hG_19 hG_20 hm_21.1 (by rw [← vx_4]; exact (okc.at (hb_5.resolve_left fc_6)).tr hm_21.2) (g.fcts [4] rfl)) (gI_ t_2699) List.mem_cons_self rfl rfl (Nat.le_of_ble_eq_true rfl) (Nat.le_of_ble_eq_true rfl) (hts _ (List.mem_cons_of_mem _ t_198)) (hts _ (List.mem_cons_of_mem _ t_2696)) (hts _ (List.mem_cons_of_mem _ t_2698)) (hts _ (List.mem_cons_of_mem _ t_161)) (by decide +kernel) (pre3VA g hK hAm ma0_ ka0_ (by decide) (q := (RX14, TX14, 67)) rfl) rfl rfl hl.1 rfl (lv_room (Nat.le_of_ble_eq_true rfl)) dX14_likeModel_84 ⟨(Nat.le_of_ble_eq_true rfl), (Nat.le_of_ble_eq_true rfl)⟩) g hK (by decide) (by decide) (fx' := [(12, 19, q0_, .ref a_24), (12, 17, q0_, .ref a_10), (12, 16, q0_, .ref a_8), (14, 27, a0_, .ref a_1), (14, 1, a0_, .ref q0_)]) rfl (fun r_29 fr_29 H locs hp hMr_29 g => ?_)
          obtain ⟨h_30, -⟩ := hp
          have hG_31 := OA.frame hMr_29 go_.2.2.2.1 ma0_ ka0_ (by decide) (by decide) hG_19
          have hG_32 := isV.frame hMr_29 go_.2.2.2.1 mq0_ kq0_ (by decide) (by decide) hG_20
          refine lv_istore (lv' := [(12, .int r_29), (11, .int r_12), (10, .int x_4), (0, .ref a0_), (1, .int x1_), (2, .int x2_), (3, .int x3_), (4, .int x4_), (5, .int x5_), (6, .long x6_), (8, .long x7_)]) hx hb dX14_likeModel_87 hl (by decide) rfl (fun ls hl => ?_)
          refine lv_iload hx hb dX14_likeModel_89 (lv_at hl 0 rfl) ?_
          refine lv_iload hx hb dX14_likeModel_91 (lv_at hl 7 rfl) ?_
          refine lv_icmp_eq (tgt := 98) hx hb dX14_likeModel_93 (by decide) (fun c_33 => ?_) (fun c_33 => ?_)
          · have fc_33 := eq_f c_33
            have b_34 : bd 1 3 x4_ := eqX fc_33.symm (bdT x4_) h_30 (by decide)
            refine lv_iload hx hb dX14_likeModel_98 (lv_at hl 7 rfl) ?_
            refine lv_iconst (v := 2) hx hb dX14_likeModel_100 (by decide) ?_
            have kb_2 : bd 2 2 (2 : Int32) := ⟨by decide, by decide⟩
            refine lv_icmp_ne (tgt := 132) hx hb dX14_likeModel_101 (by decide) (fun c_35 => ?_) (fun c_35 => ?_)
            · have fc_35 := neq_f c_35
              refine lv_aload_n hx hb dX14_likeModel_132 rfl (lv_at hl 3 rfl) ?_
              refine g_geti (C := RX14) (T := TX14) (N := 67) hx hb hts (mc_ inX14) hown hK g ma0_ ka0_ (by decide) rfl 38 (by decide) rfl (hts _ (List.mem_cons_of_mem _ t_2184)) (fun _ h9 => h9) rfl dX14_likeModel_133 (fun x_36 bx_36 g => ?_)
              refine lv_iload hx hb dX14_likeModel_136 (lv_at hl 8 rfl) ?_
              refine lv_icmp_ne (tgt := 145) hx hb dX14_likeModel_138 (by decide) (fun c_37 => ?_) (fun c_37 => ?_)
              · have fc_37 := neq_f c_37
                refine lv_iconst (v := 0) hx hb dX14_likeModel_145 (by decide) ?_
                subst hQ
                have kb_0 : bd 0 0 (0 : Int32) := ⟨by decide, by decide⟩
                exact W.zret (v := 0) hx hb hr (nar_z (bd_sub kb_0 (by decide) : bd 0 1 _).1 (bd_sub kb_0 (by decide) : bd 0 1 _).2) (fun t ht hW => ⟨⟨_, _, rfl, Or.inl ⟨rfl, trivial⟩, q3_of g hK ht hW⟩, g.2.2.1.F ht⟩) g.2.2.1.2.2 dX14_likeModel_146
              · have fc_37 := eq_f c_37
                refine lv_iconst (v := 1) hx hb dX14_likeModel_141 (by decide) ?_
                refine lv_goto (tgt := 146) hx hb dX14_likeModel_142 (by decide) ?_
                subst hQ
                have kb_1 : bd 1 1 (1 : Int32) := ⟨by decide, by decide⟩
                exact W.zret (v := 1) hx hb hr (nar_z (bd_sub kb_1 (by decide) : bd 0 1 _).1 (bd_sub kb_1 (by decide) : bd 0 1 _).2) (fun t ht hW => ⟨⟨_, _, rfl, Or.inr (⟨rfl, trivial⟩), q3_of g hK ht hW⟩, g.2.2.1.F ht⟩) g.2.2.1.2.2 dX14_likeModel_146
            · have fc_35 := eq_f c_35
              have b_38 : bd 2 2 x4_ := eqX fc_35 b_34 kb_2 (by decide)
              refine lv_aload_n hx hb dX14_likeModel_104 rfl (lv_at hl 3 rfl) ?_
              refine g_getl (C := RX14) (T := TX14) (N := 67) hx hb hts (mc_ inX14) hown hK g ma0_ ka0_ (by decide) rfl 32 (by decide) rfl (hts _ (List.mem_cons_of_mem _ t_2178)) (fun _ h9 => h9) rfl dX14_likeModel_105 (fun x_39 g => ?_)
              refine lv_lload hx hb dX14_likeModel_108 (lv_at hl 9 rfl) ?_
              refine W.lcmp hx hb dX14_likeModel_110 ?_
              refine lv_if_ne (tgt := 128) hx hb dX14_likeModel_111 (by decide) (fun c_40 => ?_) (fun c_40 => ?_)
              · refine lv_iconst (v := 0) hx hb dX14_likeModel_128 (by decide) ?_
                refine lv_goto (tgt := 146) hx hb dX14_likeModel_129 (by decide) ?_
                subst hQ
                have kb_0 : bd 0 0 (0 : Int32) := ⟨by decide, by decide⟩
                exact W.zret (v := 0) hx hb hr (nar_z (bd_sub kb_0 (by decide) : bd 0 1 _).1 (bd_sub kb_0 (by decide) : bd 0 1 _).2) (fun t ht hW => ⟨⟨_, _, rfl, Or.inl ⟨rfl, trivial⟩, q3_of g hK ht hW⟩, g.2.2.1.F ht⟩) g.2.2.1.2.2 dX14_likeModel_146
              · refine lv_aload_n hx hb dX14_likeModel_114 rfl (lv_at hl 3 rfl) ?_
                refine g_getl (C := RX14) (T := TX14) (N := 67) hx hb hts (mc_ inX14) hown hK g ma0_ ka0_ (by decide) rfl 33 (by decide) rfl (hts _ (List.mem_cons_of_mem _ t_2179)) (fun _ h9 => h9) rfl dX14_likeModel_115 (fun x_41 g => ?_)
                refine lv_lload hx hb dX14_likeModel_118 (lv_at hl 10 rfl) ?_
                refine W.lcmp hx hb dX14_likeModel_120 ?_
                refine lv_if_ne (tgt := 128) hx hb dX14_likeModel_121 (by decide) (fun c_42 => ?_) (fun c_42 => ?_)
                · refine lv_iconst (v := 0) hx hb dX14_likeModel_128 (by decide) ?_
                  refine lv_goto (tgt := 146) hx hb dX14_likeModel_129 (by decide) ?_
                  subst hQ
                  have kb_0 : bd 0 0 (0 : Int32) := ⟨by decide, by decide⟩
                  exact W.zret (v := 0) hx hb hr (nar_z (bd_sub kb_0 (by decide) : bd 0 1 _).1 (bd_sub kb_0 (by decide) : bd 0 1 _).2) (fun t ht hW => ⟨⟨_, _, rfl, Or.inl ⟨rfl, trivial⟩, q3_of g hK ht hW⟩, g.2.2.1.F ht⟩) g.2.2.1.2.2 dX14_likeModel_146
                · refine lv_iconst (v := 1) hx hb dX14_likeModel_124 (by decide) ?_
                  refine lv_goto (tgt := 146) hx hb dX14_likeModel_125 (by decide) ?_
                  subst hQ
                  have kb_1 : bd 1 1 (1 : Int32) := ⟨by decide, by decide⟩
                  exact W.zret (v := 1) hx hb hr (nar_z (bd_sub kb_1 (by decide) : bd 0 1 _).1 (bd_sub kb_1 (by decide) : bd 0 1 _).2) (fun t ht hW => ⟨⟨_, _, rfl, Or.inr (⟨rfl, trivial⟩), q3_of g hK ht hW⟩, g.2.2.1.F ht⟩) g.2.2.1.2.2 dX14_likeModel_146
          · have fc_33 := neq_f c_33
            refine lv_iconst (v := 0) hx hb dX14_likeModel_96 (by decide) ?_
            subst hQ
            have kb_0 : bd 0 0 (0 : Int32) := ⟨by decide, by decide⟩
            exact W.zret (v := 0) hx hb hr (nar_z (bd_sub kb_0 (by decide) : bd 0 1 _).1 (bd_sub kb_0 (by decide) : bd 0 1 _).2) (fun t ht hW => ⟨⟨_, _, rfl, Or.inl ⟨rfl, trivial⟩, q3_of g hK ht hW⟩, g.2.2.1.F ht⟩) g.2.2.1.2.2 dX14_likeModel_97
        · have fc_27 := neq_f c_27
          refine lv_iconst (v := 1) hx hb dX14_likeModel_75 (by decide) ?_
          subst hQ
          have kb_1 : bd 1 1 (1 : Int32) := ⟨by decide, by decide⟩
          exact W.zret (v := 1) hx hb hr (nar_z (bd_sub kb_1 (by decide) : bd 0 1 _).1 (bd_sub kb_1 (by decide) : bd 0 1 _).2) (fun t ht hW => ⟨⟨_, _, rfl, Or.inr (⟨rfl, trivial⟩), q3_of g hK ht hW⟩, g.2.2.1.F ht⟩) g.2.2.1.2.2 dX14_likeModel_76
  · have fc_6 := eq_f c_6
    have b_43 : bd (-1) (-1) x_4 := eqX fc_6 bx_4 kb_m1 (by decide)
    refine lv_iconst (v := 1) hx hb dX14_likeModel_16 (by decide) ?_
    subst hQ
    have kb_1 : bd 1 1 (1 : Int32) := ⟨by decide, by decide⟩
    exact W.zret (v := 1) hx hb hr (nar_z (bd_sub kb_1 (by decide) : bd 0 1 _).1 (bd_sub kb_1 (by decide) : bd 0 1 _).2) (fun t ht hW => ⟨⟨_, _, rfl, Or.inr (⟨rfl, trivial⟩), q3_of g hK ht hW⟩, g.2.2.1.F ht⟩) g.2.2.1.2.2 dX14_likeModel_17
set_option maxHeartbeats 4000000 in
set_option maxRecDepth 100000 in
theorem r_X14_gives (l : Launch) (dC : Nat → ClassId) (dI : Nat → Nat → Nat) (L : List Nat) (kd : Nat → Nat) (tys : List (ClassId × FieldType)) (f0 : Nat → va_E) (sz : Nat) (hWT : WT L kd tys f0) (adK adV : Nat → Nat) (a0_ : Nat) (ma0_ : a0_ ∈ L) (ka0_ : kd a0_ = 14) (x1_ : Int32) (bx1_ : bd 0 109 x1_) (x2_ : Int32) (bx2_ : bd 0 2 x2_) (x3_ : Int32) (bx3_ : bd 0 9 x3_) (q0_ : Nat) (mq0_ : q0_ ∈ L) (kq0_ : kd q0_ = 12) (V_ : PV) (δ_ : Nat → Nat) (hW : wfP V_ δ_) (O_ : Nat → Int32) (hGOa0_ : OA f0 a0_ O_) (hGVq0_ : isV f0 q0_ V_) (ho : okc V_ (O_ x2_.toNatClampNeg)) (hfx : Fs L kd f0 [(14, 1, a0_, .ref q0_)]) : Met l yX14_gives (.code yX14_gives cX14_gives 8 (some .boolean) :: lw_g) ({ frames := 974, cells := 0, slots := 0, locals := 39032 }) (va_Pc [.ref a0_, .int x1_, .int x2_, .int x3_] (P3A (dC, dI) L tys f0 sz adK adV)) (va_Qi (fun (r : Int32) (f : Nat → va_E) => (r = 0 ∧ ∃ z2_ : Int32, bd 1 110 z2_ ∧ Fs L kd f [(14, 37, a0_, .int 0), (14, 36, a0_, .int 0), (12, 27, q0_, .int z2_)]) ∨ (r = 1 ∧ True)) (Q3 (dC, dI) L kd tys [(14, 31), (14, 32), (14, 33), (14, 34), (14, 35), (14, 36), (14, 37), (14, 39), (14, 40), (14, 45), (14, 55)] [200, 216, 218, 219, 220, 221, 228] f0 sz) (pA L sz)) 0 0 (pA L sz) := by
  refine Met.ofW (cc := cX14_gives) (maxL := 8) (ret := (some .boolean)) (by decide) rfl ?_
  intro p e s m args below meth c s₁ B hml hv
  obtain ⟨rfl, ⟨hsz, hP, hK, hD0⟩, hAm⟩ := hv
  have hx := B.exec
  have hb := B.bytes
  have hr := B.returns
  have hts := atoms_spec (ws := (.code yX14_gives cX14_gives 8 (some .boolean) :: lw_g)) B.pre
  have hown : s.vm.findClass RX14 = some m.cls := findClass_of_methodNamed B.named
  have hlocks := B.notSynchronized
  subst hsz
  have g : G3 (dC, dI) L kd tys s f0 [(14, 31), (14, 32), (14, 33), (14, 34), (14, 35), (14, 36), (14, 37), (14, 39), (14, 40), (14, 45), (14, 55)] [200, 216, 218, 219, 220, 221, 228] f0 s.heap [] [(14, 1, a0_, .ref q0_)] := G3.start hP hD0 hWT hfx
  have hl := lv_entry ([.ref a0_, .int x1_, .int x2_, .int x3_]) (n := 8) (Nat.le_of_ble_eq_true rfl)
  rw [lg_entry_eq]
  generalize (lg_sl ([.ref a0_, .int x1_, .int x2_, .int x3_]) ++ List.replicate (8 - (lg_sl ([.ref a0_, .int x1_, .int x2_, .int x3_])).length) Slot.unset).toArray = ls at hl ⊢
  have hl : lv_has ls 8 [(0, .ref a0_), (1, .int x1_), (2, .int x2_), (3, .int x3_)] := hl
  refine W_q (fun Q hQ => ?_)
  refine lv_aload_n hx hb dX14_gives_0 rfl (lv_at hl 0 rfl) ?_
  refine g_getr (K := 215) (C := RX14) (T := TX14) (N := 67) hx hb hts (mc_ inX14) hown hK g ma0_ ka0_ (by decide) rfl 27 (by decide) rfl (hts _ (List.mem_cons_of_mem _ t_2173)) (fun _ h9 => h9) rfl dX14_gives_1 (fun a_1 ma_1 ka_1 g => ?_)
  refine lv_iload_n hx hb dX14_gives_4 rfl (lv_at hl 2 rfl) ?_
  refine g_iald hx hb hK g ma_1 ka_1 (by decide) rfl (in_bd bx2_ (by decide)) dX14_gives_5 (fun x_2 bx_2 cx_2 => ?_)
  have vx_2 := hGOa0_.cls g 0 rfl cx_2
  refine lv_istore (lv' := [(4, .int x_2), (0, .ref a0_), (1, .int x1_), (2, .int x2_), (3, .int x3_)]) hx hb dX14_gives_6 hl (by decide) rfl (fun ls hl => ?_)
  have loop_3 : ∀ (n : Nat) (v8_4 : Int32), bd (-1) 7 v8_4 → (v8_4.toInt + 1 < (n : Int)) → ∀ (f : Nat → va_E) (H : Heap) (locs : List Loc) (ls : Array Slot), G3 (dC, dI) L kd tys s f0 [(14, 31), (14, 32), (14, 33), (14, 34), (14, 35), (14, 36), (14, 37), (14, 39), (14, 40), (14, 45), (14, 55)] [200, 216, 218, 219, 220, 221, 228] f H locs [(14, 27, a0_, .ref a_1), (14, 1, a0_, .ref q0_)] → OA f a0_ O_ → isV f q0_ V_ → (cN V_ (O_ x2_.toNatClampNeg) v8_4) → lv_has ls 8 [(4, .int v8_4), (0, .ref a0_), (1, .int x1_), (2, .int x2_), (3, .int x3_)] → W p l e ({ frames := 974, cells := 0, slots := 0, locals := 39032 } : Room) s m [.ref a0_, .int x1_, .int x2_, .int x3_].toArray below meth c H locs 0 0 Q (F0 m 8 ls []) := by
    intro n8
    induction n8 with
    | zero =>
      intro v8_4 bv8_4 hm8 f H locs ls g hG8_O_a0_ hG8_V_q0_ hI8 hl
      exact absurd hm8 (by have h9_v8_4 := bv8_4; unfold bd at h9_v8_4; omega)
    | succ n8 ih8 =>
      intro v8_4 bv8_4 hm8 f H locs ls g hG8_O_a0_ hG8_V_q0_ hI8 hl
      refine lv_iload hx hb dX14_gives_8 (lv_at hl 0 rfl) ?_
      refine lv_iconst (v := (-1)) hx hb dX14_gives_10 (by decide) ?_
      have kb_m1 : bd (-1) (-1) ((-1) : Int32) := ⟨by decide, by decide⟩
      refine lv_icmp_eq (tgt := 168) hx hb dX14_gives_11 (by decide) (fun c_4 => ?_) (fun c_4 => ?_)
      · have fc_4 := eq_f c_4
        have b_5 : bd (-1) (-1) v8_4 := eqX fc_4 bv8_4 kb_m1 (by decide)
        refine lv_iconst (v := 1) hx hb dX14_gives_168 (by decide) ?_
        subst hQ
        have kb_1 : bd 1 1 (1 : Int32) := ⟨by decide, by decide⟩
        exact W.zret (v := 1) hx hb hr (nar_z (bd_sub kb_1 (by decide) : bd 0 1 _).1 (bd_sub kb_1 (by decide) : bd 0 1 _).2) (fun t ht hW => ⟨⟨_, _, rfl, Or.inr (⟨rfl, trivial⟩), q3_of g hK ht hW⟩, g.2.2.1.F ht⟩) g.2.2.1.2.2 dX14_gives_169
      · have fc_4 := neq_f c_4
        have b_6 : bd 0 7 v8_4 := neX fc_4 bv8_4 kb_m1 (by decide)
        refine lv_aload_n hx hb dX14_gives_14 rfl (lv_at hl 1 rfl) ?_
        refine lv_iload hx hb dX14_gives_15 (lv_at hl 0 rfl) ?_
        refine lv_iload_n hx hb dX14_gives_17 rfl (lv_at hl 2 rfl) ?_
        have go_ := g
        refine g_calli (va_runV (As := [.int v8_4, .int x1_]) (rest := []) ⟨hx, hb, hml, hown, hts⟩ (r_X14_toldBy l dC dI L kd tys f H.size g.2.2.2.1 a0_ ma0_ ka0_ v8_4 (bd_sub b_6 (by decide)) x1_ bx1_ q0_ mq0_ kq0_ V_ δ_ hW hG8_V_q0_ (g.fcts [1] rfl)) (cwV 2 hts (gV_ t_2692 t_2694 t_160 t_198 t_2695) rfl rfl rfl (by decide +kernel) ⟨(Nat.le_of_ble_eq_true rfl), (Nat.le_of_ble_eq_true rfl)⟩) (pre3V g hK ma0_ ka0_ (by decide) (q := (RX14, TX14, 67)) rfl) rfl rfl hl.1 rfl (lv_room (Nat.le_of_ble_eq_true rfl)) dX14_gives_18 ⟨(Nat.le_of_ble_eq_true rfl), (Nat.le_of_ble_eq_true rfl)⟩) g hK (by decide) (by decide) (fx' := [(14, 27, a0_, .ref a_1), (14, 1, a0_, .ref q0_)]) rfl (fun r_7 fr_7 H locs hp hMr_7 g => ?_)
        rcases hp with ⟨h_8, -⟩ | ⟨hx_9, h_10, h_11, x_12, h_13, hF_14⟩
        · have hG_15 := OA.frame hMr_7 go_.2.2.2.1 ma0_ ka0_ (by decide) (by decide) hG8_O_a0_
          have hG_16 := isV.frame hMr_7 go_.2.2.2.1 mq0_ kq0_ (by decide) (by decide) hG8_V_q0_
          obtain rfl : r_7 = (-1) := h_8
          refine lv_istore (lv' := [(5, .int (-1)), (4, .int v8_4), (0, .ref a0_), (1, .int x1_), (2, .int x2_), (3, .int x3_)]) hx hb dX14_gives_21 hl (by decide) rfl (fun ls hl => ?_)
          refine lv_iload hx hb dX14_gives_23 (lv_at hl 0 rfl) ?_
          refine lv_iconst (v := (-1)) hx hb dX14_gives_25 (by decide) ?_
          refine lv_icmp_ne (tgt := 32) hx hb dX14_gives_26 (by decide) (fun c_ => absurd c_ (by decide)) (fun c_ => ?_)
          refine lv_goto (tgt := 153) hx hb dX14_gives_29 (by decide) ?_
          refine lv_aload_n hx hb dX14_gives_153 rfl (lv_at hl 2 rfl) ?_
          refine g_getk (C := RX14) (T := TX14) (N := 67) hx hb hts (mc_ inX14) hown hK g rfl 1 (by decide) rfl (hts _ (List.mem_cons_of_mem _ t_2147)) (fun _ h9 => h9) 1 rfl dX14_gives_154 ?_
          refine g_getr (K := 159) (C := RX12) (T := TX12) (N := 60) hx hb hts (mc_ inX12) hown hK g mq0_ kq0_ (by decide) rfl 3 (by decide) rfl (hts _ (List.mem_cons_of_mem _ t_1912)) (fun _ h9 => h9) rfl dX14_gives_157 (fun a_17 ma_17 ka_17 g => ?_)
          refine lv_iload hx hb dX14_gives_160 (lv_at hl 1 rfl) ?_
          refine g_iald hx hb hK g ma_17 ka_17 (by decide) rfl (in_bd b_6 (by decide)) dX14_gives_162 (fun x_18 bx_18 cx_18 => ?_)
          have vx_18 : x_18 = V_.i 3 v8_4.toNatClampNeg := hG_16.at g 0 rfl rfl cx_18
          have hltx_18 := (cN.above (x := x_18) hW (hI8.is fc_4).1 vx_18).2
          refine lv_istore (lv' := [(4, .int x_18), (5, .int (-1)), (0, .ref a0_), (1, .int x1_), (2, .int x2_), (3, .int x3_)]) hx hb dX14_gives_163 hl (by decide) rfl (fun ls hl => ?_)
          refine lv_goto (tgt := 8) hx hb dX14_gives_165 (by decide) ?_
          have hl9 := lv_sub hl [0, 2, 3, 4, 5] (by rfl : lv_pick [(4, .int x_18), (5, .int (-1)), (0, .ref a0_), (1, .int x1_), (2, .int x2_), (3, .int x3_)] [0, 2, 3, 4, 5] = [(4, .int x_18), (0, .ref a0_), (1, .int x1_), (2, .int x2_), (3, .int x3_)])
          have g9 := g.sub (fx' := [(14, 27, a0_, .ref a_1), (14, 1, a0_, .ref q0_)]) [1, 2] rfl
          exact ih8  x_18 bx_18 (by have h9_0 := bv8_4; unfold bd at h9_0; have h9_1 := bx_18; unfold bd at h9_1; have h9_2 := kb_m1; unfold bd at h9_2; omega) _ _ _ _ g9 hG_15 hG_16 (cN.step hW hI8 fc_4 vx_18) hl9
        · have hG_19 := OA.frame hMr_7 go_.2.2.2.1 ma0_ ka0_ (by decide) (by decide) hG8_O_a0_
          have hG_20 := isV.frame hMr_7 go_.2.2.2.1 mq0_ kq0_ (by decide) (by decide) hG8_V_q0_
          have g := g.more hF_14
          refine lv_istore (lv' := [(5, .int r_7), (4, .int v8_4), (0, .ref a0_), (1, .int x1_), (2, .int x2_), (3, .int x3_)]) hx hb dX14_gives_21 hl (by decide) rfl (fun ls hl => ?_)
          refine lv_iload hx hb dX14_gives_23 (lv_at hl 0 rfl) ?_
          refine lv_iconst (v := (-1)) hx hb dX14_gives_25 (by decide) ?_
          refine lv_icmp_ne (tgt := 32) hx hb dX14_gives_26 (by decide) (fun c_21 => ?_) (fun c_21 => ?_)
          · have fc_21 := neq_f c_21
            refine lv_bipush (v := 8) hx hb dX14_gives_32 (by decide) ?_
            refine lv_iload hx hb dX14_gives_34 (lv_at hl 0 rfl) ?_
            refine lv_imul hx hb dX14_gives_36 ?_
            refine lv_topi (fun y_22 ey_22 => ?_)
            have ty_22 := cmul_bd ey_22 (c := 8) (by decide) h_10 (by decide)
            have b_23 : bd 0 872 y_22 := mulc_rg ty_22 h_10 (by decide)
            refine lv_istore (lv' := [(6, .int y_22), (5, .int r_7), (4, .int v8_4), (0, .ref a0_), (1, .int x1_), (2, .int x2_), (3, .int x3_)]) hx hb dX14_gives_37 hl (by decide) rfl (fun ls hl => ?_)
            have loop_24 : ∀ (n : Nat) (v39_6 : Int32), bd 0 880 v39_6 → (880 - v39_6.toInt < (n : Int)) → ∀ (f : Nat → va_E) (H : Heap) (locs : List Loc) (ls : Array Slot), G3 (dC, dI) L kd tys s f0 [(14, 31), (14, 32), (14, 33), (14, 34), (14, 35), (14, 36), (14, 37), (14, 39), (14, 40), (14, 45), (14, 55)] [200, 216, 218, 219, 220, 221, 228] f H locs [(12, 27, q0_, .int x_12), (14, 27, a0_, .ref a_1), (14, 1, a0_, .ref q0_)] → OA f a0_ O_ → isV f q0_ V_ → (8 * r_7.toInt ≤ v39_6.toInt) → lv_has ls 8 [(6, .int v39_6), (5, .int r_7), (4, .int v8_4), (0, .ref a0_), (1, .int x1_), (2, .int x2_), (3, .int x3_)] → W p l e ({ frames := 974, cells := 0, slots := 0, locals := 39032 } : Room) s m [.ref a0_, .int x1_, .int x2_, .int x3_].toArray below meth c H locs 0 0 Q (F0 m 39 ls []) := by
              intro n39
              induction n39 with
              | zero =>
                intro v39_6 bv39_6 hm39 f H locs ls g hG39_O_a0_ hG39_V_q0_ hI39 hl
                exact absurd hm39 (by have h9_v39_6 := bv39_6; unfold bd at h9_v39_6; omega)
              | succ n39 ih39 =>
                intro v39_6 bv39_6 hm39 f H locs ls g hG39_O_a0_ hG39_V_q0_ hI39 hl
                refine lv_iload hx hb dX14_gives_39 (lv_at hl 0 rfl) ?_
                refine lv_bipush (v := 8) hx hb dX14_gives_41 (by decide) ?_
                refine lv_iload hx hb dX14_gives_43 (lv_at hl 1 rfl) ?_
                refine lv_imul hx hb dX14_gives_45 ?_
                refine lv_topi (fun y_25 ey_25 => ?_)
                obtain rfl : y_22 = y_25 := ey_22.trans ey_25.symm
                refine lv_aload_n hx hb dX14_gives_46 rfl (lv_at hl 3 rfl) ?_
                refine g_getk (C := RX14) (T := TX14) (N := 67) hx hb hts (mc_ inX14) hown hK g rfl 1 (by decide) rfl (hts _ (List.mem_cons_of_mem _ t_2147)) (fun _ h9 => h9) 2 rfl dX14_gives_47 ?_
                refine g_getr (K := 178) (C := RX12) (T := TX12) (N := 60) hx hb hts (mc_ inX12) hown hK g mq0_ kq0_ (by decide) rfl 22 (by decide) rfl (hts _ (List.mem_cons_of_mem _ t_1950)) (fun _ h9 => h9) rfl dX14_gives_50 (fun a_26 ma_26 ka_26 g => ?_)
                refine lv_iload hx hb dX14_gives_53 (lv_at hl 1 rfl) ?_
                refine g_iald hx hb hK g ma_26 ka_26 (by decide) rfl (in_bd h_10 (by decide)) dX14_gives_55 (fun x_27 bx_27 cx_27 => ?_)
                have vx_27 : x_27 = V_.i 22 r_7.toNatClampNeg := hG39_V_q0_.at g 0 rfl rfl cx_27
                refine lv_iadd hx hb dX14_gives_56 ?_
                refine lv_topi (fun y_28 ey_28 => ?_)
                have ty_28 := add_bd ey_28 b_23 bx_27 (by decide)
                have b_29 : bd 0 880 y_28 := add_rg ty_28 b_23 bx_27 (by decide)
                refine lv_icmp_ge (tgt := 153) hx hb dX14_gives_57 (by decide) (fun c_30 => ?_) (fun c_30 => ?_)
                · have fc_30 := le_f c_30
                  refine lv_aload_n hx hb dX14_gives_153 rfl (lv_at hl 3 rfl) ?_
                  refine g_getk (C := RX14) (T := TX14) (N := 67) hx hb hts (mc_ inX14) hown hK g rfl 1 (by decide) rfl (hts _ (List.mem_cons_of_mem _ t_2147)) (fun _ h9 => h9) 3 rfl dX14_gives_154 ?_
                  refine g_getr (K := 159) (C := RX12) (T := TX12) (N := 60) hx hb hts (mc_ inX12) hown hK g mq0_ kq0_ (by decide) rfl 3 (by decide) rfl (hts _ (List.mem_cons_of_mem _ t_1912)) (fun _ h9 => h9) rfl dX14_gives_157 (fun a_31 ma_31 ka_31 g => ?_)
                  refine lv_iload hx hb dX14_gives_160 (lv_at hl 2 rfl) ?_
                  refine g_iald hx hb hK g ma_31 ka_31 (by decide) rfl (in_bd b_6 (by decide)) dX14_gives_162 (fun x_32 bx_32 cx_32 => ?_)
                  have vx_32 : x_32 = V_.i 3 v8_4.toNatClampNeg := hG39_V_q0_.at g 0 rfl rfl cx_32
                  have hltx_32 := (cN.above (x := x_32) hW (hI8.is fc_4).1 vx_32).2
                  refine lv_istore (lv' := [(4, .int x_32), (6, .int v39_6), (5, .int r_7), (0, .ref a0_), (1, .int x1_), (2, .int x2_), (3, .int x3_)]) hx hb dX14_gives_163 hl (by decide) rfl (fun ls hl => ?_)
                  refine lv_goto (tgt := 8) hx hb dX14_gives_165 (by decide) ?_
                  have hl9 := lv_sub hl [0, 3, 4, 5, 6] (by rfl : lv_pick [(4, .int x_32), (6, .int v39_6), (5, .int r_7), (0, .ref a0_), (1, .int x1_), (2, .int x2_), (3, .int x3_)] [0, 3, 4, 5, 6] = [(4, .int x_32), (0, .ref a0_), (1, .int x1_), (2, .int x2_), (3, .int x3_)])
                  have g9 := g.sub (fx' := [(14, 27, a0_, .ref a_1), (14, 1, a0_, .ref q0_)]) [3, 4] rfl
                  exact ih8  x_32 bx_32 (by have h9_0 := bv8_4; unfold bd at h9_0; have h9_1 := bx_32; unfold bd at h9_1; have h9_2 := kb_m1; unfold bd at h9_2; omega) _ _ _ _ g9 hG39_O_a0_ hG39_V_q0_ (cN.step hW hI8 fc_4 vx_32) hl9
                · have fc_30 := nle_f c_30
                  have b_33 : bd 0 879 v39_6 := ltL fc_30 bv39_6 b_29 (by decide)
                  have b_34 : bd 1 880 y_28 := ltR fc_30 bv39_6 b_29 (by decide)
                  refine lv_aload_n hx hb dX14_gives_60 rfl (lv_at hl 3 rfl) ?_
                  refine g_getk (C := RX14) (T := TX14) (N := 67) hx hb hts (mc_ inX14) hown hK g rfl 1 (by decide) rfl (hts _ (List.mem_cons_of_mem _ t_2147)) (fun _ h9 => h9) 3 rfl dX14_gives_61 ?_
                  refine g_getr (K := 183) (C := RX12) (T := TX12) (N := 60) hx hb hts (mc_ inX12) hown hK g mq0_ kq0_ (by decide) rfl 28 (by decide) rfl (hts _ (List.mem_cons_of_mem _ t_1961)) (fun _ h9 => h9) rfl dX14_gives_64 (fun a_35 ma_35 ka_35 g => ?_)
                  refine lv_iload hx hb dX14_gives_67 (lv_at hl 0 rfl) ?_
                  refine g_iald hx hb hK g ma_35 ka_35 (by decide) rfl (in_bd b_33 (by decide)) dX14_gives_69 (fun x_36 bx_36 cx_36 => ?_)
                  have vx_36 : x_36 = V_.i 28 v39_6.toNatClampNeg := hG39_V_q0_.at g 0 rfl rfl cx_36
                  refine lv_iconst (v := 2) hx hb dX14_gives_70 (by decide) ?_
                  have kb_2 : bd 2 2 (2 : Int32) := ⟨by decide, by decide⟩
                  refine lv_icmp_eq (tgt := 77) hx hb dX14_gives_71 (by decide) (fun c_37 => ?_) (fun c_37 => ?_)
                  · have fc_37 := eq_f c_37
                    have b_38 : bd 2 2 x_36 := eqX fc_37 (bdT x_36) kb_2 (by decide)
                    refine lv_aload_n hx hb dX14_gives_77 rfl (lv_at hl 3 rfl) ?_
                    refine lv_aload_n hx hb dX14_gives_78 rfl (lv_at hl 3 rfl) ?_
                    refine g_getk (C := RX14) (T := TX14) (N := 67) hx hb hts (mc_ inX14) hown hK g rfl 1 (by decide) rfl (hts _ (List.mem_cons_of_mem _ t_2147)) (fun _ h9 => h9) 4 rfl dX14_gives_79 ?_
                    refine g_getr (K := 184) (C := RX12) (T := TX12) (N := 60) hx hb hts (mc_ inX12) hown hK g mq0_ kq0_ (by decide) rfl 29 (by decide) rfl (hts _ (List.mem_cons_of_mem _ t_1963)) (fun _ h9 => h9) rfl dX14_gives_82 (fun a_39 ma_39 ka_39 g => ?_)
                    refine lv_iload hx hb dX14_gives_85 (lv_at hl 0 rfl) ?_
                    refine g_iald hx hb hK g ma_39 ka_39 (by decide) rfl (in_bd b_33 (by decide)) dX14_gives_87 (fun x_40 bx_40 cx_40 => ?_)
                    have vx_40 : x_40 = V_.i 29 v39_6.toNatClampNeg := hG39_V_q0_.at g 0 rfl rfl cx_40
                    refine lv_aload_n hx hb dX14_gives_88 rfl (lv_at hl 3 rfl) ?_
                    refine g_getk (C := RX14) (T := TX14) (N := 67) hx hb hts (mc_ inX14) hown hK g rfl 1 (by decide) rfl (hts _ (List.mem_cons_of_mem _ t_2147)) (fun _ h9 => h9) 5 rfl dX14_gives_89 ?_
                    refine g_getr (K := 185) (C := RX12) (T := TX12) (N := 60) hx hb hts (mc_ inX12) hown hK g mq0_ kq0_ (by decide) rfl 30 (by decide) rfl (hts _ (List.mem_cons_of_mem _ t_1965)) (fun _ h9 => h9) rfl dX14_gives_92 (fun a_41 ma_41 ka_41 g => ?_)
                    refine lv_iload hx hb dX14_gives_95 (lv_at hl 0 rfl) ?_
                    refine g_iald hx hb hK g ma_41 ka_41 (by decide) rfl (in_bd b_33 (by decide)) dX14_gives_97 (fun x_42 bx_42 cx_42 => ?_)
                    have vx_42 : x_42 = V_.i 30 v39_6.toNatClampNeg := hG39_V_q0_.at g 0 rfl rfl cx_42
                    refine lv_iload hx hb dX14_gives_98 (lv_at hl 2 rfl) ?_
                    refine lv_iload_n hx hb dX14_gives_100 rfl (lv_at hl 5 rfl) ?_
                    refine lv_iconst (v := 2) hx hb dX14_gives_101 (by decide) ?_
                    refine lv_iload_n hx hb dX14_gives_102 rfl (lv_at hl 6 rfl) ?_
                    have go_ := g
                    refine g_calli (va_runVH (n := 6) (As := [.int x_40, .int x_42, .int v8_4, .int x2_, .int 2, .int x3_]) (rest := []) ⟨hx, hb, hml, hown, hts⟩ (r_X14_holds l dC dI L kd tys f H.size g.2.2.2.1 adK adV a0_ ma0_ ka0_ x_40 x_42 v8_4 x2_ (bd_sub bx2_ (by decide)) 2 x3_ (bd_sub bx3_ (by decide)) q0_ mq0_ kq0_ V_ δ_ hW O_ hG39_O_a0_ hG39_V_q0_ v8_4.toNatClampNeg (mark_ok hW hx_9 vx_27 hI39 (by have h9_0 := h_10; unfold bd at h9_0; have h9_1 := b_33; unfold bd at h9_1; have h9_2 := b_6; unfold bd at h9_2; have h9_3 := bx1_; unfold bd at h9_3; have h9_4 := bx2_; unfold bd at h9_4; have h9_5 := bx3_; unfold bd at h9_5; have h9_6 := h_13; unfold bd at h9_6; have h9_7 := bx_2; unfold bd at h9_7; have h9_8 := bx_27; unfold bd at h9_8; have h9_9 := b_38; unfold bd at h9_9; have h9_10 := b_23; unfold bd at h9_10; have h9_11 := b_34; unfold bd at h9_11; have h8_0 := kb_2; unfold bd at h8_0; have h8_1 := kb_m1; unfold bd at h8_1; omega) vx_36 (by have h9 := b_38; unfold bd at h9; omega) vx_40) (hI8.is fc_4).2 (g.fcts [6] rfl)) (gI_ t_2633) List.mem_cons_self rfl rfl (Nat.le_of_ble_eq_true rfl) (Nat.le_of_ble_eq_true rfl) (hts _ (List.mem_cons_of_mem _ t_198)) (hts _ (List.mem_cons_of_mem _ t_2630)) (hts _ (List.mem_cons_of_mem _ t_2632)) (hts _ (List.mem_cons_of_mem _ t_145)) (by decide +kernel) (pre3VA g hK hAm ma0_ ka0_ (by decide) (q := (RX14, TX14, 67)) rfl) rfl rfl hl.1 rfl (lv_room (Nat.le_of_ble_eq_true rfl)) dX14_gives_103 ⟨(Nat.le_of_ble_eq_true rfl), (Nat.le_of_ble_eq_true rfl)⟩) g hK (by decide) (by decide) (fx' := [(12, 30, q0_, .ref a_41), (12, 29, q0_, .ref a_39), (12, 28, q0_, .ref a_35), (12, 22, q0_, .ref a_26), (12, 27, q0_, .int x_12), (14, 27, a0_, .ref a_1), (14, 1, a0_, .ref q0_)]) rfl (fun r_43 fr_43 H locs hp hMr_43 g => ?_)
                    obtain ⟨h_44, hF_45⟩ := hp
                    have hG_46 := OA.frame hMr_43 go_.2.2.2.1 ma0_ ka0_ (by decide) (by decide) hG39_O_a0_
                    have hG_47 := isV.frame hMr_43 go_.2.2.2.1 mq0_ kq0_ (by decide) (by decide) hG39_V_q0_
                    have g := g.more hF_45
                    refine lv_istore (lv' := [(7, .int r_43), (6, .int v39_6), (5, .int r_7), (4, .int v8_4), (0, .ref a0_), (1, .int x1_), (2, .int x2_), (3, .int x3_)]) hx hb dX14_gives_106 hl (by decide) rfl (fun ls hl => ?_)
                    refine lv_iload hx hb dX14_gives_108 (lv_at hl 0 rfl) ?_
                    refine lv_iconst (v := 1) hx hb dX14_gives_110 (by decide) ?_
                    have kb_1 : bd 1 1 (1 : Int32) := ⟨by decide, by decide⟩
                    refine lv_icmp_ne (tgt := 117) hx hb dX14_gives_111 (by decide) (fun c_48 => ?_) (fun c_48 => ?_)
                    · have fc_48 := neq_f c_48
                      have b_49 : bd (-1) 0 r_43 := neX fc_48 h_44 kb_1 (by decide)
                      refine lv_iload hx hb dX14_gives_117 (lv_at hl 0 rfl) ?_
                      have kb_0 : bd 0 0 (0 : Int32) := ⟨by decide, by decide⟩
                      refine lv_if_ne (tgt := 145) hx hb dX14_gives_119 (by decide) (fun c_50 => ?_) (fun c_50 => ?_)
                      · have fc_50 := neq_f c_50
                        have b_51 : bd (-1) (-1) r_43 := neX fc_50 b_49 kb_0 (by decide)
                        refine lv_iconst (v := 0) hx hb dX14_gives_145 (by decide) ?_
                        subst hQ
                        exact W.zret (v := 0) hx hb hr (nar_z (bd_sub kb_0 (by decide) : bd 0 1 _).1 (bd_sub kb_0 (by decide) : bd 0 1 _).2) (fun t ht hW => ⟨⟨_, _, rfl, Or.inl ⟨rfl, x_12, h_13, (g.fcts [0, 1, 6] rfl)⟩, q3_of g hK ht hW⟩, g.2.2.1.F ht⟩) g.2.2.1.2.2 dX14_gives_146
                      · have fc_50 := eq_f c_50
                        have b_52 : bd 0 0 r_43 := eqX fc_50 b_49 kb_0 (by decide)
                        refine lv_aload_n hx hb dX14_gives_122 rfl (lv_at hl 4 rfl) ?_
                        refine lv_iconst (v := 1) hx hb dX14_gives_123 (by decide) ?_
                        have go_ := g
                        refine g_put (C := RX14) (T := TX14) (N := 67) hx hb hts (mc_ inX14) tyX14 tyX14_ok nmX14 hown hK g ma0_ ka0_ (by decide) rfl 55 (by decide) (hts _ (List.mem_cons_of_mem _ t_2201)) (fun _ h9 => h9) rfl rfl (okV_i (bd_sub kb_1 (by decide))) rfl rfl (by decide) (Or.inr (Or.inl (by decide))) (fx' := [(14, 37, a0_, .int 0), (14, 36, a0_, .int 0), (12, 30, q0_, .ref a_41), (12, 29, q0_, .ref a_39), (12, 28, q0_, .ref a_35), (12, 22, q0_, .ref a_26), (12, 27, q0_, .int x_12), (14, 27, a0_, .ref a_1), (14, 1, a0_, .ref q0_)]) rfl dX14_gives_124 (fun f H locs hM_53 g => ?_)
                        have hG_54 := OA.frame hM_53 go_.2.2.2.1 ma0_ ka0_ (by decide) (by decide) hG_46
                        have hG_55 := isV.frame hM_53 go_.2.2.2.1 mq0_ kq0_ (by decide) (by decide) hG_47
                        refine lv_aload_n hx hb dX14_gives_127 rfl (lv_at hl 4 rfl) ?_
                        refine lv_iload hx hb dX14_gives_128 (lv_at hl 3 rfl) ?_
                        refine lv_iload_n hx hb dX14_gives_130 rfl (lv_at hl 6 rfl) ?_
                        refine lv_aload_n hx hb dX14_gives_131 rfl (lv_at hl 4 rfl) ?_
                        refine g_getk (C := RX14) (T := TX14) (N := 67) hx hb hts (mc_ inX14) hown hK g rfl 1 (by decide) rfl (hts _ (List.mem_cons_of_mem _ t_2147)) (fun _ h9 => h9) 9 rfl dX14_gives_132 ?_
                        refine g_getk (C := RX12) (T := TX12) (N := 60) hx hb hts (mc_ inX12) hown hK g rfl 30 (by decide) rfl (hts _ (List.mem_cons_of_mem _ t_1965)) (fun _ h9 => h9) 3 rfl dX14_gives_135 ?_
                        refine lv_iload hx hb dX14_gives_138 (lv_at hl 1 rfl) ?_
                        refine g_iald hx hb hK g ma_41 ka_41 (by decide) rfl (in_bd b_33 (by decide)) dX14_gives_140 (fun x_56 bx_56 cx_56 => ?_)
                        obtain rfl : x_42 = x_56 := el_same cx_42 cx_56 ((arr_eq hM_53 ma_41 ka_41 (by decide) rfl).trans (arr_eq hMr_43 ma_41 ka_41 (by decide) rfl))
                        refine lv_iconst (v := 2) hx hb dX14_gives_141 (by decide) ?_
                        have go_ := g
                        refine g_callv (va_runV (As := [.int v8_4, .int x2_, .int x_42, .int 2]) (rest := []) ⟨hx, hb, hml, hown, hts⟩ (r_X14_tells l dC dI L kd tys f H.size g.2.2.2.1 a0_ ma0_ ka0_ v8_4 x2_ x_42 2) (cwV 4 hts (gV_ t_2680 t_2682 t_157 t_198 t_2683) rfl rfl rfl (by decide +kernel) ⟨(Nat.le_of_ble_eq_true rfl), (Nat.le_of_ble_eq_true rfl)⟩) (pre3V g hK ma0_ ka0_ (by decide) (q := (RX14, TX14, 67)) rfl) rfl rfl hl.1 rfl (lv_room (Nat.le_of_ble_eq_true rfl)) dX14_gives_142 ⟨(Nat.le_of_ble_eq_true rfl), (Nat.le_of_ble_eq_true rfl)⟩) g hK (by decide) (by decide) (fx' := [(14, 55, a0_, .int 1), (14, 37, a0_, .int 0), (14, 36, a0_, .int 0), (12, 30, q0_, .ref a_41), (12, 29, q0_, .ref a_39), (12, 28, q0_, .ref a_35), (12, 22, q0_, .ref a_26), (12, 27, q0_, .int x_12), (14, 27, a0_, .ref a_1), (14, 1, a0_, .ref q0_)]) rfl (fun fr_57 H locs hp hMr_57 g => ?_)
                        have hG_58 := OA.frame hMr_57 go_.2.2.2.1 ma0_ ka0_ (by decide) (by decide) hG_54
                        have hG_59 := isV.frame hMr_57 go_.2.2.2.1 mq0_ kq0_ (by decide) (by decide) hG_55
                        refine lv_iconst (v := 0) hx hb dX14_gives_145 (by decide) ?_
                        subst hQ
                        exact W.zret (v := 0) hx hb hr (nar_z (bd_sub kb_0 (by decide) : bd 0 1 _).1 (bd_sub kb_0 (by decide) : bd 0 1 _).2) (fun t ht hW => ⟨⟨_, _, rfl, Or.inl ⟨rfl, x_12, h_13, (g.fcts [1, 2, 7] rfl)⟩, q3_of g hK ht hW⟩, g.2.2.1.F ht⟩) g.2.2.1.2.2 dX14_gives_146
                    · have fc_48 := eq_f c_48
                      have b_60 : bd 1 1 r_43 := eqX fc_48 h_44 kb_1 (by decide)
                      refine lv_goto (tgt := 147) hx hb dX14_gives_114 (by decide) ?_
                      obtain ⟨y_61, ey_61⟩ : ∃ z : Int32, z = v39_6 + 1 := ⟨_, rfl⟩
                      refine lv_iinc (v := y_61) (lv' := [(6, .int y_61), (7, .int r_43), (5, .int r_7), (4, .int v8_4), (0, .ref a0_), (1, .int x1_), (2, .int x2_), (3, .int x3_)]) hx hb dX14_gives_147 hl (k := 1) rfl (by rw [ey_61]; rfl) (by decide) rfl (fun ls hl => ?_)
                      have ty_61 := add_bd ey_61 b_33 kb_1 (by decide)
                      have b_62 : bd 1 880 y_61 := add_rg ty_61 b_33 kb_1 (by decide)
                      refine lv_goto (tgt := 39) hx hb dX14_gives_150 (by decide) ?_
                      have hl9 := lv_sub hl [0, 2, 3, 4, 5, 6, 7] (by rfl : lv_pick [(6, .int y_61), (7, .int r_43), (5, .int r_7), (4, .int v8_4), (0, .ref a0_), (1, .int x1_), (2, .int x2_), (3, .int x3_)] [0, 2, 3, 4, 5, 6, 7] = [(6, .int y_61), (5, .int r_7), (4, .int v8_4), (0, .ref a0_), (1, .int x1_), (2, .int x2_), (3, .int x3_)])
                      have g9 := g.sub (fx' := [(12, 27, q0_, .int x_12), (14, 27, a0_, .ref a_1), (14, 1, a0_, .ref q0_)]) [6, 7, 8] rfl
                      exact ih39  y_61 (bd_sub b_62 (by decide)) (by have h9_0 := b_62; unfold bd at h9_0; have h9_1 := bv39_6; unfold bd at h9_1; have h9_2 := kb_1; unfold bd at h9_2; have h9_3 := kb_2; unfold bd at h9_3; have h9_4 := kb_m1; unfold bd at h9_4; omega) _ _ _ _ g9 hG_46 hG_47 (by have h9_0 := b_60; unfold bd at h9_0; have h9_1 := h_10; unfold bd at h9_1; have h9_2 := b_33; unfold bd at h9_2; have h9_3 := b_6; unfold bd at h9_3; have h9_4 := bx1_; unfold bd at h9_4; have h9_5 := bx2_; unfold bd at h9_5; have h9_6 := bx3_; unfold bd at h9_6; have h9_7 := h_13; unfold bd at h9_7; have h9_8 := bx_2; unfold bd at h9_8; have h9_9 := bx_27; unfold bd at h9_9; have h9_10 := b_38; unfold bd at h9_10; have h9_11 := b_23; unfold bd at h9_11; have h9_12 := b_34; unfold bd at h9_12; have h9_13 := b_62; unfold bd at h9_13; have h8_0 := kb_1; unfold bd at h8_0; have h8_1 := kb_2; unfold bd at h8_1; have h8_2 := kb_m1; unfold bd at h8_2; omega) hl9
                  · have fc_37 := neq_f c_37
                    refine lv_goto (tgt := 147) hx hb dX14_gives_74 (by decide) ?_
                    have kb_1 : bd 1 1 (1 : Int32) := ⟨by decide, by decide⟩
                    obtain ⟨y_63, ey_63⟩ : ∃ z : Int32, z = v39_6 + 1 := ⟨_, rfl⟩
                    refine lv_iinc (v := y_63) (lv' := [(6, .int y_63), (5, .int r_7), (4, .int v8_4), (0, .ref a0_), (1, .int x1_), (2, .int x2_), (3, .int x3_)]) hx hb dX14_gives_147 hl (k := 0) rfl (by rw [ey_63]; rfl) (by decide) rfl (fun ls hl => ?_)
                    have ty_63 := add_bd ey_63 b_33 kb_1 (by decide)
                    have b_64 : bd 1 880 y_63 := add_rg ty_63 b_33 kb_1 (by decide)
                    refine lv_goto (tgt := 39) hx hb dX14_gives_150 (by decide) ?_
                    have hl9 := lv_sub hl [0, 1, 2, 3, 4, 5, 6] (by rfl : lv_pick [(6, .int y_63), (5, .int r_7), (4, .int v8_4), (0, .ref a0_), (1, .int x1_), (2, .int x2_), (3, .int x3_)] [0, 1, 2, 3, 4, 5, 6] = [(6, .int y_63), (5, .int r_7), (4, .int v8_4), (0, .ref a0_), (1, .int x1_), (2, .int x2_), (3, .int x3_)])
                    have g9 := g.sub (fx' := [(12, 27, q0_, .int x_12), (14, 27, a0_, .ref a_1), (14, 1, a0_, .ref q0_)]) [2, 3, 4] rfl
                    exact ih39  y_63 (bd_sub b_64 (by decide)) (by have h9_0 := b_64; unfold bd at h9_0; have h9_1 := bv39_6; unfold bd at h9_1; have h9_2 := kb_1; unfold bd at h9_2; have h9_3 := kb_2; unfold bd at h9_3; have h9_4 := kb_m1; unfold bd at h9_4; omega) _ _ _ _ g9 hG39_O_a0_ hG39_V_q0_ (by have h9_0 := h_10; unfold bd at h9_0; have h9_1 := b_33; unfold bd at h9_1; have h9_2 := b_6; unfold bd at h9_2; have h9_3 := bx1_; unfold bd at h9_3; have h9_4 := bx2_; unfold bd at h9_4; have h9_5 := bx3_; unfold bd at h9_5; have h9_6 := h_13; unfold bd at h9_6; have h9_7 := bx_2; unfold bd at h9_7; have h9_8 := bx_27; unfold bd at h9_8; have h9_9 := b_23; unfold bd at h9_9; have h9_10 := b_34; unfold bd at h9_10; have h9_11 := b_64; unfold bd at h9_11; have h8_0 := kb_1; unfold bd at h8_0; have h8_1 := kb_2; unfold bd at h8_1; have h8_2 := kb_m1; unfold bd at h8_2; omega) hl9
            have hl9 := lv_sub hl [0, 1, 2, 3, 4, 5, 6] (by rfl : lv_pick [(6, .int y_22), (5, .int r_7), (4, .int v8_4), (0, .ref a0_), (1, .int x1_), (2, .int x2_), (3, .int x3_)] [0, 1, 2, 3, 4, 5, 6] = [(6, .int y_22), (5, .int r_7), (4, .int v8_4), (0, .ref a0_), (1, .int x1_), (2, .int x2_), (3, .int x3_)])
            have g9 := g.sub (fx' := [(12, 27, q0_, .int x_12), (14, 27, a0_, .ref a_1), (14, 1, a0_, .ref q0_)]) [0, 1, 2] rfl
            exact loop_24 (1763) y_22 (bd_sub b_23 (by decide)) (by have h9_0 := b_23; unfold bd at h9_0; have h9_1 := kb_m1; unfold bd at h9_1; omega) _ _ _ _ g9 hG_19 hG_20 (by have h9_0 := h_10; unfold bd at h9_0; have h9_1 := b_6; unfold bd at h9_1; have h9_2 := bx1_; unfold bd at h9_2; have h9_3 := bx2_; unfold bd at h9_3; have h9_4 := bx3_; unfold bd at h9_4; have h9_5 := h_13; unfold bd at h9_5; have h9_6 := bx_2; unfold bd at h9_6; have h9_7 := b_23; unfold bd at h9_7; have h8_0 := kb_m1; unfold bd at h8_0; omega) hl9
          · have fc_21 := eq_f c_21
            have b_65 : bd 0 (-1) r_7 := eqX fc_21 h_10 kb_m1 (by decide)
            exact bd_no b_65 (by decide)
  have hl9 := lv_sub hl [0, 1, 2, 3, 4] (by rfl : lv_pick [(4, .int x_2), (0, .ref a0_), (1, .int x1_), (2, .int x2_), (3, .int x3_)] [0, 1, 2, 3, 4] = [(4, .int x_2), (0, .ref a0_), (1, .int x1_), (2, .int x2_), (3, .int x3_)])
  have g9 := g.sub (fx' := [(14, 27, a0_, .ref a_1), (14, 1, a0_, .ref q0_)]) [0, 1] rfl
  exact loop_3 (20) x_2 bx_2 (by have h9_0 := bx_2; unfold bd at h9_0; omega) _ _ _ _ g9 hGOa0_ hGVq0_ (cN.of ho vx_2) hl9
