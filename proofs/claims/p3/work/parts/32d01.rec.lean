set_option maxHeartbeats 4000000 in
set_option maxRecDepth 100000 in
theorem r_X14_place (N : Nat) (ih : RecN N) (l : Launch) (dC : Nat → ClassId) (dI : Nat → Nat → Nat) (L : List Nat) (kd : Nat → Nat) (tys : List (ClassId × FieldType)) (f0 : Nat → va_E) (sz : Nat) (hWT : WT L kd tys f0) (a0_ : Nat) (ma0_ : a0_ ∈ L) (ka0_ : kd a0_ = 14) (x1_ : Int32) (x2_ : Int32) (q0_ : Nat) (mq0_ : q0_ ∈ L) (kq0_ : kd q0_ = 12) (V_ : PV) (δ_ : Nat → Nat) (hW : wfP V_ δ_) (w_ : Int32) (bw : bd 0 20 w_) (s_ : Int32) (bs : bd 0 300 s_) (Z_ : Nat → Int32) (O_ : Nat → Int32) (hV : isV f0 q0_ V_) (hR : RA f0 a0_ w_ Z_ O_) (d_ : Nat) (hcl : cAt V_ (O_ (Z_ w_.toNatClampNeg).toNatClampNeg) d_) (h_ : Int) (hE : EV V_ x1_ h_ d_) (ho : (V_.i 47 x1_.toNatClampNeg).toInt = 2) (hN : 47 * (20 - w_.toInt) + 2 * h_ ≤ ((N + 1 : Nat) : Int)) (hfx : Fs L kd f0 [(14, 1, a0_, .ref q0_), (14, 35, a0_, .int w_), (14, 34, a0_, .int s_)]) : MetE l yX14_place (.code yX14_place cX14_place 8 (some .int) :: lw_g) ({ frames := (N + 1) + 5, cells := 0, slots := 0, locals := 40 * (N + 1) + 300 }) (va_Pc [.ref a0_, .int x1_, .int x2_] (P3 (dC, dI) L tys f0 sz)) (q3E (dC, dI) L kd tys [(14, 31), (14, 32), (14, 33), (14, 34), (14, 35), (14, 39), (14, 40), (14, 45)] [200, 216, 218, 219, 220, 221] f0 sz (pRi (fun (r : Int32) (f : Nat → va_E) => (RA f a0_ w_ Z_ O_ ∧ ∃ z1_ : Int32, (bd 0 300 z1_ ∧ s_.toInt ≤ z1_.toInt) ∧ Fs L kd f [(14, 35, a0_, .int w_), (14, 34, a0_, .int z1_)]))) (fun (f : Nat → va_E) => True)) 0 0 (pA L sz) := by
  refine MetE.ofW (cc := cX14_place) (maxL := 8) (ret := (some .int)) (by decide) rfl ?_
  intro p e s m args below meth c s₁ B hml hempty hv
  obtain ⟨rfl, hsz, hP, hK, hD0⟩ := hv
  have hx := B.exec
  have hb := B.bytes
  have hr := B.returns
  have hts := atoms_spec (ws := (.code yX14_place cX14_place 8 (some .int) :: lw_g)) B.pre
  have hown : s.vm.findClass RX14 = some m.cls := findClass_of_methodNamed B.named
  have hlocks := B.notSynchronized
  subst hsz
  have g : G3 (dC, dI) L kd tys s f0 [(14, 31), (14, 32), (14, 33), (14, 34), (14, 35), (14, 39), (14, 40), (14, 45)] [200, 216, 218, 219, 220, 221] f0 s.heap [] [(14, 1, a0_, .ref q0_), (14, 35, a0_, .int w_), (14, 34, a0_, .int s_)] := G3.start hP hD0 hWT hfx
  have hl := lv_entry ([.ref a0_, .int x1_, .int x2_]) (n := 8) (Nat.le_of_ble_eq_true rfl)
  rw [lg_entry_eq]
  generalize (lg_sl ([.ref a0_, .int x1_, .int x2_]) ++ List.replicate (8 - (lg_sl ([.ref a0_, .int x1_, .int x2_])).length) Slot.unset).toArray = ls at hl ⊢
  have hl : lv_has ls 8 [(0, .ref a0_), (1, .int x1_), (2, .int x2_)] := hl
  refine W_q (fun Q hQ => ?_)
  have b_1 : bd 0 2499 x1_ := EV.bd hW hE
  refine lv_aload_n hx hb dX14_place_0 rfl (lv_at hl 0 rfl) ?_
  refine g_getk (C := RX14) (T := TX14) (N := 67) hx hb hts (mc_ inX14) hown hK g rfl 1 (by decide) rfl (hts _ (List.mem_cons_of_mem _ t_2147)) (fun _ h9 => h9) 0 rfl dX14_place_1 ?_
  refine g_getr (K := 204) (C := RX12) (T := TX12) (N := 60) hx hb hts (mc_ inX12) hown hK g mq0_ kq0_ (by decide) rfl 50 (by decide) rfl (hts _ (List.mem_cons_of_mem _ t_2004)) (fun _ h9 => h9) rfl dX14_place_4 (fun a_2 ma_2 ka_2 g => ?_)
  refine lv_iload_n hx hb dX14_place_7 rfl (lv_at hl 1 rfl) ?_
  refine g_iald hx hb hK g ma_2 ka_2 (by decide) rfl (in_bd b_1 (by decide)) dX14_place_8 (fun x_3 bx_3 cx_3 => ?_)
  have vx_3 : x_3 = V_.i 50 x1_.toNatClampNeg := hV.at g 0 rfl rfl cx_3
  rcases (ev_v hW hE ho vx_3) with h_4 | h_4 | h_4
  · have b_5 : bd 0 9 x_3 := ⟨h_4.1, h_4.2.1⟩
    refine lv_istore_n (lv' := [(3, .int x_3), (0, .ref a0_), (1, .int x1_), (2, .int x2_)]) hx hb dX14_place_9 rfl hl (by decide) rfl (fun ls hl => ?_)
    refine lv_iload_n hx hb dX14_place_10 rfl (lv_at hl 0 rfl) ?_
    refine lv_sipush (v := 1000) hx hb dX14_place_11 (by decide) ?_
    have kb_1000 : bd 1000 1000 (1000 : Int32) := ⟨by decide, by decide⟩
    refine lv_idiv hx hb dX14_place_14 (by decide) ?_
    refine lv_topi (fun y_6 ey_6 => ?_)
    have b_7 : bd 0 0 y_6 := div_rg ey_6 b_5 kb_1000 (by decide)
    refine lv_istore (lv' := [(4, .int y_6), (3, .int x_3), (0, .ref a0_), (1, .int x1_), (2, .int x2_)]) hx hb dX14_place_15 hl (by decide) rfl (fun ls hl => ?_)
    refine lv_iload hx hb dX14_place_17 (lv_at hl 0 rfl) ?_
    refine lv_iconst (v := 1) hx hb dX14_place_19 (by decide) ?_
    have kb_1 : bd 1 1 (1 : Int32) := ⟨by decide, by decide⟩
    refine lv_icmp_ne (tgt := 41) hx hb dX14_place_20 (by decide) (fun c_8 => ?_) (fun c_8 => ?_)
    · have fc_8 := neq_f c_8
      refine lv_iload hx hb dX14_place_41 (lv_at hl 0 rfl) ?_
      refine lv_iconst (v := 2) hx hb dX14_place_43 (by decide) ?_
      have kb_2 : bd 2 2 (2 : Int32) := ⟨by decide, by decide⟩
      refine lv_icmp_ne (tgt := 66) hx hb dX14_place_44 (by decide) (fun c_9 => ?_) (fun c_9 => ?_)
      · have fc_9 := neq_f c_9
        refine lv_aload_n hx hb dX14_place_66 rfl (lv_at hl 2 rfl) ?_
        have go_ := g
        refine g_calli (va_runV (As := []) (rest := []) ⟨hx, hb, hml, hown, hts⟩ (r_X14_classHereN l dC dI L kd tys f0 s.heap.size g.2.2.2.1 a0_ ma0_ ka0_ w_ bw Z_ O_ hR (g.fcts [2] rfl)) (cwV 0 hts (gV_ t_2642 t_2644 t_148 t_198 t_2645) rfl rfl rfl (by decide +kernel) ⟨(show 0 + 1 ≤ N + 1 + 5 by omega), (show 8 + (1 + 11) + 0 ≤ 40 * (N + 1) + 300 by omega)⟩) (pre3V g hK ma0_ ka0_ (by decide) (q := (RX14, TX14, 67)) rfl) rfl rfl hl.1 rfl (lv_room (Nat.le_of_ble_eq_true rfl)) dX14_place_67 ⟨(Nat.le_of_ble_eq_true rfl), (Nat.le_of_ble_eq_true rfl)⟩) g hK (by decide) (by decide) (fx' := [(12, 50, q0_, .ref a_2), (14, 1, a0_, .ref q0_), (14, 35, a0_, .int w_), (14, 34, a0_, .int s_)]) rfl (fun r_10 fr_10 H locs hp hMr_10 g => ?_)
        obtain ⟨hx_11, h_12, -⟩ := hp
        have hG_13 := isV.frame hMr_10 go_.2.2.2.1 mq0_ kq0_ (by decide) (by decide) hV
        have hG_14 := RA.frame hMr_10 go_.2.2.2.1 ma0_ ka0_ (by decide) (by decide) hR
        have hcA_15 : cAt V_ r_10 d_ := by rw [hx_11]; exact hcl
        have b_16 : bd 0 7 r_10 := ⟨hcA_15.1, h_12.2⟩
        refine lv_istore (lv' := [(5, .int r_10), (4, .int y_6), (3, .int x_3), (0, .ref a0_), (1, .int x1_), (2, .int x2_)]) hx hb dX14_place_70 hl (by decide) rfl (fun ls hl => ?_)
        refine lv_aload_n hx hb dX14_place_72 rfl (lv_at hl 3 rfl) ?_
        refine g_getk (C := RX14) (T := TX14) (N := 67) hx hb hts (mc_ inX14) hown hK g rfl 1 (by decide) rfl (hts _ (List.mem_cons_of_mem _ t_2147)) (fun _ h9 => h9) 1 rfl dX14_place_73 ?_
        refine g_getr (K := 202) (C := RX12) (T := TX12) (N := 60) hx hb hts (mc_ inX12) hown hK g mq0_ kq0_ (by decide) rfl 48 (by decide) rfl (hts _ (List.mem_cons_of_mem _ t_2000)) (fun _ h9 => h9) rfl dX14_place_76 (fun a_17 ma_17 ka_17 g => ?_)
        refine lv_iload_n hx hb dX14_place_79 rfl (lv_at hl 4 rfl) ?_
        refine g_iald hx hb hK g ma_17 ka_17 (by decide) rfl (in_bd b_1 (by decide)) dX14_place_80 (fun x_18 bx_18 cx_18 => ?_)
        have vx_18 : x_18 = V_.i 48 x1_.toNatClampNeg := hG_13.at g 0 rfl rfl cx_18
        refine lv_iconst (v := (-1)) hx hb dX14_place_81 (by decide) ?_
        have kb_m1 : bd (-1) (-1) ((-1) : Int32) := ⟨by decide, by decide⟩
        refine lv_icmp_ne (tgt := 89) hx hb dX14_place_82 (by decide) (fun c_19 => ?_) (fun c_19 => ?_)
        · have fc_19 := neq_f c_19
          refine lv_aload_n hx hb dX14_place_89 rfl (lv_at hl 3 rfl) ?_
          refine lv_aload_n hx hb dX14_place_90 rfl (lv_at hl 3 rfl) ?_
          refine g_getk (C := RX14) (T := TX14) (N := 67) hx hb hts (mc_ inX14) hown hK g rfl 1 (by decide) rfl (hts _ (List.mem_cons_of_mem _ t_2147)) (fun _ h9 => h9) 2 rfl dX14_place_91 ?_
          refine g_getk (C := RX12) (T := TX12) (N := 60) hx hb hts (mc_ inX12) hown hK g rfl 48 (by decide) rfl (hts _ (List.mem_cons_of_mem _ t_2000)) (fun _ h9 => h9) 0 rfl dX14_place_94 ?_
          refine lv_iload_n hx hb dX14_place_97 rfl (lv_at hl 4 rfl) ?_
          refine g_iald hx hb hK g ma_17 ka_17 (by decide) rfl (in_bd b_1 (by decide)) dX14_place_98 (fun x_20 bx_20 cx_20 => ?_)
          obtain rfl : x_18 = x_20 := el_same cx_18 cx_20 rfl
          have go_ := g
          refine g_callEi (As := [.int x_18]) (rest := []) ⟨hx, hb, hml, hown, hts⟩ (ih.1 l dC dI L kd tys fr_10 H.size g.2.2.2.1 a0_ ma0_ ka0_ x_18 q0_ mq0_ kq0_ V_ δ_ hW w_ bw s_ bs Z_ O_ hG_13 hG_14 d_ hcl (h_ - 1) (ev_i hW hE ho vx_18 fc_19) (by have hN9 := hN; have bw9 := bw; unfold bd at bw9; have h1_ := EV.hi hW hE; omega) (g.fcts [2, 3, 4] rfl)) (cwV 1 hts (gV_ t_2634 t_2636 t_146 t_198 t_2637) rfl rfl rfl (by decide +kernel) ⟨(show N + 5 + 1 ≤ N + 1 + 5 by omega), (show 8 + (5 + 11) + (40 * N + 300) ≤ 40 * (N + 1) + 300 by omega)⟩) (pre3V g hK ma0_ ka0_ (by decide) (q := (RX14, TX14, 67)) rfl) rfl hl.1 rfl (lv_room (Nat.le_of_ble_eq_true rfl)) dX14_place_99 ⟨(Nat.le_of_ble_eq_true rfl), (Nat.le_of_ble_eq_true rfl)⟩ g hK (by decide) (by decide) (fx' := [(12, 48, q0_, .ref a_17), (12, 50, q0_, .ref a_2), (14, 1, a0_, .ref q0_)]) rfl (fun xr_21 fr_21 H locs mxr_21 kxr_21 hp hMr_21 g => ?_) (fun r_21 fr_21 H locs hp hMr_21 g => ?_)
          · have hG_22 := isV.frame hMr_21 go_.2.2.2.1 mq0_ kq0_ (by decide) (by decide) hG_13
            subst hQ
            exact WX.leaves hempty hlocks (fun t ht hW => g_thrE g hK mxr_21 kxr_21 trivial ht hW) g.2.2.1.2.2
          · obtain ⟨hG_23, x_24, ⟨h_25, rh_25⟩, hF_26⟩ := hp
            have hG_27 := isV.frame hMr_21 go_.2.2.2.1 mq0_ kq0_ (by decide) (by decide) hG_13
            have g := g.more hF_26
            refine lv_istore (lv' := [(6, .int r_21), (5, .int r_10), (4, .int y_6), (3, .int x_3), (0, .ref a0_), (1, .int x1_), (2, .int x2_)]) hx hb dX14_place_102 hl (by decide) rfl (fun ls hl => ?_)
            refine lv_aload_n hx hb dX14_place_104 rfl (lv_at hl 4 rfl) ?_
            refine g_getk (C := RX14) (T := TX14) (N := 67) hx hb hts (mc_ inX14) hown hK g rfl 1 (by decide) rfl (hts _ (List.mem_cons_of_mem _ t_2147)) (fun _ h9 => h9) 4 rfl dX14_place_105 ?_
            refine g_getk (C := RX12) (T := TX12) (N := 60) hx hb hts (mc_ inX12) hown hK g rfl 48 (by decide) rfl (hts _ (List.mem_cons_of_mem _ t_2000)) (fun _ h9 => h9) 2 rfl dX14_place_108 ?_
            refine lv_iload_n hx hb dX14_place_111 rfl (lv_at hl 5 rfl) ?_
            refine g_iald hx hb hK g ma_17 ka_17 (by decide) rfl (in_bd b_1 (by decide)) dX14_place_112 (fun x_28 bx_28 cx_28 => ?_)
            obtain rfl : x_18 = x_28 := el_same cx_18 cx_28 (arr_eq hMr_21 ma_17 ka_17 (by decide) rfl)
            refine lv_iconst (v := (-1)) hx hb dX14_place_113 (by decide) ?_
            refine lv_icmp_eq (tgt := 153) hx hb dX14_place_114 (by decide) (fun c_29 => ?_) (fun c_29 => ?_)
            · have fc_29 := eq_f c_29
              exact absurd fc_29 fc_19
            · have fc_29 := neq_f c_29
              refine lv_iload hx hb dX14_place_117 (lv_at hl 0 rfl) ?_
              refine lv_i2l hx hb dX14_place_119 rfl ?_
              refine lv_topl (fun y_30 ey_30 => ?_)
              refine lv_lconst (v := 0) hx hb dX14_place_120 (by decide) ?_
              refine lv_aload_n hx hb dX14_place_121 rfl (lv_at hl 4 rfl) ?_
              refine g_getk (C := RX14) (T := TX14) (N := 67) hx hb hts (mc_ inX14) hown hK g rfl 1 (by decide) rfl (hts _ (List.mem_cons_of_mem _ t_2147)) (fun _ h9 => h9) 4 rfl dX14_place_122 ?_
              refine g_getr (K := 164) (C := RX12) (T := TX12) (N := 60) hx hb hts (mc_ inX12) hown hK g mq0_ kq0_ (by decide) rfl 8 (by decide) rfl (hts _ (List.mem_cons_of_mem _ t_1922)) (fun _ h9 => h9) rfl dX14_place_125 (fun a_31 ma_31 ka_31 g => ?_)
              refine lv_bipush (v := 10) hx hb dX14_place_128 (by decide) ?_
              refine lv_iload hx hb dX14_place_130 (lv_at hl 1 rfl) ?_
              refine lv_imul hx hb dX14_place_132 ?_
              refine lv_topi (fun y_32 ey_32 => ?_)
              have ty_32 := cmul_bd ey_32 (c := 10) (by decide) b_16 (by decide)
              have b_33 : bd 0 70 y_32 := mulc_rg ty_32 b_16 (by decide)
              refine lv_iload_n hx hb dX14_place_133 rfl (lv_at hl 3 rfl) ?_
              refine lv_iadd hx hb dX14_place_134 ?_
              refine lv_topi (fun y_34 ey_34 => ?_)
              have ty_34 := add_bd ey_34 b_33 b_5 (by decide)
              have b_35 : bd 0 79 y_34 := add_rg ty_34 b_33 b_5 (by decide)
              refine g_iald hx hb hK g ma_31 ka_31 (by decide) rfl (in_bd b_35 (by decide)) dX14_place_135 (fun x_36 bx_36 cx_36 => ?_)
              have vx_36 : x_36 = V_.i 8 y_34.toNatClampNeg := hG_27.at g 0 rfl rfl cx_36
              refine lv_iconst (v := 1) hx hb dX14_place_136 (by decide) ?_
              refine lv_isub hx hb dX14_place_137 ?_
              refine lv_topi (fun y_37 ey_37 => ?_)
              have ty_37 := sub_bd ey_37 bx_36 kb_1 (by decide)
              have b_38 : bd (-1) 7 y_37 := sub_rg ty_37 bx_36 kb_1 (by decide)
              refine lv_i2l hx hb dX14_place_138 rfl ?_
              refine lv_topl (fun y_39 ey_39 => ?_)
              have go_ := g
              refine g_calli (va_runS (As := [.long y_30, .long 0, .long y_39]) (rest := []) ⟨hx, hb, hml, hown, hts⟩ (r_X14_in l dC dI L kd tys fr_21 H.size g.2.2.2.1 y_30 0 y_39) (va_cwS 3 hts (gS_ t_2448 t_2449 t_198 t_2450) rfl rfl rfl (by decide +kernel) ⟨(show 0 + 1 ≤ N + 1 + 5 by omega), (show 8 + (6 + 11) + 0 ≤ 40 * (N + 1) + 300 by omega)⟩) (pre3S g hK) rfl rfl hl.1 rfl (lv_room (Nat.le_of_ble_eq_true rfl)) dX14_place_139 ⟨(Nat.le_of_ble_eq_true rfl), (Nat.le_of_ble_eq_true rfl)⟩) g hK (by decide) (by decide) (fx' := [(12, 8, q0_, .ref a_31), (14, 35, a0_, .int w_), (14, 34, a0_, .int x_24), (12, 48, q0_, .ref a_17), (12, 50, q0_, .ref a_2), (14, 1, a0_, .ref q0_)]) rfl (fun r_40 fr_40 H locs hp hMr_40 g => ?_)
              rcases hp with ⟨hx_41, h_42, -⟩ | ⟨h_43, h_44, -⟩
              · have hG_45 := isV.frame hMr_40 go_.2.2.2.1 mq0_ kq0_ (by decide) (by decide) hG_27
                have hG_46 := RA.frame hMr_40 go_.2.2.2.1 ma0_ ka0_ (by decide) (by decide) hG_23
                obtain rfl : r_40 = 0 := h_42
                refine lv_if_ne (tgt := 153) hx hb dX14_place_142 (by decide) (fun c_ => absurd c_ (by decide)) (fun c_ => ?_)
                refine lv_aload_n hx hb dX14_place_145 rfl (lv_at hl 4 rfl) ?_
                refine lv_ldc2 (v := 452823639416) hx hb hown (hts _ (List.mem_cons_of_mem _ t_2646)) dX14_place_146 ?_
                refine lv_lconst (v := 0) hx hb dX14_place_149 (by decide) ?_
                have go_ := g
                refine g_callEv (As := [.long 452823639416, .long 0]) (rest := []) ⟨hx, hb, hml, hown, hts⟩ (r_X14_throwsWord l dC dI L kd tys fr_40 H.size g.2.2.2.1 a0_ ma0_ ka0_ 452823639416 0) (cwV 2 hts (gV_ t_2647 t_2649 t_149 t_198 t_2650) rfl rfl rfl (by decide +kernel) ⟨(show 1 + 1 ≤ N + 1 + 5 by omega), (show 8 + (5 + 11) + 21 ≤ 40 * (N + 1) + 300 by omega)⟩) (pre3V g hK ma0_ ka0_ (by decide) (q := (RX14, TX14, 67)) rfl) rfl hl.1 rfl (lv_room (Nat.le_of_ble_eq_true rfl)) dX14_place_150 ⟨(Nat.le_of_ble_eq_true rfl), (Nat.le_of_ble_eq_true rfl)⟩ g hK (by decide) (by decide) (fx' := [(12, 8, q0_, .ref a_31), (14, 35, a0_, .int w_), (14, 34, a0_, .int x_24), (12, 48, q0_, .ref a_17), (12, 50, q0_, .ref a_2), (14, 1, a0_, .ref q0_)]) rfl (fun xr_47 fr_47 H locs mxr_47 kxr_47 hp hMr_47 g => ?_) (fun fr_47 H locs hp hMr_47 g => ?_)
                · have hG_48 := isV.frame hMr_47 go_.2.2.2.1 mq0_ kq0_ (by decide) (by decide) hG_45
                  have hG_49 := RA.frame hMr_47 go_.2.2.2.1 ma0_ ka0_ (by decide) (by decide) hG_46
                  subst hQ
                  exact WX.leaves hempty hlocks (fun t ht hW => g_thrE g hK mxr_47 kxr_47 trivial ht hW) g.2.2.1.2.2
                · exact hp.elim
              · have hG_50 := isV.frame hMr_40 go_.2.2.2.1 mq0_ kq0_ (by decide) (by decide) hG_27
                have hG_51 := RA.frame hMr_40 go_.2.2.2.1 ma0_ ka0_ (by decide) (by decide) hG_23
                obtain rfl : r_40 = 1 := h_43
                have f_52 : (0 : Int32).toInt ≤ r_21.toInt := in_le h_44.1 (in_k (k := 0) (by decide) (by decide)) (in_v ey_30)
                have f_53 : r_21.toInt ≤ y_37.toInt := in_le h_44.2 (in_v ey_30) (in_v ey_39)
                have kb_0 : bd 0 0 (0 : Int32) := ⟨by decide, by decide⟩
                have b_54 : bd 0 2147483647 r_21 := leR f_52 kb_0 (bdT r_21) (by decide)
                have b_55 : bd 0 7 r_21 := leL f_53 b_54 b_38 (by decide)
                have b_56 : bd 0 7 y_37 := leR f_53 b_54 b_38 (by decide)
                have b_57 : bd 1 8 x_36 := sub_inv ty_37 b_56 bx_36 kb_1 (by decide)
                refine lv_if_ne (tgt := 153) hx hb dX14_place_142 (by decide) (fun c_ => ?_) (fun c_ => absurd c_ (by decide))
                refine lv_aload_n hx hb dX14_place_153 rfl (lv_at hl 4 rfl) ?_
                refine g_getk (C := RX14) (T := TX14) (N := 67) hx hb hts (mc_ inX14) hown hK g rfl 1 (by decide) rfl (hts _ (List.mem_cons_of_mem _ t_2147)) (fun _ h9 => h9) 5 rfl dX14_place_154 ?_
                refine g_getr (K := 165) (C := RX12) (T := TX12) (N := 60) hx hb hts (mc_ inX12) hown hK g mq0_ kq0_ (by decide) rfl 9 (by decide) rfl (hts _ (List.mem_cons_of_mem _ t_1924)) (fun _ h9 => h9) rfl dX14_place_157 (fun a_58 ma_58 ka_58 g => ?_)
                refine lv_bipush (v := 10) hx hb dX14_place_160 (by decide) ?_
                refine lv_iload hx hb dX14_place_162 (lv_at hl 1 rfl) ?_
                refine lv_imul hx hb dX14_place_164 ?_
                refine lv_topi (fun y_59 ey_59 => ?_)
                obtain rfl : y_32 = y_59 := ey_32.trans ey_59.symm
                refine lv_iload_n hx hb dX14_place_165 rfl (lv_at hl 3 rfl) ?_
                refine lv_iadd hx hb dX14_place_166 ?_
                refine lv_topi (fun y_60 ey_60 => ?_)
                obtain rfl : y_34 = y_60 := ey_34.trans ey_60.symm
                refine g_iald hx hb hK g ma_58 ka_58 (by decide) rfl (in_bd b_35 (by decide)) dX14_place_167 (fun x_61 bx_61 cx_61 => ?_)
                have vx_61 : x_61 = V_.i 9 y_34.toNatClampNeg := hG_50.at g 0 rfl rfl cx_61
                have hf_62 := fld_ok hW hcA_15 h_4 (by have h9_0 := b_16; unfold bd at h9_0; have h9_1 := b_55; unfold bd at h9_1; have h9_2 := bs; unfold bd at h9_2; have h9_3 := bw; unfold bd at h9_3; have h9_4 := b_1; unfold bd at h9_4; have h9_5 := h_25; unfold bd at h9_5; have h9_6 := b_5; unfold bd at h9_6; have h9_7 := b_57; unfold bd at h9_7; have h9_8 := bx_61; unfold bd at h9_8; have h9_9 := b_33; unfold bd at h9_9; have h9_10 := b_35; unfold bd at h9_10; have h9_11 := b_56; unfold bd at h9_11; have h9_12 := b_7; unfold bd at h9_12; have h8_0 := kb_0; unfold bd at h8_0; have h8_1 := kb_1; unfold bd at h8_1; have h8_2 := kb_1000; unfold bd at h8_2; have h8_3 := kb_2; unfold bd at h8_3; have h8_4 := kb_m1; unfold bd at h8_4; omega : y_34.toInt = 10 * r_10.toInt + x_3.toInt) vx_61 vx_36
                have b_63 : bd 0 23 x_61 := ⟨bx_61.1, hf_62.1⟩
                refine lv_iload hx hb dX14_place_168 (lv_at hl 0 rfl) ?_
                refine lv_iadd hx hb dX14_place_170 ?_
                refine lv_topi (fun y_64 ey_64 => ?_)
                have ty_64 := add_bd ey_64 b_63 b_55 (by decide)
                have b_65 : bd 0 30 y_64 := add_rg ty_64 b_63 b_55 (by decide)
                refine lv_istore (lv' := [(7, .int y_64), (6, .int r_21), (5, .int r_10), (4, .int y_6), (3, .int x_3), (0, .ref a0_), (1, .int x1_), (2, .int x2_)]) hx hb dX14_place_171 hl (by decide) rfl (fun ls hl => ?_)
                refine lv_iload_n hx hb dX14_place_173 rfl (lv_at hl 7 rfl) ?_
                refine lv_if_ne (tgt := 184) hx hb dX14_place_174 (by decide) (fun c_66 => ?_) (fun c_66 => ?_)
                · have fc_66 := neq_f c_66
                  refine lv_aload_n hx hb dX14_place_184 rfl (lv_at hl 5 rfl) ?_
                  refine g_getr (K := 217) (C := RX14) (T := TX14) (N := 67) hx hb hts (mc_ inX14) hown hK g ma0_ ka0_ (by decide) rfl 29 (by decide) rfl (hts _ (List.mem_cons_of_mem _ t_2175)) (fun _ h9 => h9) rfl dX14_place_185 (fun a_67 ma_67 ka_67 g => ?_)
                  refine lv_iload hx hb dX14_place_188 (lv_at hl 0 rfl) ?_
                  refine g_iald hx hb hK g ma_67 ka_67 (by decide) rfl (in_ok (by have h9_0 := b_16; unfold bd at h9_0; have h9_1 := b_55; unfold bd at h9_1; have h9_2 := bs; unfold bd at h9_2; have h9_3 := bw; unfold bd at h9_3; have h9_4 := b_1; unfold bd at h9_4; have h9_5 := h_25; unfold bd at h9_5; have h9_6 := b_5; unfold bd at h9_6; have h9_7 := b_57; unfold bd at h9_7; have h9_8 := b_63; unfold bd at h9_8; have h9_9 := b_33; unfold bd at h9_9; have h9_10 := b_35; unfold bd at h9_10; have h9_11 := b_56; unfold bd at h9_11; have h9_12 := b_7; unfold bd at h9_12; have h9_13 := b_65; unfold bd at h9_13; have h8_0 := kb_0; unfold bd at h8_0; have h8_1 := kb_1; unfold bd at h8_1; have h8_2 := kb_1000; unfold bd at h8_2; have h8_3 := kb_2; unfold bd at h8_3; have h8_4 := kb_m1; unfold bd at h8_4; omega) (by have h9_0 := b_16; unfold bd at h9_0; have h9_1 := b_55; unfold bd at h9_1; have h9_2 := bs; unfold bd at h9_2; have h9_3 := bw; unfold bd at h9_3; have h9_4 := b_1; unfold bd at h9_4; have h9_5 := h_25; unfold bd at h9_5; have h9_6 := b_5; unfold bd at h9_6; have h9_7 := b_57; unfold bd at h9_7; have h9_8 := b_63; unfold bd at h9_8; have h9_9 := b_33; unfold bd at h9_9; have h9_10 := b_35; unfold bd at h9_10; have h9_11 := b_56; unfold bd at h9_11; have h9_12 := b_7; unfold bd at h9_12; have h9_13 := b_65; unfold bd at h9_13; have h8_0 := kb_0; unfold bd at h8_0; have h8_1 := kb_1; unfold bd at h8_1; have h8_2 := kb_1000; unfold bd at h8_2; have h8_3 := kb_2; unfold bd at h8_3; have h8_4 := kb_m1; unfold bd at h8_4; omega)) dX14_place_190 (fun x_68 bx_68 cx_68 => ?_)
                  refine lv_goto (tgt := 214) hx hb dX14_place_191 (by decide) ?_
                  subst hQ
                  exact W.thenQ (W.iret (v := x_68) hx hb hr (fun t ht hW => g_retE g hK ⟨_, rfl, ⟨hG_51, x_24, ⟨h_25, (by have h9_0 := b_16; unfold bd at h9_0; have h9_1 := b_55; unfold bd at h9_1; have h9_2 := bs; unfold bd at h9_2; have h9_3 := bw; unfold bd at h9_3; have h9_4 := b_1; unfold bd at h9_4; have h9_5 := h_25; unfold bd at h9_5; have h9_6 := b_5; unfold bd at h9_6; have h9_7 := b_57; unfold bd at h9_7; have h9_8 := b_63; unfold bd at h9_8; have h9_9 := b_33; unfold bd at h9_9; have h9_10 := b_35; unfold bd at h9_10; have h9_11 := b_56; unfold bd at h9_11; have h9_12 := b_7; unfold bd at h9_12; have h9_13 := b_65; unfold bd at h9_13; have h8_0 := kb_0; unfold bd at h8_0; have h8_1 := kb_1; unfold bd at h8_1; have h8_2 := kb_1000; unfold bd at h8_2; have h8_3 := kb_2; unfold bd at h8_3; have h8_4 := kb_m1; unfold bd at h8_4; omega)⟩, (g.fcts [3, 4] rfl)⟩⟩ ht hW) g.2.2.1.2.2 dX14_place_214) (fun _ => MQ.toE)
                · have fc_66 := eq_f c_66
                  have b_69 : bd 0 0 x2_ := eqX fc_66 (bdT x2_) kb_0 (by decide)
                  refine lv_aload_n hx hb dX14_place_177 rfl (lv_at hl 5 rfl) ?_
                  refine g_geti (C := RX14) (T := TX14) (N := 67) hx hb hts (mc_ inX14) hown hK g ma0_ ka0_ (by decide) rfl 37 (by decide) rfl (hts _ (List.mem_cons_of_mem _ t_2183)) (fun _ h9 => h9) rfl dX14_place_178 (fun x_70 bx_70 g => ?_)
                  refine lv_if_eq (tgt := 194) hx hb dX14_place_181 (by decide) (fun c_71 => ?_) (fun c_71 => ?_)
                  · have fc_71 := eq_f c_71
                    have b_72 : bd 0 0 x_70 := eqX fc_71 bx_70 kb_0 (by decide)
                    refine lv_aload_n hx hb dX14_place_194 rfl (lv_at hl 5 rfl) ?_
                    refine g_getr (K := 216) (C := RX14) (T := TX14) (N := 67) hx hb hts (mc_ inX14) hown hK g ma0_ ka0_ (by decide) rfl 28 (by decide) rfl (hts _ (List.mem_cons_of_mem _ t_2174)) (fun _ h9 => h9) rfl dX14_place_195 (fun a_73 ma_73 ka_73 g => ?_)
                    refine lv_bipush (v := 24) hx hb dX14_place_198 (by decide) ?_
                    refine lv_aload_n hx hb dX14_place_200 rfl (lv_at hl 5 rfl) ?_
                    refine g_getr (K := 220) (C := RX14) (T := TX14) (N := 67) hx hb hts (mc_ inX14) hown hK g ma0_ ka0_ (by decide) rfl 43 (by decide) rfl (hts _ (List.mem_cons_of_mem _ t_2189)) (fun _ h9 => h9) rfl dX14_place_201 (fun a_74 ma_74 ka_74 g => ?_)
                    refine lv_aload_n hx hb dX14_place_204 rfl (lv_at hl 5 rfl) ?_
                    refine g_getk (C := RX14) (T := TX14) (N := 67) hx hb hts (mc_ inX14) hown hK g rfl 35 (by decide) rfl (hts _ (List.mem_cons_of_mem _ t_2181)) (fun _ h9 => h9) 5 rfl dX14_place_205 ?_
                    refine g_iald hx hb hK g ma_74 ka_74 (by decide) rfl (in_bd bw (by decide)) dX14_place_208 (fun x_75 bx_75 cx_75 => ?_)
                    have vx_75 := hG_51.self g 0 rfl cx_75
                    refine lv_imul hx hb dX14_place_209 ?_
                    refine lv_topi (fun y_76 ey_76 => ?_)
                    have ty_76 := cmul_bd ey_76 (c := 24) (by decide) bx_75 (by decide)
                    have b_77 : bd 0 120 y_76 := mulc_rg ty_76 bx_75 (by decide)
                    refine lv_iload hx hb dX14_place_210 (lv_at hl 0 rfl) ?_
                    refine lv_iadd hx hb dX14_place_212 ?_
                    refine lv_topi (fun y_78 ey_78 => ?_)
                    have ty_78 := add_bd ey_78 b_77 b_65 (by decide)
                    have b_79 : bd 0 150 y_78 := add_rg ty_78 b_77 b_65 (by decide)
                    refine g_iald hx hb hK g ma_73 ka_73 (by decide) rfl (in_ok (by have h9_0 := b_16; unfold bd at h9_0; have h9_1 := b_55; unfold bd at h9_1; have h9_2 := bs; unfold bd at h9_2; have h9_3 := bw; unfold bd at h9_3; have h9_4 := b_1; unfold bd at h9_4; have h9_5 := b_69; unfold bd at h9_5; have h9_6 := h_25; unfold bd at h9_6; have h9_7 := b_5; unfold bd at h9_7; have h9_8 := b_57; unfold bd at h9_8; have h9_9 := b_63; unfold bd at h9_9; have h9_10 := b_72; unfold bd at h9_10; have h9_11 := bx_75; unfold bd at h9_11; have h9_12 := b_33; unfold bd at h9_12; have h9_13 := b_35; unfold bd at h9_13; have h9_14 := b_56; unfold bd at h9_14; have h9_15 := b_7; unfold bd at h9_15; have h9_16 := b_65; unfold bd at h9_16; have h9_17 := b_77; unfold bd at h9_17; have h9_18 := b_79; unfold bd at h9_18; have h8_0 := kb_0; unfold bd at h8_0; have h8_1 := kb_1; unfold bd at h8_1; have h8_2 := kb_1000; unfold bd at h8_2; have h8_3 := kb_2; unfold bd at h8_3; have h8_4 := kb_m1; unfold bd at h8_4; omega) (by have h9_0 := b_16; unfold bd at h9_0; have h9_1 := b_55; unfold bd at h9_1; have h9_2 := bs; unfold bd at h9_2; have h9_3 := bw; unfold bd at h9_3; have h9_4 := b_1; unfold bd at h9_4; have h9_5 := b_69; unfold bd at h9_5; have h9_6 := h_25; unfold bd at h9_6; have h9_7 := b_5; unfold bd at h9_7; have h9_8 := b_57; unfold bd at h9_8; have h9_9 := b_63; unfold bd at h9_9; have h9_10 := b_72; unfold bd at h9_10; have h9_11 := bx_75; unfold bd at h9_11; have h9_12 := b_33; unfold bd at h9_12; have h9_13 := b_35; unfold bd at h9_13; have h9_14 := b_56; unfold bd at h9_14; have h9_15 := b_7; unfold bd at h9_15; have h9_16 := b_65; unfold bd at h9_16; have h9_17 := b_77; unfold bd at h9_17; have h9_18 := b_79; unfold bd at h9_18; have h8_0 := kb_0; unfold bd at h8_0; have h8_1 := kb_1; unfold bd at h8_1; have h8_2 := kb_1000; unfold bd at h8_2; have h8_3 := kb_2; unfold bd at h8_3; have h8_4 := kb_m1; unfold bd at h8_4; omega)) dX14_place_213 (fun x_80 bx_80 cx_80 => ?_)
                    subst hQ
                    exact W.thenQ (W.iret (v := x_80) hx hb hr (fun t ht hW => g_retE g hK ⟨_, rfl, ⟨hG_51, x_24, ⟨h_25, (by have h9_0 := b_16; unfold bd at h9_0; have h9_1 := b_55; unfold bd at h9_1; have h9_2 := bs; unfold bd at h9_2; have h9_3 := bw; unfold bd at h9_3; have h9_4 := b_1; unfold bd at h9_4; have h9_5 := b_69; unfold bd at h9_5; have h9_6 := h_25; unfold bd at h9_6; have h9_7 := b_5; unfold bd at h9_7; have h9_8 := b_57; unfold bd at h9_8; have h9_9 := b_63; unfold bd at h9_9; have h9_10 := b_72; unfold bd at h9_10; have h9_11 := bx_75; unfold bd at h9_11; have h9_12 := b_33; unfold bd at h9_12; have h9_13 := b_35; unfold bd at h9_13; have h9_14 := b_56; unfold bd at h9_14; have h9_15 := b_7; unfold bd at h9_15; have h9_16 := b_65; unfold bd at h9_16; have h9_17 := b_77; unfold bd at h9_17; have h9_18 := b_79; unfold bd at h9_18; have h8_0 := kb_0; unfold bd at h8_0; have h8_1 := kb_1; unfold bd at h8_1; have h8_2 := kb_1000; unfold bd at h8_2; have h8_3 := kb_2; unfold bd at h8_3; have h8_4 := kb_m1; unfold bd at h8_4; omega)⟩, (g.fcts [5, 6] rfl)⟩⟩ ht hW) g.2.2.1.2.2 dX14_place_214) (fun _ => MQ.toE)
                  · have fc_71 := neq_f c_71
                    have b_81 : bd 1 1 x_70 := neX fc_71 bx_70 kb_0 (by decide)
                    refine lv_aload_n hx hb dX14_place_184 rfl (lv_at hl 5 rfl) ?_
                    refine g_getr (K := 217) (C := RX14) (T := TX14) (N := 67) hx hb hts (mc_ inX14) hown hK g ma0_ ka0_ (by decide) rfl 29 (by decide) rfl (hts _ (List.mem_cons_of_mem _ t_2175)) (fun _ h9 => h9) rfl dX14_place_185 (fun a_82 ma_82 ka_82 g => ?_)
                    refine lv_iload hx hb dX14_place_188 (lv_at hl 0 rfl) ?_
                    refine g_iald hx hb hK g ma_82 ka_82 (by decide) rfl (in_ok (by have h9_0 := b_16; unfold bd at h9_0; have h9_1 := b_55; unfold bd at h9_1; have h9_2 := bs; unfold bd at h9_2; have h9_3 := bw; unfold bd at h9_3; have h9_4 := b_1; unfold bd at h9_4; have h9_5 := b_69; unfold bd at h9_5; have h9_6 := h_25; unfold bd at h9_6; have h9_7 := b_5; unfold bd at h9_7; have h9_8 := b_57; unfold bd at h9_8; have h9_9 := b_63; unfold bd at h9_9; have h9_10 := b_81; unfold bd at h9_10; have h9_11 := b_33; unfold bd at h9_11; have h9_12 := b_35; unfold bd at h9_12; have h9_13 := b_56; unfold bd at h9_13; have h9_14 := b_7; unfold bd at h9_14; have h9_15 := b_65; unfold bd at h9_15; have h8_0 := kb_0; unfold bd at h8_0; have h8_1 := kb_1; unfold bd at h8_1; have h8_2 := kb_1000; unfold bd at h8_2; have h8_3 := kb_2; unfold bd at h8_3; have h8_4 := kb_m1; unfold bd at h8_4; omega) (by have h9_0 := b_16; unfold bd at h9_0; have h9_1 := b_55; unfold bd at h9_1; have h9_2 := bs; unfold bd at h9_2; have h9_3 := bw; unfold bd at h9_3; have h9_4 := b_1; unfold bd at h9_4; have h9_5 := b_69; unfold bd at h9_5; have h9_6 := h_25; unfold bd at h9_6; have h9_7 := b_5; unfold bd at h9_7; have h9_8 := b_57; unfold bd at h9_8; have h9_9 := b_63; unfold bd at h9_9; have h9_10 := b_81; unfold bd at h9_10; have h9_11 := b_33; unfold bd at h9_11; have h9_12 := b_35; unfold bd at h9_12; have h9_13 := b_56; unfold bd at h9_13; have h9_14 := b_7; unfold bd at h9_14; have h9_15 := b_65; unfold bd at h9_15; have h8_0 := kb_0; unfold bd at h8_0; have h8_1 := kb_1; unfold bd at h8_1; have h8_2 := kb_1000; unfold bd at h8_2; have h8_3 := kb_2; unfold bd at h8_3; have h8_4 := kb_m1; unfold bd at h8_4; omega)) dX14_place_190 (fun x_83 bx_83 cx_83 => ?_)
                    refine lv_goto (tgt := 214) hx hb dX14_place_191 (by decide) ?_
                    subst hQ
                    exact W.thenQ (W.iret (v := x_83) hx hb hr (fun t ht hW => g_retE g hK ⟨_, rfl, ⟨hG_51, x_24, ⟨h_25, (by have h9_0 := b_16; unfold bd at h9_0; have h9_1 := b_55; unfold bd at h9_1; have h9_2 := bs; unfold bd at h9_2; have h9_3 := bw; unfold bd at h9_3; have h9_4 := b_1; unfold bd at h9_4; have h9_5 := b_69; unfold bd at h9_5; have h9_6 := h_25; unfold bd at h9_6; have h9_7 := b_5; unfold bd at h9_7; have h9_8 := b_57; unfold bd at h9_8; have h9_9 := b_63; unfold bd at h9_9; have h9_10 := b_81; unfold bd at h9_10; have h9_11 := b_33; unfold bd at h9_11; have h9_12 := b_35; unfold bd at h9_12; have h9_13 := b_56; unfold bd at h9_13; have h9_14 := b_7; unfold bd at h9_14; have h9_15 := b_65; unfold bd at h9_15; have h8_0 := kb_0; unfold bd at h8_0; have h8_1 := kb_1; unfold bd at h8_1; have h8_2 := kb_1000; unfold bd at h8_2; have h8_3 := kb_2; unfold bd at h8_3; have h8_4 := kb_m1; unfold bd at h8_4; omega)⟩, (g.fcts [4, 5] rfl)⟩⟩ ht hW) g.2.2.1.2.2 dX14_place_214) (fun _ => MQ.toE)
        · have fc_19 := eq_f c_19
          have b_84 : bd (-1) (-1) x_18 := eqX fc_19 (bdT x_18) kb_m1 (by decide)
          refine lv_iconst (v := 0) hx hb dX14_place_85 (by decide) ?_
          refine lv_goto (tgt := 102) hx hb dX14_place_86 (by decide) ?_
          refine lv_istore (lv' := [(6, .int 0), (5, .int r_10), (4, .int y_6), (3, .int x_3), (0, .ref a0_), (1, .int x1_), (2, .int x2_)]) hx hb dX14_place_102 hl (by decide) rfl (fun ls hl => ?_)
          refine lv_aload_n hx hb dX14_place_104 rfl (lv_at hl 4 rfl) ?_
          refine g_getk (C := RX14) (T := TX14) (N := 67) hx hb hts (mc_ inX14) hown hK g rfl 1 (by decide) rfl (hts _ (List.mem_cons_of_mem _ t_2147)) (fun _ h9 => h9) 2 rfl dX14_place_105 ?_
          refine g_getk (C := RX12) (T := TX12) (N := 60) hx hb hts (mc_ inX12) hown hK g rfl 48 (by decide) rfl (hts _ (List.mem_cons_of_mem _ t_2000)) (fun _ h9 => h9) 0 rfl dX14_place_108 ?_
          refine lv_iload_n hx hb dX14_place_111 rfl (lv_at hl 5 rfl) ?_
          refine g_iald hx hb hK g ma_17 ka_17 (by decide) rfl (in_bd b_1 (by decide)) dX14_place_112 (fun x_85 bx_85 cx_85 => ?_)
          obtain rfl : x_18 = x_85 := el_same cx_18 cx_85 rfl
          refine lv_iconst (v := (-1)) hx hb dX14_place_113 (by decide) ?_
          refine lv_icmp_eq (tgt := 153) hx hb dX14_place_114 (by decide) (fun c_86 => ?_) (fun c_86 => ?_)
          · have fc_86 := eq_f c_86
            refine lv_aload_n hx hb dX14_place_153 rfl (lv_at hl 4 rfl) ?_
            refine g_getk (C := RX14) (T := TX14) (N := 67) hx hb hts (mc_ inX14) hown hK g rfl 1 (by decide) rfl (hts _ (List.mem_cons_of_mem _ t_2147)) (fun _ h9 => h9) 2 rfl dX14_place_154 ?_
            refine g_getr (K := 165) (C := RX12) (T := TX12) (N := 60) hx hb hts (mc_ inX12) hown hK g mq0_ kq0_ (by decide) rfl 9 (by decide) rfl (hts _ (List.mem_cons_of_mem _ t_1924)) (fun _ h9 => h9) rfl dX14_place_157 (fun a_87 ma_87 ka_87 g => ?_)
            refine lv_bipush (v := 10) hx hb dX14_place_160 (by decide) ?_
            refine lv_iload hx hb dX14_place_162 (lv_at hl 1 rfl) ?_
            refine lv_imul hx hb dX14_place_164 ?_
            refine lv_topi (fun y_88 ey_88 => ?_)
            have ty_88 := cmul_bd ey_88 (c := 10) (by decide) b_16 (by decide)
            have b_89 : bd 0 70 y_88 := mulc_rg ty_88 b_16 (by decide)
            refine lv_iload_n hx hb dX14_place_165 rfl (lv_at hl 3 rfl) ?_
            refine lv_iadd hx hb dX14_place_166 ?_
            refine lv_topi (fun y_90 ey_90 => ?_)
            have ty_90 := add_bd ey_90 b_89 b_5 (by decide)
            have b_91 : bd 0 79 y_90 := add_rg ty_90 b_89 b_5 (by decide)
            refine g_iald hx hb hK g ma_87 ka_87 (by decide) rfl (in_bd b_91 (by decide)) dX14_place_167 (fun x_92 bx_92 cx_92 => ?_)
            have vx_92 : x_92 = V_.i 9 y_90.toNatClampNeg := hG_13.at g 0 rfl rfl cx_92
            have hf_93 := fld_ok hW hcA_15 h_4 (by have h9_0 := b_16; unfold bd at h9_0; have h9_1 := bs; unfold bd at h9_1; have h9_2 := bw; unfold bd at h9_2; have h9_3 := b_1; unfold bd at h9_3; have h9_4 := b_84; unfold bd at h9_4; have h9_5 := b_5; unfold bd at h9_5; have h9_6 := bx_92; unfold bd at h9_6; have h9_7 := b_7; unfold bd at h9_7; have h9_8 := b_89; unfold bd at h9_8; have h9_9 := b_91; unfold bd at h9_9; have h8_0 := kb_1; unfold bd at h8_0; have h8_1 := kb_1000; unfold bd at h8_1; have h8_2 := kb_2; unfold bd at h8_2; have h8_3 := kb_m1; unfold bd at h8_3; omega : y_90.toInt = 10 * r_10.toInt + x_3.toInt) vx_92 rfl
            have b_94 : bd 0 23 x_92 := ⟨bx_92.1, hf_93.1⟩
            refine lv_iload hx hb dX14_place_168 (lv_at hl 0 rfl) ?_
            have kb_0 : bd 0 0 (0 : Int32) := ⟨by decide, by decide⟩
            refine lv_iadd hx hb dX14_place_170 ?_
            refine lv_topi (fun y_95 ey_95 => ?_)
            have ty_95 := add_bd ey_95 b_94 kb_0 (by decide)
            have b_96 : bd 0 23 y_95 := add_rg ty_95 b_94 kb_0 (by decide)
            refine lv_istore (lv' := [(7, .int y_95), (6, .int 0), (5, .int r_10), (4, .int y_6), (3, .int x_3), (0, .ref a0_), (1, .int x1_), (2, .int x2_)]) hx hb dX14_place_171 hl (by decide) rfl (fun ls hl => ?_)
            refine lv_iload_n hx hb dX14_place_173 rfl (lv_at hl 7 rfl) ?_
            refine lv_if_ne (tgt := 184) hx hb dX14_place_174 (by decide) (fun c_97 => ?_) (fun c_97 => ?_)
            · have fc_97 := neq_f c_97
              refine lv_aload_n hx hb dX14_place_184 rfl (lv_at hl 5 rfl) ?_
              refine g_getr (K := 217) (C := RX14) (T := TX14) (N := 67) hx hb hts (mc_ inX14) hown hK g ma0_ ka0_ (by decide) rfl 29 (by decide) rfl (hts _ (List.mem_cons_of_mem _ t_2175)) (fun _ h9 => h9) rfl dX14_place_185 (fun a_98 ma_98 ka_98 g => ?_)
              refine lv_iload hx hb dX14_place_188 (lv_at hl 0 rfl) ?_
              refine g_iald hx hb hK g ma_98 ka_98 (by decide) rfl (in_bd b_96 (by decide)) dX14_place_190 (fun x_99 bx_99 cx_99 => ?_)
              refine lv_goto (tgt := 214) hx hb dX14_place_191 (by decide) ?_
              subst hQ
              exact W.thenQ (W.iret (v := x_99) hx hb hr (fun t ht hW => g_retE g hK ⟨_, rfl, ⟨hG_14, s_, ⟨bs, (by have h9_0 := b_16; unfold bd at h9_0; have h9_1 := bs; unfold bd at h9_1; have h9_2 := bw; unfold bd at h9_2; have h9_3 := b_1; unfold bd at h9_3; have h9_4 := b_84; unfold bd at h9_4; have h9_5 := b_5; unfold bd at h9_5; have h9_6 := b_94; unfold bd at h9_6; have h9_7 := b_7; unfold bd at h9_7; have h9_8 := b_89; unfold bd at h9_8; have h9_9 := b_91; unfold bd at h9_9; have h9_10 := b_96; unfold bd at h9_10; have h8_0 := kb_0; unfold bd at h8_0; have h8_1 := kb_1; unfold bd at h8_1; have h8_2 := kb_1000; unfold bd at h8_2; have h8_3 := kb_2; unfold bd at h8_3; have h8_4 := kb_m1; unfold bd at h8_4; omega)⟩, (g.fcts [5, 6] rfl)⟩⟩ ht hW) g.2.2.1.2.2 dX14_place_214) (fun _ => MQ.toE)
            · have fc_97 := eq_f c_97
              have b_100 : bd 0 0 x2_ := eqX fc_97 (bdT x2_) kb_0 (by decide)
              refine lv_aload_n hx hb dX14_place_177 rfl (lv_at hl 5 rfl) ?_
              refine g_geti (C := RX14) (T := TX14) (N := 67) hx hb hts (mc_ inX14) hown hK g ma0_ ka0_ (by decide) rfl 37 (by decide) rfl (hts _ (List.mem_cons_of_mem _ t_2183)) (fun _ h9 => h9) rfl dX14_place_178 (fun x_101 bx_101 g => ?_)
              refine lv_if_eq (tgt := 194) hx hb dX14_place_181 (by decide) (fun c_102 => ?_) (fun c_102 => ?_)
              · have fc_102 := eq_f c_102
                have b_103 : bd 0 0 x_101 := eqX fc_102 bx_101 kb_0 (by decide)
                refine lv_aload_n hx hb dX14_place_194 rfl (lv_at hl 5 rfl) ?_
                refine g_getr (K := 216) (C := RX14) (T := TX14) (N := 67) hx hb hts (mc_ inX14) hown hK g ma0_ ka0_ (by decide) rfl 28 (by decide) rfl (hts _ (List.mem_cons_of_mem _ t_2174)) (fun _ h9 => h9) rfl dX14_place_195 (fun a_104 ma_104 ka_104 g => ?_)
                refine lv_bipush (v := 24) hx hb dX14_place_198 (by decide) ?_
                refine lv_aload_n hx hb dX14_place_200 rfl (lv_at hl 5 rfl) ?_
                refine g_getr (K := 220) (C := RX14) (T := TX14) (N := 67) hx hb hts (mc_ inX14) hown hK g ma0_ ka0_ (by decide) rfl 43 (by decide) rfl (hts _ (List.mem_cons_of_mem _ t_2189)) (fun _ h9 => h9) rfl dX14_place_201 (fun a_105 ma_105 ka_105 g => ?_)
                refine lv_aload_n hx hb dX14_place_204 rfl (lv_at hl 5 rfl) ?_
                refine g_getk (C := RX14) (T := TX14) (N := 67) hx hb hts (mc_ inX14) hown hK g rfl 35 (by decide) rfl (hts _ (List.mem_cons_of_mem _ t_2181)) (fun _ h9 => h9) 7 rfl dX14_place_205 ?_
                refine g_iald hx hb hK g ma_105 ka_105 (by decide) rfl (in_bd bw (by decide)) dX14_place_208 (fun x_106 bx_106 cx_106 => ?_)
                have vx_106 := hG_14.self g 0 rfl cx_106
                refine lv_imul hx hb dX14_place_209 ?_
                refine lv_topi (fun y_107 ey_107 => ?_)
                have ty_107 := cmul_bd ey_107 (c := 24) (by decide) bx_106 (by decide)
                have b_108 : bd 0 120 y_107 := mulc_rg ty_107 bx_106 (by decide)
                refine lv_iload hx hb dX14_place_210 (lv_at hl 0 rfl) ?_
                refine lv_iadd hx hb dX14_place_212 ?_
                refine lv_topi (fun y_109 ey_109 => ?_)
                have ty_109 := add_bd ey_109 b_108 b_96 (by decide)
                have b_110 : bd 0 143 y_109 := add_rg ty_109 b_108 b_96 (by decide)
                refine g_iald hx hb hK g ma_104 ka_104 (by decide) rfl (in_bd b_110 (by decide)) dX14_place_213 (fun x_111 bx_111 cx_111 => ?_)
                subst hQ
                exact W.thenQ (W.iret (v := x_111) hx hb hr (fun t ht hW => g_retE g hK ⟨_, rfl, ⟨hG_14, s_, ⟨bs, (by have h9_0 := b_16; unfold bd at h9_0; have h9_1 := bs; unfold bd at h9_1; have h9_2 := bw; unfold bd at h9_2; have h9_3 := b_1; unfold bd at h9_3; have h9_4 := b_100; unfold bd at h9_4; have h9_5 := b_103; unfold bd at h9_5; have h9_6 := bx_106; unfold bd at h9_6; have h9_7 := b_84; unfold bd at h9_7; have h9_8 := b_5; unfold bd at h9_8; have h9_9 := b_94; unfold bd at h9_9; have h9_10 := b_108; unfold bd at h9_10; have h9_11 := b_110; unfold bd at h9_11; have h9_12 := b_7; unfold bd at h9_12; have h9_13 := b_89; unfold bd at h9_13; have h9_14 := b_91; unfold bd at h9_14; have h9_15 := b_96; unfold bd at h9_15; have h8_0 := kb_0; unfold bd at h8_0; have h8_1 := kb_1; unfold bd at h8_1; have h8_2 := kb_1000; unfold bd at h8_2; have h8_3 := kb_2; unfold bd at h8_3; have h8_4 := kb_m1; unfold bd at h8_4; omega)⟩, (g.fcts [7, 8] rfl)⟩⟩ ht hW) g.2.2.1.2.2 dX14_place_214) (fun _ => MQ.toE)
              · have fc_102 := neq_f c_102
                have b_112 : bd 1 1 x_101 := neX fc_102 bx_101 kb_0 (by decide)
                refine lv_aload_n hx hb dX14_place_184 rfl (lv_at hl 5 rfl) ?_
                refine g_getr (K := 217) (C := RX14) (T := TX14) (N := 67) hx hb hts (mc_ inX14) hown hK g ma0_ ka0_ (by decide) rfl 29 (by decide) rfl (hts _ (List.mem_cons_of_mem _ t_2175)) (fun _ h9 => h9) rfl dX14_place_185 (fun a_113 ma_113 ka_113 g => ?_)
                refine lv_iload hx hb dX14_place_188 (lv_at hl 0 rfl) ?_
                refine g_iald hx hb hK g ma_113 ka_113 (by decide) rfl (in_bd b_96 (by decide)) dX14_place_190 (fun x_114 bx_114 cx_114 => ?_)
                refine lv_goto (tgt := 214) hx hb dX14_place_191 (by decide) ?_
                subst hQ
                exact W.thenQ (W.iret (v := x_114) hx hb hr (fun t ht hW => g_retE g hK ⟨_, rfl, ⟨hG_14, s_, ⟨bs, (by have h9_0 := b_16; unfold bd at h9_0; have h9_1 := bs; unfold bd at h9_1; have h9_2 := bw; unfold bd at h9_2; have h9_3 := b_1; unfold bd at h9_3; have h9_4 := b_100; unfold bd at h9_4; have h9_5 := b_112; unfold bd at h9_5; have h9_6 := b_84; unfold bd at h9_6; have h9_7 := b_5; unfold bd at h9_7; have h9_8 := b_94; unfold bd at h9_8; have h9_9 := b_7; unfold bd at h9_9; have h9_10 := b_89; unfold bd at h9_10; have h9_11 := b_91; unfold bd at h9_11; have h9_12 := b_96; unfold bd at h9_12; have h8_0 := kb_0; unfold bd at h8_0; have h8_1 := kb_1; unfold bd at h8_1; have h8_2 := kb_1000; unfold bd at h8_2; have h8_3 := kb_2; unfold bd at h8_3; have h8_4 := kb_m1; unfold bd at h8_4; omega)⟩, (g.fcts [6, 7] rfl)⟩⟩ ht hW) g.2.2.1.2.2 dX14_place_214) (fun _ => MQ.toE)
          · have fc_86 := neq_f c_86
            have b_115 : bd 0 (-2) x_18 := neX fc_86 b_84 kb_m1 (by decide)
            exact bd_no b_115 (by decide)
      · have fc_9 := eq_f c_9
        have b_116 : bd 2 0 y_6 := eqX fc_9 b_7 kb_2 (by decide)
        exact bd_no b_116 (by decide)
    · have fc_8 := eq_f c_8
      have b_117 : bd 1 0 y_6 := eqX fc_8 b_7 kb_1 (by decide)
      exact bd_no b_117 (by decide)
  · have b_118 : bd 1000 1002 x_3 := ⟨h_4.1, h_4.2⟩
    refine lv_istore_n (lv' := [(3, .int x_3), (0, .ref a0_), (1, .int x1_), (2, .int x2_)]) hx hb dX14_place_9 rfl hl (by decide) rfl (fun ls hl => ?_)
    refine lv_iload_n hx hb dX14_place_10 rfl (lv_at hl 0 rfl) ?_
    refine lv_sipush (v := 1000) hx hb dX14_place_11 (by decide) ?_
    have kb_1000 : bd 1000 1000 (1000 : Int32) := ⟨by decide, by decide⟩
    refine lv_idiv hx hb dX14_place_14 (by decide) ?_
    refine lv_topi (fun y_119 ey_119 => ?_)
    have b_120 : bd 1 1 y_119 := div_rg ey_119 b_118 kb_1000 (by decide)
    refine lv_istore (lv' := [(4, .int y_119), (3, .int x_3), (0, .ref a0_), (1, .int x1_), (2, .int x2_)]) hx hb dX14_place_15 hl (by decide) rfl (fun ls hl => ?_)
    refine lv_iload hx hb dX14_place_17 (lv_at hl 0 rfl) ?_
    refine lv_iconst (v := 1) hx hb dX14_place_19 (by decide) ?_
    have kb_1 : bd 1 1 (1 : Int32) := ⟨by decide, by decide⟩
    refine lv_icmp_ne (tgt := 41) hx hb dX14_place_20 (by decide) (fun c_121 => ?_) (fun c_121 => ?_)
    · have fc_121 := neq_f c_121
      have b_122 : bd 2 0 y_119 := neX fc_121 b_120 kb_1 (by decide)
      exact bd_no b_122 (by decide)
    · have fc_121 := eq_f c_121
      refine lv_aload_n hx hb dX14_place_23 rfl (lv_at hl 2 rfl) ?_
      refine g_getr (K := 218) (C := RX14) (T := TX14) (N := 67) hx hb hts (mc_ inX14) hown hK g ma0_ ka0_ (by decide) rfl 41 (by decide) rfl (hts _ (List.mem_cons_of_mem _ t_2187)) (fun _ h9 => h9) rfl dX14_place_24 (fun a_123 ma_123 ka_123 g => ?_)
      refine lv_iconst (v := 3) hx hb dX14_place_27 (by decide) ?_
      refine lv_aload_n hx hb dX14_place_28 rfl (lv_at hl 2 rfl) ?_
      refine g_getk (C := RX14) (T := TX14) (N := 67) hx hb hts (mc_ inX14) hown hK g rfl 35 (by decide) rfl (hts _ (List.mem_cons_of_mem _ t_2181)) (fun _ h9 => h9) 3 rfl dX14_place_29 ?_
      refine lv_imul hx hb dX14_place_32 ?_
      refine lv_topi (fun y_124 ey_124 => ?_)
      have ty_124 := cmul_bd ey_124 (c := 3) (by decide) bw (by decide)
      have b_125 : bd 0 60 y_124 := mulc_rg ty_124 bw (by decide)
      refine lv_iload_n hx hb dX14_place_33 rfl (lv_at hl 1 rfl) ?_
      refine lv_sipush (v := 1000) hx hb dX14_place_34 (by decide) ?_
      refine lv_irem hx hb dX14_place_37 (by decide) ?_
      refine lv_topi (fun y_126 ey_126 => ?_)
      have b_127 : bd 0 2 y_126 := rem_blk ey_126 b_118 kb_1000 (by decide)
      refine lv_iadd hx hb dX14_place_38 ?_
      refine lv_topi (fun y_128 ey_128 => ?_)
      have ty_128 := add_bd ey_128 b_125 b_127 (by decide)
      have b_129 : bd 0 62 y_128 := add_rg ty_128 b_125 b_127 (by decide)
      refine g_iald hx hb hK g ma_123 ka_123 (by decide) rfl (in_bd b_129 (by decide)) dX14_place_39 (fun x_130 bx_130 cx_130 => ?_)
      subst hQ
      exact W.thenQ (W.iret (v := x_130) hx hb hr (fun t ht hW => g_retE g hK ⟨_, rfl, ⟨hR, s_, ⟨bs, (by have h9_0 := bs; unfold bd at h9_0; have h9_1 := bw; unfold bd at h9_1; have h9_2 := b_1; unfold bd at h9_2; have h9_3 := b_118; unfold bd at h9_3; have h9_4 := b_120; unfold bd at h9_4; have h9_5 := b_125; unfold bd at h9_5; have h9_6 := b_127; unfold bd at h9_6; have h9_7 := b_129; unfold bd at h9_7; have h8_0 := kb_1; unfold bd at h8_0; have h8_1 := kb_1000; unfold bd at h8_1; omega)⟩, (g.fcts [3, 4] rfl)⟩⟩ ht hW) g.2.2.1.2.2 dX14_place_40) (fun _ => MQ.toE)
  · have b_131 : bd 2000 2007 x_3 := ⟨h_4.1, h_4.2⟩
    refine lv_istore_n (lv' := [(3, .int x_3), (0, .ref a0_), (1, .int x1_), (2, .int x2_)]) hx hb dX14_place_9 rfl hl (by decide) rfl (fun ls hl => ?_)
    refine lv_iload_n hx hb dX14_place_10 rfl (lv_at hl 0 rfl) ?_
    refine lv_sipush (v := 1000) hx hb dX14_place_11 (by decide) ?_
    have kb_1000 : bd 1000 1000 (1000 : Int32) := ⟨by decide, by decide⟩
    refine lv_idiv hx hb dX14_place_14 (by decide) ?_
    refine lv_topi (fun y_132 ey_132 => ?_)
    have b_133 : bd 2 2 y_132 := div_rg ey_132 b_131 kb_1000 (by decide)
    refine lv_istore (lv' := [(4, .int y_132), (3, .int x_3), (0, .ref a0_), (1, .int x1_), (2, .int x2_)]) hx hb dX14_place_15 hl (by decide) rfl (fun ls hl => ?_)
    refine lv_iload hx hb dX14_place_17 (lv_at hl 0 rfl) ?_
    refine lv_iconst (v := 1) hx hb dX14_place_19 (by decide) ?_
    have kb_1 : bd 1 1 (1 : Int32) := ⟨by decide, by decide⟩
    refine lv_icmp_ne (tgt := 41) hx hb dX14_place_20 (by decide) (fun c_134 => ?_) (fun c_134 => ?_)
    · have fc_134 := neq_f c_134
      refine lv_iload hx hb dX14_place_41 (lv_at hl 0 rfl) ?_
      refine lv_iconst (v := 2) hx hb dX14_place_43 (by decide) ?_
      have kb_2 : bd 2 2 (2 : Int32) := ⟨by decide, by decide⟩
      refine lv_icmp_ne (tgt := 66) hx hb dX14_place_44 (by decide) (fun c_135 => ?_) (fun c_135 => ?_)
      · have fc_135 := neq_f c_135
        have b_136 : bd 3 1 y_132 := neX fc_135 b_133 kb_2 (by decide)
        exact bd_no b_136 (by decide)
      · have fc_135 := eq_f c_135
        refine lv_aload_n hx hb dX14_place_47 rfl (lv_at hl 2 rfl) ?_
        refine g_getr (K := 219) (C := RX14) (T := TX14) (N := 67) hx hb hts (mc_ inX14) hown hK g ma0_ ka0_ (by decide) rfl 42 (by decide) rfl (hts _ (List.mem_cons_of_mem _ t_2188)) (fun _ h9 => h9) rfl dX14_place_48 (fun a_137 ma_137 ka_137 g => ?_)
        refine lv_bipush (v := 8) hx hb dX14_place_51 (by decide) ?_
        refine lv_aload_n hx hb dX14_place_53 rfl (lv_at hl 2 rfl) ?_
        refine g_getk (C := RX14) (T := TX14) (N := 67) hx hb hts (mc_ inX14) hown hK g rfl 35 (by decide) rfl (hts _ (List.mem_cons_of_mem _ t_2181)) (fun _ h9 => h9) 3 rfl dX14_place_54 ?_
        refine lv_imul hx hb dX14_place_57 ?_
        refine lv_topi (fun y_138 ey_138 => ?_)
        have ty_138 := cmul_bd ey_138 (c := 8) (by decide) bw (by decide)
        have b_139 : bd 0 160 y_138 := mulc_rg ty_138 bw (by decide)
        refine lv_iload_n hx hb dX14_place_58 rfl (lv_at hl 1 rfl) ?_
        refine lv_sipush (v := 1000) hx hb dX14_place_59 (by decide) ?_
        refine lv_irem hx hb dX14_place_62 (by decide) ?_
        refine lv_topi (fun y_140 ey_140 => ?_)
        have b_141 : bd 0 7 y_140 := rem_blk ey_140 b_131 kb_1000 (by decide)
        refine lv_iadd hx hb dX14_place_63 ?_
        refine lv_topi (fun y_142 ey_142 => ?_)
        have ty_142 := add_bd ey_142 b_139 b_141 (by decide)
        have b_143 : bd 0 167 y_142 := add_rg ty_142 b_139 b_141 (by decide)
        refine g_iald hx hb hK g ma_137 ka_137 (by decide) rfl (in_bd b_143 (by decide)) dX14_place_64 (fun x_144 bx_144 cx_144 => ?_)
        subst hQ
        exact W.thenQ (W.iret (v := x_144) hx hb hr (fun t ht hW => g_retE g hK ⟨_, rfl, ⟨hR, s_, ⟨bs, (by have h9_0 := bs; unfold bd at h9_0; have h9_1 := bw; unfold bd at h9_1; have h9_2 := b_1; unfold bd at h9_2; have h9_3 := b_131; unfold bd at h9_3; have h9_4 := b_133; unfold bd at h9_4; have h9_5 := b_139; unfold bd at h9_5; have h9_6 := b_141; unfold bd at h9_6; have h9_7 := b_143; unfold bd at h9_7; have h8_0 := kb_1; unfold bd at h8_0; have h8_1 := kb_1000; unfold bd at h8_1; have h8_2 := kb_2; unfold bd at h8_2; omega)⟩, (g.fcts [3, 4] rfl)⟩⟩ ht hW) g.2.2.1.2.2 dX14_place_65) (fun _ => MQ.toE)
    · have fc_134 := eq_f c_134
      have b_145 : bd 2 1 y_132 := eqX fc_134 b_133 kb_1 (by decide)
      exact bd_no b_145 (by decide)
