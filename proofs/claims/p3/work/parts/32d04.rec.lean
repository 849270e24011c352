set_option maxHeartbeats 4000000 in
set_option maxRecDepth 100000 in
theorem r_X14_assign (N : Nat) (ih : RecN N) (l : Launch) (dC : Nat → ClassId) (dI : Nat → Nat → Nat) (L : List Nat) (kd : Nat → Nat) (tys : List (ClassId × FieldType)) (f0 : Nat → va_E) (sz : Nat) (hWT : WT L kd tys f0) (a0_ : Nat) (ma0_ : a0_ ∈ L) (ka0_ : kd a0_ = 14) (x1_ : Int32) (q0_ : Nat) (mq0_ : q0_ ∈ L) (kq0_ : kd q0_ = 12) (V_ : PV) (δ_ : Nat → Nat) (hW : wfP V_ δ_) (w_ : Int32) (bw : bd 0 20 w_) (s_ : Int32) (bs : bd 0 300 s_) (Z_ : Nat → Int32) (O_ : Nat → Int32) (hV : isV f0 q0_ V_) (hR : RA f0 a0_ w_ Z_ O_) (d_ : Nat) (hcl : cAt V_ (O_ (Z_ w_.toNatClampNeg).toNatClampNeg) d_) (b_ : Nat) (m_ : Nat) (hS : SS V_ δ_ x1_ b_ m_ d_) (ho : (V_.i 34 x1_.toNatClampNeg).toInt = 2) (hN : 47 * (20 - w_.toInt) + 28 ≤ ((N + 1 : Nat) : Int)) (hfx : Fs L kd f0 [(14, 1, a0_, .ref q0_), (14, 35, a0_, .int w_), (14, 34, a0_, .int s_)]) : MetE l yX14_assign (.code yX14_assign cX14_assign 7 none :: lw_g) ({ frames := (N + 1) + 5, cells := 0, slots := 0, locals := 40 * (N + 1) + 300 }) (va_Pc [.ref a0_, .int x1_] (P3 (dC, dI) L tys f0 sz)) (q3E (dC, dI) L kd tys [(14, 31), (14, 32), (14, 33), (14, 34), (14, 35), (14, 39), (14, 40), (14, 45)] [200, 216, 218, 219, 220, 221] f0 sz (pRv (fun (f : Nat → va_E) => (RA f a0_ w_ Z_ O_ ∧ ∃ z1_ : Int32, (bd 0 300 z1_ ∧ s_.toInt ≤ z1_.toInt) ∧ Fs L kd f [(14, 35, a0_, .int w_), (14, 34, a0_, .int z1_)]))) (fun (f : Nat → va_E) => True)) 0 0 (pA L sz) := by
  refine MetE.ofW (cc := cX14_assign) (maxL := 7) (ret := none) (by decide) rfl ?_
  intro p e s m args below meth c s₁ B hml hempty hv
  obtain ⟨rfl, hsz, hP, hK, hD0⟩ := hv
  have hx := B.exec
  have hb := B.bytes
  have hr := B.returns
  have hts := atoms_spec (ws := (.code yX14_assign cX14_assign 7 none :: lw_g)) B.pre
  have hown : s.vm.findClass RX14 = some m.cls := findClass_of_methodNamed B.named
  have hlocks := B.notSynchronized
  subst hsz
  have g : G3 (dC, dI) L kd tys s f0 [(14, 31), (14, 32), (14, 33), (14, 34), (14, 35), (14, 39), (14, 40), (14, 45)] [200, 216, 218, 219, 220, 221] f0 s.heap [] [(14, 1, a0_, .ref q0_), (14, 35, a0_, .int w_), (14, 34, a0_, .int s_)] := G3.start hP hD0 hWT hfx
  have hl := lv_entry ([.ref a0_, .int x1_]) (n := 7) (Nat.le_of_ble_eq_true rfl)
  rw [lg_entry_eq]
  generalize (lg_sl ([.ref a0_, .int x1_]) ++ List.replicate (7 - (lg_sl ([.ref a0_, .int x1_])).length) Slot.unset).toArray = ls at hl ⊢
  have hl : lv_has ls 7 [(0, .ref a0_), (1, .int x1_)] := hl
  refine W_q (fun Q hQ => ?_)
  have b_1 : bd 0 699 x1_ := SS.bd hW hS
  refine lv_aload_n hx hb dX14_assign_0 rfl (lv_at hl 0 rfl) ?_
  refine g_getk (C := RX14) (T := TX14) (N := 67) hx hb hts (mc_ inX14) hown hK g rfl 1 (by decide) rfl (hts _ (List.mem_cons_of_mem _ t_2147)) (fun _ h9 => h9) 0 rfl dX14_assign_1 ?_
  refine g_getr (K := 190) (C := RX12) (T := TX12) (N := 60) hx hb hts (mc_ inX12) hown hK g mq0_ kq0_ (by decide) rfl 35 (by decide) rfl (hts _ (List.mem_cons_of_mem _ t_1975)) (fun _ h9 => h9) rfl dX14_assign_4 (fun a_2 ma_2 ka_2 g => ?_)
  refine lv_iload_n hx hb dX14_assign_7 rfl (lv_at hl 1 rfl) ?_
  refine g_iald hx hb hK g ma_2 ka_2 (by decide) rfl (in_bd b_1 (by decide)) dX14_assign_8 (fun x_3 bx_3 cx_3 => ?_)
  have vx_3 : x_3 = V_.i 35 x1_.toNatClampNeg := hV.at g 0 rfl rfl cx_3
  rcases (ss_asg hW hS ho vx_3) with h_4 | h_4 | h_4
  · have b_5 : bd 0 9 x_3 := ⟨h_4.1, h_4.2.1⟩
    refine lv_istore_n (lv' := [(2, .int x_3), (0, .ref a0_), (1, .int x1_)]) hx hb dX14_assign_9 rfl hl (by decide) rfl (fun ls hl => ?_)
    refine lv_aload_n hx hb dX14_assign_10 rfl (lv_at hl 1 rfl) ?_
    refine g_getk (C := RX14) (T := TX14) (N := 67) hx hb hts (mc_ inX14) hown hK g rfl 1 (by decide) rfl (hts _ (List.mem_cons_of_mem _ t_2147)) (fun _ h9 => h9) 1 rfl dX14_assign_11 ?_
    refine g_getr (K := 192) (C := RX12) (T := TX12) (N := 60) hx hb hts (mc_ inX12) hown hK g mq0_ kq0_ (by decide) rfl 37 (by decide) rfl (hts _ (List.mem_cons_of_mem _ t_1979)) (fun _ h9 => h9) rfl dX14_assign_14 (fun a_6 ma_6 ka_6 g => ?_)
    refine lv_iload_n hx hb dX14_assign_17 rfl (lv_at hl 2 rfl) ?_
    refine g_iald hx hb hK g ma_6 ka_6 (by decide) rfl (in_bd b_1 (by decide)) dX14_assign_18 (fun x_7 bx_7 cx_7 => ?_)
    have vx_7 : x_7 = V_.i 37 x1_.toNatClampNeg := hV.at g 0 rfl rfl cx_7
    refine lv_iconst (v := (-1)) hx hb dX14_assign_19 (by decide) ?_
    have kb_m1 : bd (-1) (-1) ((-1) : Int32) := ⟨by decide, by decide⟩
    refine lv_icmp_ne (tgt := 27) hx hb dX14_assign_20 (by decide) (fun c_8 => ?_) (fun c_8 => ?_)
    · have fc_8 := neq_f c_8
      refine lv_aload_n hx hb dX14_assign_27 rfl (lv_at hl 1 rfl) ?_
      refine lv_aload_n hx hb dX14_assign_28 rfl (lv_at hl 1 rfl) ?_
      refine g_getk (C := RX14) (T := TX14) (N := 67) hx hb hts (mc_ inX14) hown hK g rfl 1 (by decide) rfl (hts _ (List.mem_cons_of_mem _ t_2147)) (fun _ h9 => h9) 2 rfl dX14_assign_29 ?_
      refine g_getk (C := RX12) (T := TX12) (N := 60) hx hb hts (mc_ inX12) hown hK g rfl 37 (by decide) rfl (hts _ (List.mem_cons_of_mem _ t_1979)) (fun _ h9 => h9) 0 rfl dX14_assign_32 ?_
      refine lv_iload_n hx hb dX14_assign_35 rfl (lv_at hl 2 rfl) ?_
      refine g_iald hx hb hK g ma_6 ka_6 (by decide) rfl (in_bd b_1 (by decide)) dX14_assign_36 (fun x_9 bx_9 cx_9 => ?_)
      obtain rfl : x_7 = x_9 := el_same cx_7 cx_9 rfl
      have go_ := g
      refine g_callEi (As := [.int x_7]) (rest := []) ⟨hx, hb, hml, hown, hts⟩ (ih.1 l dC dI L kd tys f0 s.heap.size g.2.2.2.1 a0_ ma0_ ka0_ x_7 q0_ mq0_ kq0_ V_ δ_ hW w_ bw s_ bs Z_ O_ hV hR d_ hcl 13 (ss_idx hW hS ho vx_7 fc_8) (by have hN9 := hN; have bw9 := bw; unfold bd at bw9; omega) (g.fcts [2, 3, 4] rfl)) (cwV 1 hts (gV_ t_2634 t_2636 t_146 t_198 t_2637) rfl rfl rfl (by decide +kernel) ⟨(show N + 5 + 1 ≤ N + 1 + 5 by omega), (show 8 + (5 + 11) + (40 * N + 300) ≤ 40 * (N + 1) + 300 by omega)⟩) (pre3V g hK ma0_ ka0_ (by decide) (q := (RX14, TX14, 67)) rfl) rfl hl.1 rfl (lv_room (Nat.le_of_ble_eq_true rfl)) dX14_assign_37 ⟨(Nat.le_of_ble_eq_true rfl), (Nat.le_of_ble_eq_true rfl)⟩ g hK (by decide) (by decide) (fx' := [(12, 37, q0_, .ref a_6), (12, 35, q0_, .ref a_2), (14, 1, a0_, .ref q0_)]) rfl (fun xr_10 fr_10 H locs mxr_10 kxr_10 hp hMr_10 g => ?_) (fun r_10 fr_10 H locs hp hMr_10 g => ?_)
      · have hG_11 := isV.frame hMr_10 go_.2.2.2.1 mq0_ kq0_ (by decide) (by decide) hV
        subst hQ
        exact WX.leaves hempty hlocks (fun t ht hW => g_thrE g hK mxr_10 kxr_10 trivial ht hW) g.2.2.1.2.2
      · obtain ⟨hG_12, x_13, ⟨h_14, rh_14⟩, hF_15⟩ := hp
        have hG_16 := isV.frame hMr_10 go_.2.2.2.1 mq0_ kq0_ (by decide) (by decide) hV
        have g := g.more hF_15
        refine lv_istore_n (lv' := [(3, .int r_10), (2, .int x_3), (0, .ref a0_), (1, .int x1_)]) hx hb dX14_assign_40 rfl hl (by decide) rfl (fun ls hl => ?_)
        refine lv_iload_n hx hb dX14_assign_41 rfl (lv_at hl 1 rfl) ?_
        refine lv_sipush (v := 1000) hx hb dX14_assign_42 (by decide) ?_
        have kb_1000 : bd 1000 1000 (1000 : Int32) := ⟨by decide, by decide⟩
        refine lv_idiv hx hb dX14_assign_45 (by decide) ?_
        refine lv_topi (fun y_17 ey_17 => ?_)
        have b_18 : bd 0 0 y_17 := div_rg ey_17 b_5 kb_1000 (by decide)
        refine lv_istore (lv' := [(4, .int y_17), (3, .int r_10), (2, .int x_3), (0, .ref a0_), (1, .int x1_)]) hx hb dX14_assign_46 hl (by decide) rfl (fun ls hl => ?_)
        refine lv_aload_n hx hb dX14_assign_48 rfl (lv_at hl 3 rfl) ?_
        have go_ := g
        refine g_calli (va_runV (As := []) (rest := []) ⟨hx, hb, hml, hown, hts⟩ (r_X14_classHereN l dC dI L kd tys fr_10 H.size g.2.2.2.1 a0_ ma0_ ka0_ w_ bw Z_ O_ hG_12 (g.fcts [0] rfl)) (cwV 0 hts (gV_ t_2642 t_2644 t_148 t_198 t_2645) rfl rfl rfl (by decide +kernel) ⟨(show 0 + 1 ≤ N + 1 + 5 by omega), (show 8 + (1 + 11) + 0 ≤ 40 * (N + 1) + 300 by omega)⟩) (pre3V g hK ma0_ ka0_ (by decide) (q := (RX14, TX14, 67)) rfl) rfl rfl hl.1 rfl (lv_room (Nat.le_of_ble_eq_true rfl)) dX14_assign_49 ⟨(Nat.le_of_ble_eq_true rfl), (Nat.le_of_ble_eq_true rfl)⟩) g hK (by decide) (by decide) (fx' := [(14, 35, a0_, .int w_), (14, 34, a0_, .int x_13), (12, 37, q0_, .ref a_6), (12, 35, q0_, .ref a_2), (14, 1, a0_, .ref q0_)]) rfl (fun r_19 fr_19 H locs hp hMr_19 g => ?_)
        obtain ⟨hx_20, h_21, -⟩ := hp
        have hG_22 := isV.frame hMr_19 go_.2.2.2.1 mq0_ kq0_ (by decide) (by decide) hG_16
        have hG_23 := RA.frame hMr_19 go_.2.2.2.1 ma0_ ka0_ (by decide) (by decide) hG_12
        have hcA_24 : cAt V_ r_19 d_ := by rw [hx_20]; exact hcl
        have b_25 : bd 0 7 r_19 := ⟨hcA_24.1, h_21.2⟩
        refine lv_istore (lv' := [(5, .int r_19), (4, .int y_17), (3, .int r_10), (2, .int x_3), (0, .ref a0_), (1, .int x1_)]) hx hb dX14_assign_52 hl (by decide) rfl (fun ls hl => ?_)
        refine lv_iload hx hb dX14_assign_54 (lv_at hl 1 rfl) ?_
        have kb_0 : bd 0 0 (0 : Int32) := ⟨by decide, by decide⟩
        refine lv_if_ne (tgt := 107) hx hb dX14_assign_56 (by decide) (fun c_26 => ?_) (fun c_26 => ?_)
        · have fc_26 := neq_f c_26
          have b_27 : bd 1 (-1) y_17 := neX fc_26 b_18 kb_0 (by decide)
          exact bd_no b_27 (by decide)
        · have fc_26 := eq_f c_26
          refine lv_aload_n hx hb dX14_assign_59 rfl (lv_at hl 4 rfl) ?_
          refine g_getk (C := RX14) (T := TX14) (N := 67) hx hb hts (mc_ inX14) hown hK g rfl 1 (by decide) rfl (hts _ (List.mem_cons_of_mem _ t_2147)) (fun _ h9 => h9) 4 rfl dX14_assign_60 ?_
          refine g_getk (C := RX12) (T := TX12) (N := 60) hx hb hts (mc_ inX12) hown hK g rfl 37 (by decide) rfl (hts _ (List.mem_cons_of_mem _ t_1979)) (fun _ h9 => h9) 2 rfl dX14_assign_63 ?_
          refine lv_iload_n hx hb dX14_assign_66 rfl (lv_at hl 5 rfl) ?_
          refine g_iald hx hb hK g ma_6 ka_6 (by decide) rfl (in_bd b_1 (by decide)) dX14_assign_67 (fun x_28 bx_28 cx_28 => ?_)
          obtain rfl : x_7 = x_28 := el_same cx_7 cx_28 ((arr_eq hMr_19 ma_6 ka_6 (by decide) rfl).trans (arr_eq hMr_10 ma_6 ka_6 (by decide) rfl))
          refine lv_iconst (v := (-1)) hx hb dX14_assign_68 (by decide) ?_
          refine lv_icmp_eq (tgt := 107) hx hb dX14_assign_69 (by decide) (fun c_29 => ?_) (fun c_29 => ?_)
          · have fc_29 := eq_f c_29
            exact absurd fc_29 fc_8
          · have fc_29 := neq_f c_29
            refine lv_iload_n hx hb dX14_assign_72 rfl (lv_at hl 2 rfl) ?_
            refine lv_i2l hx hb dX14_assign_73 rfl ?_
            refine lv_topl (fun y_30 ey_30 => ?_)
            refine lv_lconst (v := 0) hx hb dX14_assign_74 (by decide) ?_
            refine lv_aload_n hx hb dX14_assign_75 rfl (lv_at hl 4 rfl) ?_
            refine g_getk (C := RX14) (T := TX14) (N := 67) hx hb hts (mc_ inX14) hown hK g rfl 1 (by decide) rfl (hts _ (List.mem_cons_of_mem _ t_2147)) (fun _ h9 => h9) 4 rfl dX14_assign_76 ?_
            refine g_getr (K := 164) (C := RX12) (T := TX12) (N := 60) hx hb hts (mc_ inX12) hown hK g mq0_ kq0_ (by decide) rfl 8 (by decide) rfl (hts _ (List.mem_cons_of_mem _ t_1922)) (fun _ h9 => h9) rfl dX14_assign_79 (fun a_31 ma_31 ka_31 g => ?_)
            refine lv_bipush (v := 10) hx hb dX14_assign_82 (by decide) ?_
            refine lv_iload hx hb dX14_assign_84 (lv_at hl 0 rfl) ?_
            refine lv_imul hx hb dX14_assign_86 ?_
            refine lv_topi (fun y_32 ey_32 => ?_)
            have ty_32 := cmul_bd ey_32 (c := 10) (by decide) b_25 (by decide)
            have b_33 : bd 0 70 y_32 := mulc_rg ty_32 b_25 (by decide)
            refine lv_iload_n hx hb dX14_assign_87 rfl (lv_at hl 3 rfl) ?_
            refine lv_iadd hx hb dX14_assign_88 ?_
            refine lv_topi (fun y_34 ey_34 => ?_)
            have ty_34 := add_bd ey_34 b_33 b_5 (by decide)
            have b_35 : bd 0 79 y_34 := add_rg ty_34 b_33 b_5 (by decide)
            refine g_iald hx hb hK g ma_31 ka_31 (by decide) rfl (in_bd b_35 (by decide)) dX14_assign_89 (fun x_36 bx_36 cx_36 => ?_)
            have vx_36 : x_36 = V_.i 8 y_34.toNatClampNeg := hG_22.at g 0 rfl rfl cx_36
            refine lv_iconst (v := 1) hx hb dX14_assign_90 (by decide) ?_
            have kb_1 : bd 1 1 (1 : Int32) := ⟨by decide, by decide⟩
            refine lv_isub hx hb dX14_assign_91 ?_
            refine lv_topi (fun y_37 ey_37 => ?_)
            have ty_37 := sub_bd ey_37 bx_36 kb_1 (by decide)
            have b_38 : bd (-1) 7 y_37 := sub_rg ty_37 bx_36 kb_1 (by decide)
            refine lv_i2l hx hb dX14_assign_92 rfl ?_
            refine lv_topl (fun y_39 ey_39 => ?_)
            have go_ := g
            refine g_calli (va_runS (As := [.long y_30, .long 0, .long y_39]) (rest := []) ⟨hx, hb, hml, hown, hts⟩ (r_X14_in l dC dI L kd tys fr_19 H.size g.2.2.2.1 y_30 0 y_39) (va_cwS 3 hts (gS_ t_2448 t_2449 t_198 t_2450) rfl rfl rfl (by decide +kernel) ⟨(show 0 + 1 ≤ N + 1 + 5 by omega), (show 8 + (6 + 11) + 0 ≤ 40 * (N + 1) + 300 by omega)⟩) (pre3S g hK) rfl rfl hl.1 rfl (lv_room (Nat.le_of_ble_eq_true rfl)) dX14_assign_93 ⟨(Nat.le_of_ble_eq_true rfl), (Nat.le_of_ble_eq_true rfl)⟩) g hK (by decide) (by decide) (fx' := [(12, 8, q0_, .ref a_31), (14, 35, a0_, .int w_), (14, 34, a0_, .int x_13), (12, 37, q0_, .ref a_6), (12, 35, q0_, .ref a_2), (14, 1, a0_, .ref q0_)]) rfl (fun r_40 fr_40 H locs hp hMr_40 g => ?_)
            rcases hp with ⟨hx_41, h_42, -⟩ | ⟨h_43, h_44, -⟩
            · have hG_45 := isV.frame hMr_40 go_.2.2.2.1 mq0_ kq0_ (by decide) (by decide) hG_22
              have hG_46 := RA.frame hMr_40 go_.2.2.2.1 ma0_ ka0_ (by decide) (by decide) hG_23
              obtain rfl : r_40 = 0 := h_42
              refine lv_if_ne (tgt := 107) hx hb dX14_assign_96 (by decide) (fun c_ => absurd c_ (by decide)) (fun c_ => ?_)
              refine lv_aload_n hx hb dX14_assign_99 rfl (lv_at hl 4 rfl) ?_
              refine lv_ldc2 (v := 452823639416) hx hb hown (hts _ (List.mem_cons_of_mem _ t_2646)) dX14_assign_100 ?_
              refine lv_lconst (v := 0) hx hb dX14_assign_103 (by decide) ?_
              have go_ := g
              refine g_callEv (As := [.long 452823639416, .long 0]) (rest := []) ⟨hx, hb, hml, hown, hts⟩ (r_X14_throwsWord l dC dI L kd tys fr_40 H.size g.2.2.2.1 a0_ ma0_ ka0_ 452823639416 0) (cwV 2 hts (gV_ t_2647 t_2649 t_149 t_198 t_2650) rfl rfl rfl (by decide +kernel) ⟨(show 1 + 1 ≤ N + 1 + 5 by omega), (show 8 + (5 + 11) + 21 ≤ 40 * (N + 1) + 300 by omega)⟩) (pre3V g hK ma0_ ka0_ (by decide) (q := (RX14, TX14, 67)) rfl) rfl hl.1 rfl (lv_room (Nat.le_of_ble_eq_true rfl)) dX14_assign_104 ⟨(Nat.le_of_ble_eq_true rfl), (Nat.le_of_ble_eq_true rfl)⟩ g hK (by decide) (by decide) (fx' := [(12, 8, q0_, .ref a_31), (14, 35, a0_, .int w_), (14, 34, a0_, .int x_13), (12, 37, q0_, .ref a_6), (12, 35, q0_, .ref a_2), (14, 1, a0_, .ref q0_)]) rfl (fun xr_47 fr_47 H locs mxr_47 kxr_47 hp hMr_47 g => ?_) (fun fr_47 H locs hp hMr_47 g => ?_)
              · have hG_48 := isV.frame hMr_47 go_.2.2.2.1 mq0_ kq0_ (by decide) (by decide) hG_45
                have hG_49 := RA.frame hMr_47 go_.2.2.2.1 ma0_ ka0_ (by decide) (by decide) hG_46
                subst hQ
                exact WX.leaves hempty hlocks (fun t ht hW => g_thrE g hK mxr_47 kxr_47 trivial ht hW) g.2.2.1.2.2
              · exact hp.elim
            · have hG_50 := isV.frame hMr_40 go_.2.2.2.1 mq0_ kq0_ (by decide) (by decide) hG_22
              have hG_51 := RA.frame hMr_40 go_.2.2.2.1 ma0_ ka0_ (by decide) (by decide) hG_23
              obtain rfl : r_40 = 1 := h_43
              have f_52 : (0 : Int32).toInt ≤ r_10.toInt := in_le h_44.1 (in_k (k := 0) (by decide) (by decide)) (in_v ey_30)
              have f_53 : r_10.toInt ≤ y_37.toInt := in_le h_44.2 (in_v ey_30) (in_v ey_39)
              have b_54 : bd 0 2147483647 r_10 := leR f_52 kb_0 (bdT r_10) (by decide)
              have b_55 : bd 0 7 r_10 := leL f_53 b_54 b_38 (by decide)
              have b_56 : bd 0 7 y_37 := leR f_53 b_54 b_38 (by decide)
              have b_57 : bd 1 8 x_36 := sub_inv ty_37 b_56 bx_36 kb_1 (by decide)
              refine lv_if_ne (tgt := 107) hx hb dX14_assign_96 (by decide) (fun c_ => ?_) (fun c_ => absurd c_ (by decide))
              refine lv_aload_n hx hb dX14_assign_107 rfl (lv_at hl 4 rfl) ?_
              refine lv_aload_n hx hb dX14_assign_108 rfl (lv_at hl 4 rfl) ?_
              refine g_getk (C := RX14) (T := TX14) (N := 67) hx hb hts (mc_ inX14) hown hK g rfl 1 (by decide) rfl (hts _ (List.mem_cons_of_mem _ t_2147)) (fun _ h9 => h9) 5 rfl dX14_assign_109 ?_
              refine g_getr (K := 193) (C := RX12) (T := TX12) (N := 60) hx hb hts (mc_ inX12) hown hK g mq0_ kq0_ (by decide) rfl 38 (by decide) rfl (hts _ (List.mem_cons_of_mem _ t_1981)) (fun _ h9 => h9) rfl dX14_assign_112 (fun a_58 ma_58 ka_58 g => ?_)
              refine lv_iload_n hx hb dX14_assign_115 rfl (lv_at hl 5 rfl) ?_
              refine g_iald hx hb hK g ma_58 ka_58 (by decide) rfl (in_bd b_1 (by decide)) dX14_assign_116 (fun x_59 bx_59 cx_59 => ?_)
              have vx_59 : x_59 = V_.i 38 x1_.toNatClampNeg := hG_50.at g 0 rfl rfl cx_59
              have go_ := g
              refine g_callEi (As := [.int x_59]) (rest := []) ⟨hx, hb, hml, hown, hts⟩ (ih.1 l dC dI L kd tys fr_40 H.size g.2.2.2.1 a0_ ma0_ ka0_ x_59 q0_ mq0_ kq0_ V_ δ_ hW w_ bw x_13 h_14 Z_ O_ hG_50 hG_51 d_ hcl 13 (ss_ex hW hS (by omega) vx_59) (by have hN9 := hN; have bw9 := bw; unfold bd at bw9; omega) (g.fcts [6, 2, 3] rfl)) (cwV 1 hts (gV_ t_2634 t_2636 t_146 t_198 t_2637) rfl rfl rfl (by decide +kernel) ⟨(show N + 5 + 1 ≤ N + 1 + 5 by omega), (show 8 + (5 + 11) + (40 * N + 300) ≤ 40 * (N + 1) + 300 by omega)⟩) (pre3V g hK ma0_ ka0_ (by decide) (q := (RX14, TX14, 67)) rfl) rfl hl.1 rfl (lv_room (Nat.le_of_ble_eq_true rfl)) dX14_assign_117 ⟨(Nat.le_of_ble_eq_true rfl), (Nat.le_of_ble_eq_true rfl)⟩ g hK (by decide) (by decide) (fx' := [(12, 38, q0_, .ref a_58), (12, 8, q0_, .ref a_31), (12, 37, q0_, .ref a_6), (12, 35, q0_, .ref a_2), (14, 1, a0_, .ref q0_)]) rfl (fun xr_60 fr_60 H locs mxr_60 kxr_60 hp hMr_60 g => ?_) (fun r_60 fr_60 H locs hp hMr_60 g => ?_)
              · have hG_61 := isV.frame hMr_60 go_.2.2.2.1 mq0_ kq0_ (by decide) (by decide) hG_50
                subst hQ
                exact WX.leaves hempty hlocks (fun t ht hW => g_thrE g hK mxr_60 kxr_60 trivial ht hW) g.2.2.1.2.2
              · obtain ⟨hG_62, x_63, ⟨h_64, rh_64⟩, hF_65⟩ := hp
                have hG_66 := isV.frame hMr_60 go_.2.2.2.1 mq0_ kq0_ (by decide) (by decide) hG_50
                have g := g.more hF_65
                refine lv_istore (lv' := [(6, .int r_60), (5, .int r_19), (4, .int y_17), (3, .int r_10), (2, .int x_3), (0, .ref a0_), (1, .int x1_)]) hx hb dX14_assign_120 hl (by decide) rfl (fun ls hl => ?_)
                refine lv_iload hx hb dX14_assign_122 (lv_at hl 2 rfl) ?_
                refine lv_iconst (v := 1) hx hb dX14_assign_124 (by decide) ?_
                refine lv_icmp_ne (tgt := 150) hx hb dX14_assign_125 (by decide) (fun c_67 => ?_) (fun c_67 => ?_)
                · have fc_67 := neq_f c_67
                  refine lv_iload hx hb dX14_assign_150 (lv_at hl 2 rfl) ?_
                  refine lv_iconst (v := 2) hx hb dX14_assign_152 (by decide) ?_
                  have kb_2 : bd 2 2 (2 : Int32) := ⟨by decide, by decide⟩
                  refine lv_icmp_ne (tgt := 179) hx hb dX14_assign_153 (by decide) (fun c_68 => ?_) (fun c_68 => ?_)
                  · have fc_68 := neq_f c_68
                    refine lv_aload_n hx hb dX14_assign_179 rfl (lv_at hl 5 rfl) ?_
                    refine g_geti (C := RX14) (T := TX14) (N := 67) hx hb hts (mc_ inX14) hown hK g ma0_ ka0_ (by decide) rfl 36 (by decide) rfl (hts _ (List.mem_cons_of_mem _ t_2182)) (fun _ h9 => h9) rfl dX14_assign_180 (fun x_69 bx_69 g => ?_)
                    refine lv_if_eq (tgt := 191) hx hb dX14_assign_183 (by decide) (fun c_70 => ?_) (fun c_70 => ?_)
                    · have fc_70 := eq_f c_70
                      have b_71 : bd 0 0 x_69 := eqX fc_70 bx_69 kb_0 (by decide)
                      refine lv_aload_n hx hb dX14_assign_191 rfl (lv_at hl 5 rfl) ?_
                      refine g_getr (K := 216) (C := RX14) (T := TX14) (N := 67) hx hb hts (mc_ inX14) hown hK g ma0_ ka0_ (by decide) rfl 28 (by decide) rfl (hts _ (List.mem_cons_of_mem _ t_2174)) (fun _ h9 => h9) rfl dX14_assign_192 (fun a_72 ma_72 ka_72 g => ?_)
                      refine lv_bipush (v := 24) hx hb dX14_assign_195 (by decide) ?_
                      refine lv_aload_n hx hb dX14_assign_197 rfl (lv_at hl 5 rfl) ?_
                      refine g_getr (K := 220) (C := RX14) (T := TX14) (N := 67) hx hb hts (mc_ inX14) hown hK g ma0_ ka0_ (by decide) rfl 43 (by decide) rfl (hts _ (List.mem_cons_of_mem _ t_2189)) (fun _ h9 => h9) rfl dX14_assign_198 (fun a_73 ma_73 ka_73 g => ?_)
                      refine lv_aload_n hx hb dX14_assign_201 rfl (lv_at hl 5 rfl) ?_
                      refine g_getk (C := RX14) (T := TX14) (N := 67) hx hb hts (mc_ inX14) hown hK g rfl 35 (by decide) rfl (hts _ (List.mem_cons_of_mem _ t_2181)) (fun _ h9 => h9) 3 rfl dX14_assign_202 ?_
                      refine g_iald hx hb hK g ma_73 ka_73 (by decide) rfl (in_bd bw (by decide)) dX14_assign_205 (fun x_74 bx_74 cx_74 => ?_)
                      have vx_74 := hG_62.self g 0 rfl cx_74
                      refine lv_imul hx hb dX14_assign_206 ?_
                      refine lv_topi (fun y_75 ey_75 => ?_)
                      have ty_75 := cmul_bd ey_75 (c := 24) (by decide) bx_74 (by decide)
                      have b_76 : bd 0 120 y_75 := mulc_rg ty_75 bx_74 (by decide)
                      refine lv_aload_n hx hb dX14_assign_207 rfl (lv_at hl 5 rfl) ?_
                      refine g_getk (C := RX14) (T := TX14) (N := 67) hx hb hts (mc_ inX14) hown hK g rfl 1 (by decide) rfl (hts _ (List.mem_cons_of_mem _ t_2147)) (fun _ h9 => h9) 9 rfl dX14_assign_208 ?_
                      refine g_getr (K := 165) (C := RX12) (T := TX12) (N := 60) hx hb hts (mc_ inX12) hown hK g mq0_ kq0_ (by decide) rfl 9 (by decide) rfl (hts _ (List.mem_cons_of_mem _ t_1924)) (fun _ h9 => h9) rfl dX14_assign_211 (fun a_77 ma_77 ka_77 g => ?_)
                      refine lv_bipush (v := 10) hx hb dX14_assign_214 (by decide) ?_
                      refine lv_iload hx hb dX14_assign_216 (lv_at hl 1 rfl) ?_
                      refine lv_imul hx hb dX14_assign_218 ?_
                      refine lv_topi (fun y_78 ey_78 => ?_)
                      obtain rfl : y_32 = y_78 := ey_32.trans ey_78.symm
                      refine lv_iload_n hx hb dX14_assign_219 rfl (lv_at hl 4 rfl) ?_
                      refine lv_iadd hx hb dX14_assign_220 ?_
                      refine lv_topi (fun y_79 ey_79 => ?_)
                      obtain rfl : y_34 = y_79 := ey_34.trans ey_79.symm
                      refine g_iald hx hb hK g ma_77 ka_77 (by decide) rfl (in_bd b_35 (by decide)) dX14_assign_221 (fun x_80 bx_80 cx_80 => ?_)
                      have vx_80 : x_80 = V_.i 9 y_34.toNatClampNeg := hG_66.at g 0 rfl rfl cx_80
                      have hf_81 := fld_ok hW hcA_24 h_4 (by have h9_0 := b_55; unfold bd at h9_0; have h9_1 := b_25; unfold bd at h9_1; have h9_2 := bs; unfold bd at h9_2; have h9_3 := bw; unfold bd at h9_3; have h9_4 := b_1; unfold bd at h9_4; have h9_5 := h_14; unfold bd at h9_5; have h9_6 := b_5; unfold bd at h9_6; have h9_7 := b_57; unfold bd at h9_7; have h9_8 := h_64; unfold bd at h9_8; have h9_9 := b_71; unfold bd at h9_9; have h9_10 := bx_74; unfold bd at h9_10; have h9_11 := bx_80; unfold bd at h9_11; have h9_12 := b_18; unfold bd at h9_12; have h9_13 := b_33; unfold bd at h9_13; have h9_14 := b_35; unfold bd at h9_14; have h9_15 := b_56; unfold bd at h9_15; have h9_16 := b_76; unfold bd at h9_16; have h8_0 := kb_0; unfold bd at h8_0; have h8_1 := kb_1; unfold bd at h8_1; have h8_2 := kb_1000; unfold bd at h8_2; have h8_3 := kb_2; unfold bd at h8_3; have h8_4 := kb_m1; unfold bd at h8_4; omega : y_34.toInt = 10 * r_19.toInt + x_3.toInt) vx_80 vx_36
                      have b_82 : bd 0 23 x_80 := ⟨bx_80.1, hf_81.1⟩
                      refine lv_iadd hx hb dX14_assign_222 ?_
                      refine lv_topi (fun y_83 ey_83 => ?_)
                      have ty_83 := add_bd ey_83 b_76 b_82 (by decide)
                      have b_84 : bd 0 143 y_83 := add_rg ty_83 b_76 b_82 (by decide)
                      refine lv_iload_n hx hb dX14_assign_223 rfl (lv_at hl 3 rfl) ?_
                      refine lv_iadd hx hb dX14_assign_224 ?_
                      refine lv_topi (fun y_85 ey_85 => ?_)
                      have ty_85 := add_bd ey_85 b_84 b_55 (by decide)
                      have b_86 : bd 0 150 y_85 := add_rg ty_85 b_84 b_55 (by decide)
                      refine lv_iload hx hb dX14_assign_225 (lv_at hl 0 rfl) ?_
                      have go_ := g
                      refine g_iast hx hb hK g ma_72 ka_72 (by decide) rfl (in_ok (by have h9_0 := b_55; unfold bd at h9_0; have h9_1 := b_25; unfold bd at h9_1; have h9_2 := bs; unfold bd at h9_2; have h9_3 := bw; unfold bd at h9_3; have h9_4 := b_1; unfold bd at h9_4; have h9_5 := h_14; unfold bd at h9_5; have h9_6 := b_5; unfold bd at h9_6; have h9_7 := b_57; unfold bd at h9_7; have h9_8 := h_64; unfold bd at h9_8; have h9_9 := b_71; unfold bd at h9_9; have h9_10 := bx_74; unfold bd at h9_10; have h9_11 := b_82; unfold bd at h9_11; have h9_12 := b_18; unfold bd at h9_12; have h9_13 := b_33; unfold bd at h9_13; have h9_14 := b_35; unfold bd at h9_14; have h9_15 := b_56; unfold bd at h9_15; have h9_16 := b_76; unfold bd at h9_16; have h9_17 := b_84; unfold bd at h9_17; have h9_18 := b_86; unfold bd at h9_18; have h8_0 := kb_0; unfold bd at h8_0; have h8_1 := kb_1; unfold bd at h8_1; have h8_2 := kb_1000; unfold bd at h8_2; have h8_3 := kb_2; unfold bd at h8_3; have h8_4 := kb_m1; unfold bd at h8_4; omega) (by have h9_0 := b_55; unfold bd at h9_0; have h9_1 := b_25; unfold bd at h9_1; have h9_2 := bs; unfold bd at h9_2; have h9_3 := bw; unfold bd at h9_3; have h9_4 := b_1; unfold bd at h9_4; have h9_5 := h_14; unfold bd at h9_5; have h9_6 := b_5; unfold bd at h9_6; have h9_7 := b_57; unfold bd at h9_7; have h9_8 := h_64; unfold bd at h9_8; have h9_9 := b_71; unfold bd at h9_9; have h9_10 := bx_74; unfold bd at h9_10; have h9_11 := b_82; unfold bd at h9_11; have h9_12 := b_18; unfold bd at h9_12; have h9_13 := b_33; unfold bd at h9_13; have h9_14 := b_35; unfold bd at h9_14; have h9_15 := b_56; unfold bd at h9_15; have h9_16 := b_76; unfold bd at h9_16; have h9_17 := b_84; unfold bd at h9_17; have h9_18 := b_86; unfold bd at h9_18; have h8_0 := kb_0; unfold bd at h8_0; have h8_1 := kb_1; unfold bd at h8_1; have h8_2 := kb_1000; unfold bd at h8_2; have h8_3 := kb_2; unfold bd at h8_3; have h8_4 := kb_m1; unfold bd at h8_4; omega)) (bdT r_60) (by decide) dX14_assign_227 (fun f H locs hM_87 g => ?_)
                      have hG_88 := isV.frame hM_87 go_.2.2.2.1 mq0_ kq0_ (by decide) (by decide) hG_66
                      have hG_89 := RA.frame hM_87 go_.2.2.2.1 ma0_ ka0_ (by decide) (by decide) hG_62
                      subst hQ
                      exact W.thenQ (W.vret hx hb hr (fun t ht hW => g_retE g hK ⟨rfl, ⟨hG_89, x_63, ⟨h_64, (by have h9_0 := b_55; unfold bd at h9_0; have h9_1 := b_25; unfold bd at h9_1; have h9_2 := bs; unfold bd at h9_2; have h9_3 := bw; unfold bd at h9_3; have h9_4 := b_1; unfold bd at h9_4; have h9_5 := h_14; unfold bd at h9_5; have h9_6 := b_5; unfold bd at h9_6; have h9_7 := b_57; unfold bd at h9_7; have h9_8 := h_64; unfold bd at h9_8; have h9_9 := b_71; unfold bd at h9_9; have h9_10 := bx_74; unfold bd at h9_10; have h9_11 := b_82; unfold bd at h9_11; have h9_12 := b_18; unfold bd at h9_12; have h9_13 := b_33; unfold bd at h9_13; have h9_14 := b_35; unfold bd at h9_14; have h9_15 := b_56; unfold bd at h9_15; have h9_16 := b_76; unfold bd at h9_16; have h9_17 := b_84; unfold bd at h9_17; have h9_18 := b_86; unfold bd at h9_18; have h8_0 := kb_0; unfold bd at h8_0; have h8_1 := kb_1; unfold bd at h8_1; have h8_2 := kb_1000; unfold bd at h8_2; have h8_3 := kb_2; unfold bd at h8_3; have h8_4 := kb_m1; unfold bd at h8_4; omega)⟩, (g.fcts [4, 5] rfl)⟩⟩ ht hW) g.2.2.1.2.2 dX14_assign_228) (fun _ => MQ.toE)
                    · have fc_70 := neq_f c_70
                      have b_90 : bd 1 1 x_69 := neX fc_70 bx_69 kb_0 (by decide)
                      refine lv_aload_n hx hb dX14_assign_186 rfl (lv_at hl 5 rfl) ?_
                      refine lv_iconst (v := 3) hx hb dX14_assign_187 (by decide) ?_
                      have go_ := g
                      refine g_callEv (As := [.int 3]) (rest := []) ⟨hx, hb, hml, hown, hts⟩ (r_X14_ends l dC dI L kd tys fr_60 H.size g.2.2.2.1 a0_ ma0_ ka0_ 3) (cwV 1 hts (gV_ t_2651 t_2653 t_150 t_198 t_2654) rfl rfl rfl (by decide +kernel) ⟨(show 0 + 1 ≤ N + 1 + 5 by omega), (show 8 + (2 + 11) + 0 ≤ 40 * (N + 1) + 300 by omega)⟩) (pre3V g hK ma0_ ka0_ (by decide) (q := (RX14, TX14, 67)) rfl) rfl hl.1 rfl (lv_room (Nat.le_of_ble_eq_true rfl)) dX14_assign_188 ⟨(Nat.le_of_ble_eq_true rfl), (Nat.le_of_ble_eq_true rfl)⟩ g hK (by decide) (by decide) (fx' := [(14, 36, a0_, .int x_69), (14, 35, a0_, .int w_), (14, 34, a0_, .int x_63), (12, 38, q0_, .ref a_58), (12, 8, q0_, .ref a_31), (12, 37, q0_, .ref a_6), (12, 35, q0_, .ref a_2), (14, 1, a0_, .ref q0_)]) rfl (fun xr_91 fr_91 H locs mxr_91 kxr_91 hp hMr_91 g => ?_) (fun fr_91 H locs hp hMr_91 g => ?_)
                      · have hG_92 := isV.frame hMr_91 go_.2.2.2.1 mq0_ kq0_ (by decide) (by decide) hG_66
                        have hG_93 := RA.frame hMr_91 go_.2.2.2.1 ma0_ ka0_ (by decide) (by decide) hG_62
                        subst hQ
                        exact WX.leaves hempty hlocks (fun t ht hW => g_thrE g hK mxr_91 kxr_91 trivial ht hW) g.2.2.1.2.2
                      · exact hp.elim
                  · have fc_68 := eq_f c_68
                    have b_94 : bd 2 0 y_17 := eqX fc_68 b_18 kb_2 (by decide)
                    exact bd_no b_94 (by decide)
                · have fc_67 := eq_f c_67
                  have b_95 : bd 1 0 y_17 := eqX fc_67 b_18 kb_1 (by decide)
                  exact bd_no b_95 (by decide)
    · have fc_8 := eq_f c_8
      have b_96 : bd (-1) (-1) x_7 := eqX fc_8 (bdT x_7) kb_m1 (by decide)
      refine lv_iconst (v := 0) hx hb dX14_assign_23 (by decide) ?_
      refine lv_goto (tgt := 40) hx hb dX14_assign_24 (by decide) ?_
      refine lv_istore_n (lv' := [(3, .int 0), (2, .int x_3), (0, .ref a0_), (1, .int x1_)]) hx hb dX14_assign_40 rfl hl (by decide) rfl (fun ls hl => ?_)
      refine lv_iload_n hx hb dX14_assign_41 rfl (lv_at hl 1 rfl) ?_
      refine lv_sipush (v := 1000) hx hb dX14_assign_42 (by decide) ?_
      have kb_1000 : bd 1000 1000 (1000 : Int32) := ⟨by decide, by decide⟩
      refine lv_idiv hx hb dX14_assign_45 (by decide) ?_
      refine lv_topi (fun y_97 ey_97 => ?_)
      have b_98 : bd 0 0 y_97 := div_rg ey_97 b_5 kb_1000 (by decide)
      refine lv_istore (lv' := [(4, .int y_97), (3, .int 0), (2, .int x_3), (0, .ref a0_), (1, .int x1_)]) hx hb dX14_assign_46 hl (by decide) rfl (fun ls hl => ?_)
      refine lv_aload_n hx hb dX14_assign_48 rfl (lv_at hl 3 rfl) ?_
      have go_ := g
      refine g_calli (va_runV (As := []) (rest := []) ⟨hx, hb, hml, hown, hts⟩ (r_X14_classHereN l dC dI L kd tys f0 s.heap.size g.2.2.2.1 a0_ ma0_ ka0_ w_ bw Z_ O_ hR (g.fcts [3] rfl)) (cwV 0 hts (gV_ t_2642 t_2644 t_148 t_198 t_2645) rfl rfl rfl (by decide +kernel) ⟨(show 0 + 1 ≤ N + 1 + 5 by omega), (show 8 + (1 + 11) + 0 ≤ 40 * (N + 1) + 300 by omega)⟩) (pre3V g hK ma0_ ka0_ (by decide) (q := (RX14, TX14, 67)) rfl) rfl rfl hl.1 rfl (lv_room (Nat.le_of_ble_eq_true rfl)) dX14_assign_49 ⟨(Nat.le_of_ble_eq_true rfl), (Nat.le_of_ble_eq_true rfl)⟩) g hK (by decide) (by decide) (fx' := [(12, 37, q0_, .ref a_6), (12, 35, q0_, .ref a_2), (14, 1, a0_, .ref q0_), (14, 35, a0_, .int w_), (14, 34, a0_, .int s_)]) rfl (fun r_99 fr_99 H locs hp hMr_99 g => ?_)
      obtain ⟨hx_100, h_101, -⟩ := hp
      have hG_102 := isV.frame hMr_99 go_.2.2.2.1 mq0_ kq0_ (by decide) (by decide) hV
      have hG_103 := RA.frame hMr_99 go_.2.2.2.1 ma0_ ka0_ (by decide) (by decide) hR
      have hcA_104 : cAt V_ r_99 d_ := by rw [hx_100]; exact hcl
      have b_105 : bd 0 7 r_99 := ⟨hcA_104.1, h_101.2⟩
      refine lv_istore (lv' := [(5, .int r_99), (4, .int y_97), (3, .int 0), (2, .int x_3), (0, .ref a0_), (1, .int x1_)]) hx hb dX14_assign_52 hl (by decide) rfl (fun ls hl => ?_)
      refine lv_iload hx hb dX14_assign_54 (lv_at hl 1 rfl) ?_
      have kb_0 : bd 0 0 (0 : Int32) := ⟨by decide, by decide⟩
      refine lv_if_ne (tgt := 107) hx hb dX14_assign_56 (by decide) (fun c_106 => ?_) (fun c_106 => ?_)
      · have fc_106 := neq_f c_106
        have b_107 : bd 1 (-1) y_97 := neX fc_106 b_98 kb_0 (by decide)
        exact bd_no b_107 (by decide)
      · have fc_106 := eq_f c_106
        refine lv_aload_n hx hb dX14_assign_59 rfl (lv_at hl 4 rfl) ?_
        refine g_getk (C := RX14) (T := TX14) (N := 67) hx hb hts (mc_ inX14) hown hK g rfl 1 (by decide) rfl (hts _ (List.mem_cons_of_mem _ t_2147)) (fun _ h9 => h9) 2 rfl dX14_assign_60 ?_
        refine g_getk (C := RX12) (T := TX12) (N := 60) hx hb hts (mc_ inX12) hown hK g rfl 37 (by decide) rfl (hts _ (List.mem_cons_of_mem _ t_1979)) (fun _ h9 => h9) 0 rfl dX14_assign_63 ?_
        refine lv_iload_n hx hb dX14_assign_66 rfl (lv_at hl 5 rfl) ?_
        refine g_iald hx hb hK g ma_6 ka_6 (by decide) rfl (in_bd b_1 (by decide)) dX14_assign_67 (fun x_108 bx_108 cx_108 => ?_)
        obtain rfl : x_7 = x_108 := el_same cx_7 cx_108 (arr_eq hMr_99 ma_6 ka_6 (by decide) rfl)
        refine lv_iconst (v := (-1)) hx hb dX14_assign_68 (by decide) ?_
        refine lv_icmp_eq (tgt := 107) hx hb dX14_assign_69 (by decide) (fun c_109 => ?_) (fun c_109 => ?_)
        · have fc_109 := eq_f c_109
          refine lv_aload_n hx hb dX14_assign_107 rfl (lv_at hl 4 rfl) ?_
          refine lv_aload_n hx hb dX14_assign_108 rfl (lv_at hl 4 rfl) ?_
          refine g_getk (C := RX14) (T := TX14) (N := 67) hx hb hts (mc_ inX14) hown hK g rfl 1 (by decide) rfl (hts _ (List.mem_cons_of_mem _ t_2147)) (fun _ h9 => h9) 2 rfl dX14_assign_109 ?_
          refine g_getr (K := 193) (C := RX12) (T := TX12) (N := 60) hx hb hts (mc_ inX12) hown hK g mq0_ kq0_ (by decide) rfl 38 (by decide) rfl (hts _ (List.mem_cons_of_mem _ t_1981)) (fun _ h9 => h9) rfl dX14_assign_112 (fun a_110 ma_110 ka_110 g => ?_)
          refine lv_iload_n hx hb dX14_assign_115 rfl (lv_at hl 5 rfl) ?_
          refine g_iald hx hb hK g ma_110 ka_110 (by decide) rfl (in_bd b_1 (by decide)) dX14_assign_116 (fun x_111 bx_111 cx_111 => ?_)
          have vx_111 : x_111 = V_.i 38 x1_.toNatClampNeg := hG_102.at g 0 rfl rfl cx_111
          have go_ := g
          refine g_callEi (As := [.int x_111]) (rest := []) ⟨hx, hb, hml, hown, hts⟩ (ih.1 l dC dI L kd tys fr_99 H.size g.2.2.2.1 a0_ ma0_ ka0_ x_111 q0_ mq0_ kq0_ V_ δ_ hW w_ bw s_ bs Z_ O_ hG_102 hG_103 d_ hcl 13 (ss_ex hW hS (by omega) vx_111) (by have hN9 := hN; have bw9 := bw; unfold bd at bw9; omega) (g.fcts [3, 4, 5] rfl)) (cwV 1 hts (gV_ t_2634 t_2636 t_146 t_198 t_2637) rfl rfl rfl (by decide +kernel) ⟨(show N + 5 + 1 ≤ N + 1 + 5 by omega), (show 8 + (5 + 11) + (40 * N + 300) ≤ 40 * (N + 1) + 300 by omega)⟩) (pre3V g hK ma0_ ka0_ (by decide) (q := (RX14, TX14, 67)) rfl) rfl hl.1 rfl (lv_room (Nat.le_of_ble_eq_true rfl)) dX14_assign_117 ⟨(Nat.le_of_ble_eq_true rfl), (Nat.le_of_ble_eq_true rfl)⟩ g hK (by decide) (by decide) (fx' := [(12, 38, q0_, .ref a_110), (12, 37, q0_, .ref a_6), (12, 35, q0_, .ref a_2), (14, 1, a0_, .ref q0_)]) rfl (fun xr_112 fr_112 H locs mxr_112 kxr_112 hp hMr_112 g => ?_) (fun r_112 fr_112 H locs hp hMr_112 g => ?_)
          · have hG_113 := isV.frame hMr_112 go_.2.2.2.1 mq0_ kq0_ (by decide) (by decide) hG_102
            subst hQ
            exact WX.leaves hempty hlocks (fun t ht hW => g_thrE g hK mxr_112 kxr_112 trivial ht hW) g.2.2.1.2.2
          · obtain ⟨hG_114, x_115, ⟨h_116, rh_116⟩, hF_117⟩ := hp
            have hG_118 := isV.frame hMr_112 go_.2.2.2.1 mq0_ kq0_ (by decide) (by decide) hG_102
            have g := g.more hF_117
            refine lv_istore (lv' := [(6, .int r_112), (5, .int r_99), (4, .int y_97), (3, .int 0), (2, .int x_3), (0, .ref a0_), (1, .int x1_)]) hx hb dX14_assign_120 hl (by decide) rfl (fun ls hl => ?_)
            refine lv_iload hx hb dX14_assign_122 (lv_at hl 2 rfl) ?_
            refine lv_iconst (v := 1) hx hb dX14_assign_124 (by decide) ?_
            have kb_1 : bd 1 1 (1 : Int32) := ⟨by decide, by decide⟩
            refine lv_icmp_ne (tgt := 150) hx hb dX14_assign_125 (by decide) (fun c_119 => ?_) (fun c_119 => ?_)
            · have fc_119 := neq_f c_119
              refine lv_iload hx hb dX14_assign_150 (lv_at hl 2 rfl) ?_
              refine lv_iconst (v := 2) hx hb dX14_assign_152 (by decide) ?_
              have kb_2 : bd 2 2 (2 : Int32) := ⟨by decide, by decide⟩
              refine lv_icmp_ne (tgt := 179) hx hb dX14_assign_153 (by decide) (fun c_120 => ?_) (fun c_120 => ?_)
              · have fc_120 := neq_f c_120
                refine lv_aload_n hx hb dX14_assign_179 rfl (lv_at hl 5 rfl) ?_
                refine g_geti (C := RX14) (T := TX14) (N := 67) hx hb hts (mc_ inX14) hown hK g ma0_ ka0_ (by decide) rfl 36 (by decide) rfl (hts _ (List.mem_cons_of_mem _ t_2182)) (fun _ h9 => h9) rfl dX14_assign_180 (fun x_121 bx_121 g => ?_)
                refine lv_if_eq (tgt := 191) hx hb dX14_assign_183 (by decide) (fun c_122 => ?_) (fun c_122 => ?_)
                · have fc_122 := eq_f c_122
                  have b_123 : bd 0 0 x_121 := eqX fc_122 bx_121 kb_0 (by decide)
                  refine lv_aload_n hx hb dX14_assign_191 rfl (lv_at hl 5 rfl) ?_
                  refine g_getr (K := 216) (C := RX14) (T := TX14) (N := 67) hx hb hts (mc_ inX14) hown hK g ma0_ ka0_ (by decide) rfl 28 (by decide) rfl (hts _ (List.mem_cons_of_mem _ t_2174)) (fun _ h9 => h9) rfl dX14_assign_192 (fun a_124 ma_124 ka_124 g => ?_)
                  refine lv_bipush (v := 24) hx hb dX14_assign_195 (by decide) ?_
                  refine lv_aload_n hx hb dX14_assign_197 rfl (lv_at hl 5 rfl) ?_
                  refine g_getr (K := 220) (C := RX14) (T := TX14) (N := 67) hx hb hts (mc_ inX14) hown hK g ma0_ ka0_ (by decide) rfl 43 (by decide) rfl (hts _ (List.mem_cons_of_mem _ t_2189)) (fun _ h9 => h9) rfl dX14_assign_198 (fun a_125 ma_125 ka_125 g => ?_)
                  refine lv_aload_n hx hb dX14_assign_201 rfl (lv_at hl 5 rfl) ?_
                  refine g_getk (C := RX14) (T := TX14) (N := 67) hx hb hts (mc_ inX14) hown hK g rfl 35 (by decide) rfl (hts _ (List.mem_cons_of_mem _ t_2181)) (fun _ h9 => h9) 3 rfl dX14_assign_202 ?_
                  refine g_iald hx hb hK g ma_125 ka_125 (by decide) rfl (in_bd bw (by decide)) dX14_assign_205 (fun x_126 bx_126 cx_126 => ?_)
                  have vx_126 := hG_114.self g 0 rfl cx_126
                  refine lv_imul hx hb dX14_assign_206 ?_
                  refine lv_topi (fun y_127 ey_127 => ?_)
                  have ty_127 := cmul_bd ey_127 (c := 24) (by decide) bx_126 (by decide)
                  have b_128 : bd 0 120 y_127 := mulc_rg ty_127 bx_126 (by decide)
                  refine lv_aload_n hx hb dX14_assign_207 rfl (lv_at hl 5 rfl) ?_
                  refine g_getk (C := RX14) (T := TX14) (N := 67) hx hb hts (mc_ inX14) hown hK g rfl 1 (by decide) rfl (hts _ (List.mem_cons_of_mem _ t_2147)) (fun _ h9 => h9) 8 rfl dX14_assign_208 ?_
                  refine g_getr (K := 165) (C := RX12) (T := TX12) (N := 60) hx hb hts (mc_ inX12) hown hK g mq0_ kq0_ (by decide) rfl 9 (by decide) rfl (hts _ (List.mem_cons_of_mem _ t_1924)) (fun _ h9 => h9) rfl dX14_assign_211 (fun a_129 ma_129 ka_129 g => ?_)
                  refine lv_bipush (v := 10) hx hb dX14_assign_214 (by decide) ?_
                  refine lv_iload hx hb dX14_assign_216 (lv_at hl 1 rfl) ?_
                  refine lv_imul hx hb dX14_assign_218 ?_
                  refine lv_topi (fun y_130 ey_130 => ?_)
                  have ty_130 := cmul_bd ey_130 (c := 10) (by decide) b_105 (by decide)
                  have b_131 : bd 0 70 y_130 := mulc_rg ty_130 b_105 (by decide)
                  refine lv_iload_n hx hb dX14_assign_219 rfl (lv_at hl 4 rfl) ?_
                  refine lv_iadd hx hb dX14_assign_220 ?_
                  refine lv_topi (fun y_132 ey_132 => ?_)
                  have ty_132 := add_bd ey_132 b_131 b_5 (by decide)
                  have b_133 : bd 0 79 y_132 := add_rg ty_132 b_131 b_5 (by decide)
                  refine g_iald hx hb hK g ma_129 ka_129 (by decide) rfl (in_bd b_133 (by decide)) dX14_assign_221 (fun x_134 bx_134 cx_134 => ?_)
                  have vx_134 : x_134 = V_.i 9 y_132.toNatClampNeg := hG_118.at g 0 rfl rfl cx_134
                  have hf_135 := fld_ok hW hcA_104 h_4 (by have h9_0 := b_105; unfold bd at h9_0; have h9_1 := bs; unfold bd at h9_1; have h9_2 := bw; unfold bd at h9_2; have h9_3 := b_1; unfold bd at h9_3; have h9_4 := h_116; unfold bd at h9_4; have h9_5 := b_123; unfold bd at h9_5; have h9_6 := bx_126; unfold bd at h9_6; have h9_7 := bx_134; unfold bd at h9_7; have h9_8 := b_5; unfold bd at h9_8; have h9_9 := b_96; unfold bd at h9_9; have h9_10 := b_128; unfold bd at h9_10; have h9_11 := b_131; unfold bd at h9_11; have h9_12 := b_133; unfold bd at h9_12; have h9_13 := b_98; unfold bd at h9_13; have h8_0 := kb_0; unfold bd at h8_0; have h8_1 := kb_1; unfold bd at h8_1; have h8_2 := kb_1000; unfold bd at h8_2; have h8_3 := kb_2; unfold bd at h8_3; have h8_4 := kb_m1; unfold bd at h8_4; omega : y_132.toInt = 10 * r_99.toInt + x_3.toInt) vx_134 rfl
                  have b_136 : bd 0 23 x_134 := ⟨bx_134.1, hf_135.1⟩
                  refine lv_iadd hx hb dX14_assign_222 ?_
                  refine lv_topi (fun y_137 ey_137 => ?_)
                  have ty_137 := add_bd ey_137 b_128 b_136 (by decide)
                  have b_138 : bd 0 143 y_137 := add_rg ty_137 b_128 b_136 (by decide)
                  refine lv_iload_n hx hb dX14_assign_223 rfl (lv_at hl 3 rfl) ?_
                  refine lv_iadd hx hb dX14_assign_224 ?_
                  refine lv_topi (fun y_139 ey_139 => ?_)
                  have ty_139 := add_bd ey_139 b_138 kb_0 (by decide)
                  have b_140 : bd 0 143 y_139 := add_rg ty_139 b_138 kb_0 (by decide)
                  refine lv_iload hx hb dX14_assign_225 (lv_at hl 0 rfl) ?_
                  have go_ := g
                  refine g_iast hx hb hK g ma_124 ka_124 (by decide) rfl (in_bd b_140 (by decide)) (bdT r_112) (by decide) dX14_assign_227 (fun f H locs hM_141 g => ?_)
                  have hG_142 := isV.frame hM_141 go_.2.2.2.1 mq0_ kq0_ (by decide) (by decide) hG_118
                  have hG_143 := RA.frame hM_141 go_.2.2.2.1 ma0_ ka0_ (by decide) (by decide) hG_114
                  subst hQ
                  exact W.thenQ (W.vret hx hb hr (fun t ht hW => g_retE g hK ⟨rfl, ⟨hG_143, x_115, ⟨h_116, (by have h9_0 := b_105; unfold bd at h9_0; have h9_1 := bs; unfold bd at h9_1; have h9_2 := bw; unfold bd at h9_2; have h9_3 := b_1; unfold bd at h9_3; have h9_4 := h_116; unfold bd at h9_4; have h9_5 := b_123; unfold bd at h9_5; have h9_6 := bx_126; unfold bd at h9_6; have h9_7 := b_136; unfold bd at h9_7; have h9_8 := b_5; unfold bd at h9_8; have h9_9 := b_96; unfold bd at h9_9; have h9_10 := b_128; unfold bd at h9_10; have h9_11 := b_131; unfold bd at h9_11; have h9_12 := b_133; unfold bd at h9_12; have h9_13 := b_138; unfold bd at h9_13; have h9_14 := b_140; unfold bd at h9_14; have h9_15 := b_98; unfold bd at h9_15; have h8_0 := kb_0; unfold bd at h8_0; have h8_1 := kb_1; unfold bd at h8_1; have h8_2 := kb_1000; unfold bd at h8_2; have h8_3 := kb_2; unfold bd at h8_3; have h8_4 := kb_m1; unfold bd at h8_4; omega)⟩, (g.fcts [4, 5] rfl)⟩⟩ ht hW) g.2.2.1.2.2 dX14_assign_228) (fun _ => MQ.toE)
                · have fc_122 := neq_f c_122
                  have b_144 : bd 1 1 x_121 := neX fc_122 bx_121 kb_0 (by decide)
                  refine lv_aload_n hx hb dX14_assign_186 rfl (lv_at hl 5 rfl) ?_
                  refine lv_iconst (v := 3) hx hb dX14_assign_187 (by decide) ?_
                  have go_ := g
                  refine g_callEv (As := [.int 3]) (rest := []) ⟨hx, hb, hml, hown, hts⟩ (r_X14_ends l dC dI L kd tys fr_112 H.size g.2.2.2.1 a0_ ma0_ ka0_ 3) (cwV 1 hts (gV_ t_2651 t_2653 t_150 t_198 t_2654) rfl rfl rfl (by decide +kernel) ⟨(show 0 + 1 ≤ N + 1 + 5 by omega), (show 8 + (2 + 11) + 0 ≤ 40 * (N + 1) + 300 by omega)⟩) (pre3V g hK ma0_ ka0_ (by decide) (q := (RX14, TX14, 67)) rfl) rfl hl.1 rfl (lv_room (Nat.le_of_ble_eq_true rfl)) dX14_assign_188 ⟨(Nat.le_of_ble_eq_true rfl), (Nat.le_of_ble_eq_true rfl)⟩ g hK (by decide) (by decide) (fx' := [(14, 36, a0_, .int x_121), (14, 35, a0_, .int w_), (14, 34, a0_, .int x_115), (12, 38, q0_, .ref a_110), (12, 37, q0_, .ref a_6), (12, 35, q0_, .ref a_2), (14, 1, a0_, .ref q0_)]) rfl (fun xr_145 fr_145 H locs mxr_145 kxr_145 hp hMr_145 g => ?_) (fun fr_145 H locs hp hMr_145 g => ?_)
                  · have hG_146 := isV.frame hMr_145 go_.2.2.2.1 mq0_ kq0_ (by decide) (by decide) hG_118
                    have hG_147 := RA.frame hMr_145 go_.2.2.2.1 ma0_ ka0_ (by decide) (by decide) hG_114
                    subst hQ
                    exact WX.leaves hempty hlocks (fun t ht hW => g_thrE g hK mxr_145 kxr_145 trivial ht hW) g.2.2.1.2.2
                  · exact hp.elim
              · have fc_120 := eq_f c_120
                have b_148 : bd 2 0 y_97 := eqX fc_120 b_98 kb_2 (by decide)
                exact bd_no b_148 (by decide)
            · have fc_119 := eq_f c_119
              have b_149 : bd 1 0 y_97 := eqX fc_119 b_98 kb_1 (by decide)
              exact bd_no b_149 (by decide)
        · have fc_109 := neq_f c_109
          have b_150 : bd 0 (-2) x_7 := neX fc_109 b_96 kb_m1 (by decide)
          exact bd_no b_150 (by decide)
  · have b_151 : bd 1000 1002 x_3 := ⟨h_4.1, h_4.2⟩
    refine lv_istore_n (lv' := [(2, .int x_3), (0, .ref a0_), (1, .int x1_)]) hx hb dX14_assign_9 rfl hl (by decide) rfl (fun ls hl => ?_)
    refine lv_aload_n hx hb dX14_assign_10 rfl (lv_at hl 1 rfl) ?_
    refine g_getk (C := RX14) (T := TX14) (N := 67) hx hb hts (mc_ inX14) hown hK g rfl 1 (by decide) rfl (hts _ (List.mem_cons_of_mem _ t_2147)) (fun _ h9 => h9) 1 rfl dX14_assign_11 ?_
    refine g_getr (K := 192) (C := RX12) (T := TX12) (N := 60) hx hb hts (mc_ inX12) hown hK g mq0_ kq0_ (by decide) rfl 37 (by decide) rfl (hts _ (List.mem_cons_of_mem _ t_1979)) (fun _ h9 => h9) rfl dX14_assign_14 (fun a_152 ma_152 ka_152 g => ?_)
    refine lv_iload_n hx hb dX14_assign_17 rfl (lv_at hl 2 rfl) ?_
    refine g_iald hx hb hK g ma_152 ka_152 (by decide) rfl (in_bd b_1 (by decide)) dX14_assign_18 (fun x_153 bx_153 cx_153 => ?_)
    have vx_153 : x_153 = V_.i 37 x1_.toNatClampNeg := hV.at g 0 rfl rfl cx_153
    refine lv_iconst (v := (-1)) hx hb dX14_assign_19 (by decide) ?_
    have kb_m1 : bd (-1) (-1) ((-1) : Int32) := ⟨by decide, by decide⟩
    refine lv_icmp_ne (tgt := 27) hx hb dX14_assign_20 (by decide) (fun c_154 => ?_) (fun c_154 => ?_)
    · have fc_154 := neq_f c_154
      refine lv_aload_n hx hb dX14_assign_27 rfl (lv_at hl 1 rfl) ?_
      refine lv_aload_n hx hb dX14_assign_28 rfl (lv_at hl 1 rfl) ?_
      refine g_getk (C := RX14) (T := TX14) (N := 67) hx hb hts (mc_ inX14) hown hK g rfl 1 (by decide) rfl (hts _ (List.mem_cons_of_mem _ t_2147)) (fun _ h9 => h9) 2 rfl dX14_assign_29 ?_
      refine g_getk (C := RX12) (T := TX12) (N := 60) hx hb hts (mc_ inX12) hown hK g rfl 37 (by decide) rfl (hts _ (List.mem_cons_of_mem _ t_1979)) (fun _ h9 => h9) 0 rfl dX14_assign_32 ?_
      refine lv_iload_n hx hb dX14_assign_35 rfl (lv_at hl 2 rfl) ?_
      refine g_iald hx hb hK g ma_152 ka_152 (by decide) rfl (in_bd b_1 (by decide)) dX14_assign_36 (fun x_155 bx_155 cx_155 => ?_)
      obtain rfl : x_153 = x_155 := el_same cx_153 cx_155 rfl
      have go_ := g
      refine g_callEi (As := [.int x_153]) (rest := []) ⟨hx, hb, hml, hown, hts⟩ (ih.1 l dC dI L kd tys f0 s.heap.size g.2.2.2.1 a0_ ma0_ ka0_ x_153 q0_ mq0_ kq0_ V_ δ_ hW w_ bw s_ bs Z_ O_ hV hR d_ hcl 13 (ss_idx hW hS ho vx_153 fc_154) (by have hN9 := hN; have bw9 := bw; unfold bd at bw9; omega) (g.fcts [2, 3, 4] rfl)) (cwV 1 hts (gV_ t_2634 t_2636 t_146 t_198 t_2637) rfl rfl rfl (by decide +kernel) ⟨(show N + 5 + 1 ≤ N + 1 + 5 by omega), (show 8 + (5 + 11) + (40 * N + 300) ≤ 40 * (N + 1) + 300 by omega)⟩) (pre3V g hK ma0_ ka0_ (by decide) (q := (RX14, TX14, 67)) rfl) rfl hl.1 rfl (lv_room (Nat.le_of_ble_eq_true rfl)) dX14_assign_37 ⟨(Nat.le_of_ble_eq_true rfl), (Nat.le_of_ble_eq_true rfl)⟩ g hK (by decide) (by decide) (fx' := [(12, 37, q0_, .ref a_152), (12, 35, q0_, .ref a_2), (14, 1, a0_, .ref q0_)]) rfl (fun xr_156 fr_156 H locs mxr_156 kxr_156 hp hMr_156 g => ?_) (fun r_156 fr_156 H locs hp hMr_156 g => ?_)
      · have hG_157 := isV.frame hMr_156 go_.2.2.2.1 mq0_ kq0_ (by decide) (by decide) hV
        subst hQ
        exact WX.leaves hempty hlocks (fun t ht hW => g_thrE g hK mxr_156 kxr_156 trivial ht hW) g.2.2.1.2.2
      · obtain ⟨hG_158, x_159, ⟨h_160, rh_160⟩, hF_161⟩ := hp
        have hG_162 := isV.frame hMr_156 go_.2.2.2.1 mq0_ kq0_ (by decide) (by decide) hV
        have g := g.more hF_161
        refine lv_istore_n (lv' := [(3, .int r_156), (2, .int x_3), (0, .ref a0_), (1, .int x1_)]) hx hb dX14_assign_40 rfl hl (by decide) rfl (fun ls hl => ?_)
        refine lv_iload_n hx hb dX14_assign_41 rfl (lv_at hl 1 rfl) ?_
        refine lv_sipush (v := 1000) hx hb dX14_assign_42 (by decide) ?_
        have kb_1000 : bd 1000 1000 (1000 : Int32) := ⟨by decide, by decide⟩
        refine lv_idiv hx hb dX14_assign_45 (by decide) ?_
        refine lv_topi (fun y_163 ey_163 => ?_)
        have b_164 : bd 1 1 y_163 := div_rg ey_163 b_151 kb_1000 (by decide)
        refine lv_istore (lv' := [(4, .int y_163), (3, .int r_156), (2, .int x_3), (0, .ref a0_), (1, .int x1_)]) hx hb dX14_assign_46 hl (by decide) rfl (fun ls hl => ?_)
        refine lv_aload_n hx hb dX14_assign_48 rfl (lv_at hl 3 rfl) ?_
        have go_ := g
        refine g_calli (va_runV (As := []) (rest := []) ⟨hx, hb, hml, hown, hts⟩ (r_X14_classHereN l dC dI L kd tys fr_156 H.size g.2.2.2.1 a0_ ma0_ ka0_ w_ bw Z_ O_ hG_158 (g.fcts [0] rfl)) (cwV 0 hts (gV_ t_2642 t_2644 t_148 t_198 t_2645) rfl rfl rfl (by decide +kernel) ⟨(show 0 + 1 ≤ N + 1 + 5 by omega), (show 8 + (1 + 11) + 0 ≤ 40 * (N + 1) + 300 by omega)⟩) (pre3V g hK ma0_ ka0_ (by decide) (q := (RX14, TX14, 67)) rfl) rfl rfl hl.1 rfl (lv_room (Nat.le_of_ble_eq_true rfl)) dX14_assign_49 ⟨(Nat.le_of_ble_eq_true rfl), (Nat.le_of_ble_eq_true rfl)⟩) g hK (by decide) (by decide) (fx' := [(14, 35, a0_, .int w_), (14, 34, a0_, .int x_159), (12, 37, q0_, .ref a_152), (12, 35, q0_, .ref a_2), (14, 1, a0_, .ref q0_)]) rfl (fun r_165 fr_165 H locs hp hMr_165 g => ?_)
        obtain ⟨hx_166, h_167, -⟩ := hp
        have hG_168 := isV.frame hMr_165 go_.2.2.2.1 mq0_ kq0_ (by decide) (by decide) hG_162
        have hG_169 := RA.frame hMr_165 go_.2.2.2.1 ma0_ ka0_ (by decide) (by decide) hG_158
        have hcA_170 : cAt V_ r_165 d_ := by rw [hx_166]; exact hcl
        have b_171 : bd 0 7 r_165 := ⟨hcA_170.1, h_167.2⟩
        refine lv_istore (lv' := [(5, .int r_165), (4, .int y_163), (3, .int r_156), (2, .int x_3), (0, .ref a0_), (1, .int x1_)]) hx hb dX14_assign_52 hl (by decide) rfl (fun ls hl => ?_)
        refine lv_iload hx hb dX14_assign_54 (lv_at hl 1 rfl) ?_
        have kb_0 : bd 0 0 (0 : Int32) := ⟨by decide, by decide⟩
        refine lv_if_ne (tgt := 107) hx hb dX14_assign_56 (by decide) (fun c_172 => ?_) (fun c_172 => ?_)
        · have fc_172 := neq_f c_172
          refine lv_aload_n hx hb dX14_assign_107 rfl (lv_at hl 4 rfl) ?_
          refine lv_aload_n hx hb dX14_assign_108 rfl (lv_at hl 4 rfl) ?_
          refine g_getk (C := RX14) (T := TX14) (N := 67) hx hb hts (mc_ inX14) hown hK g rfl 1 (by decide) rfl (hts _ (List.mem_cons_of_mem _ t_2147)) (fun _ h9 => h9) 4 rfl dX14_assign_109 ?_
          refine g_getr (K := 193) (C := RX12) (T := TX12) (N := 60) hx hb hts (mc_ inX12) hown hK g mq0_ kq0_ (by decide) rfl 38 (by decide) rfl (hts _ (List.mem_cons_of_mem _ t_1981)) (fun _ h9 => h9) rfl dX14_assign_112 (fun a_173 ma_173 ka_173 g => ?_)
          refine lv_iload_n hx hb dX14_assign_115 rfl (lv_at hl 5 rfl) ?_
          refine g_iald hx hb hK g ma_173 ka_173 (by decide) rfl (in_bd b_1 (by decide)) dX14_assign_116 (fun x_174 bx_174 cx_174 => ?_)
          have vx_174 : x_174 = V_.i 38 x1_.toNatClampNeg := hG_168.at g 0 rfl rfl cx_174
          have go_ := g
          refine g_callEi (As := [.int x_174]) (rest := []) ⟨hx, hb, hml, hown, hts⟩ (ih.1 l dC dI L kd tys fr_165 H.size g.2.2.2.1 a0_ ma0_ ka0_ x_174 q0_ mq0_ kq0_ V_ δ_ hW w_ bw x_159 h_160 Z_ O_ hG_168 hG_169 d_ hcl 13 (ss_ex hW hS (by omega) vx_174) (by have hN9 := hN; have bw9 := bw; unfold bd at bw9; omega) (g.fcts [5, 1, 2] rfl)) (cwV 1 hts (gV_ t_2634 t_2636 t_146 t_198 t_2637) rfl rfl rfl (by decide +kernel) ⟨(show N + 5 + 1 ≤ N + 1 + 5 by omega), (show 8 + (5 + 11) + (40 * N + 300) ≤ 40 * (N + 1) + 300 by omega)⟩) (pre3V g hK ma0_ ka0_ (by decide) (q := (RX14, TX14, 67)) rfl) rfl hl.1 rfl (lv_room (Nat.le_of_ble_eq_true rfl)) dX14_assign_117 ⟨(Nat.le_of_ble_eq_true rfl), (Nat.le_of_ble_eq_true rfl)⟩ g hK (by decide) (by decide) (fx' := [(12, 38, q0_, .ref a_173), (12, 37, q0_, .ref a_152), (12, 35, q0_, .ref a_2), (14, 1, a0_, .ref q0_)]) rfl (fun xr_175 fr_175 H locs mxr_175 kxr_175 hp hMr_175 g => ?_) (fun r_175 fr_175 H locs hp hMr_175 g => ?_)
          · have hG_176 := isV.frame hMr_175 go_.2.2.2.1 mq0_ kq0_ (by decide) (by decide) hG_168
            subst hQ
            exact WX.leaves hempty hlocks (fun t ht hW => g_thrE g hK mxr_175 kxr_175 trivial ht hW) g.2.2.1.2.2
          · obtain ⟨hG_177, x_178, ⟨h_179, rh_179⟩, hF_180⟩ := hp
            have hG_181 := isV.frame hMr_175 go_.2.2.2.1 mq0_ kq0_ (by decide) (by decide) hG_168
            have g := g.more hF_180
            refine lv_istore (lv' := [(6, .int r_175), (5, .int r_165), (4, .int y_163), (3, .int r_156), (2, .int x_3), (0, .ref a0_), (1, .int x1_)]) hx hb dX14_assign_120 hl (by decide) rfl (fun ls hl => ?_)
            refine lv_iload hx hb dX14_assign_122 (lv_at hl 2 rfl) ?_
            refine lv_iconst (v := 1) hx hb dX14_assign_124 (by decide) ?_
            have kb_1 : bd 1 1 (1 : Int32) := ⟨by decide, by decide⟩
            refine lv_icmp_ne (tgt := 150) hx hb dX14_assign_125 (by decide) (fun c_182 => ?_) (fun c_182 => ?_)
            · have fc_182 := neq_f c_182
              have b_183 : bd 2 0 y_163 := neX fc_182 b_164 kb_1 (by decide)
              exact bd_no b_183 (by decide)
            · have fc_182 := eq_f c_182
              refine lv_aload_n hx hb dX14_assign_128 rfl (lv_at hl 5 rfl) ?_
              refine g_getr (K := 218) (C := RX14) (T := TX14) (N := 67) hx hb hts (mc_ inX14) hown hK g ma0_ ka0_ (by decide) rfl 41 (by decide) rfl (hts _ (List.mem_cons_of_mem _ t_2187)) (fun _ h9 => h9) rfl dX14_assign_129 (fun a_184 ma_184 ka_184 g => ?_)
              refine lv_iconst (v := 3) hx hb dX14_assign_132 (by decide) ?_
              refine lv_aload_n hx hb dX14_assign_133 rfl (lv_at hl 5 rfl) ?_
              refine g_getk (C := RX14) (T := TX14) (N := 67) hx hb hts (mc_ inX14) hown hK g rfl 35 (by decide) rfl (hts _ (List.mem_cons_of_mem _ t_2181)) (fun _ h9 => h9) 1 rfl dX14_assign_134 ?_
              refine lv_imul hx hb dX14_assign_137 ?_
              refine lv_topi (fun y_185 ey_185 => ?_)
              have ty_185 := cmul_bd ey_185 (c := 3) (by decide) bw (by decide)
              have b_186 : bd 0 60 y_185 := mulc_rg ty_185 bw (by decide)
              refine lv_iload_n hx hb dX14_assign_138 rfl (lv_at hl 4 rfl) ?_
              refine lv_sipush (v := 1000) hx hb dX14_assign_139 (by decide) ?_
              refine lv_irem hx hb dX14_assign_142 (by decide) ?_
              refine lv_topi (fun y_187 ey_187 => ?_)
              have b_188 : bd 0 2 y_187 := rem_blk ey_187 b_151 kb_1000 (by decide)
              refine lv_iadd hx hb dX14_assign_143 ?_
              refine lv_topi (fun y_189 ey_189 => ?_)
              have ty_189 := add_bd ey_189 b_186 b_188 (by decide)
              have b_190 : bd 0 62 y_189 := add_rg ty_189 b_186 b_188 (by decide)
              refine lv_iload hx hb dX14_assign_144 (lv_at hl 0 rfl) ?_
              have go_ := g
              refine g_iast hx hb hK g ma_184 ka_184 (by decide) rfl (in_bd b_190 (by decide)) (bdT r_175) (by decide) dX14_assign_146 (fun f H locs hM_191 g => ?_)
              have hG_192 := isV.frame hM_191 go_.2.2.2.1 mq0_ kq0_ (by decide) (by decide) hG_181
              have hG_193 := RA.frame hM_191 go_.2.2.2.1 ma0_ ka0_ (by decide) (by decide) hG_177
              refine lv_goto (tgt := 228) hx hb dX14_assign_147 (by decide) ?_
              subst hQ
              exact W.thenQ (W.vret hx hb hr (fun t ht hW => g_retE g hK ⟨rfl, ⟨hG_193, x_178, ⟨h_179, (by have h9_0 := b_171; unfold bd at h9_0; have h9_1 := bs; unfold bd at h9_1; have h9_2 := bw; unfold bd at h9_2; have h9_3 := b_1; unfold bd at h9_3; have h9_4 := h_160; unfold bd at h9_4; have h9_5 := h_179; unfold bd at h9_5; have h9_6 := b_151; unfold bd at h9_6; have h9_7 := b_164; unfold bd at h9_7; have h9_8 := b_186; unfold bd at h9_8; have h9_9 := b_188; unfold bd at h9_9; have h9_10 := b_190; unfold bd at h9_10; have h8_0 := kb_0; unfold bd at h8_0; have h8_1 := kb_1; unfold bd at h8_1; have h8_2 := kb_1000; unfold bd at h8_2; have h8_3 := kb_m1; unfold bd at h8_3; omega)⟩, (g.fcts [1, 2] rfl)⟩⟩ ht hW) g.2.2.1.2.2 dX14_assign_228) (fun _ => MQ.toE)
        · have fc_172 := eq_f c_172
          have b_194 : bd 1 0 y_163 := eqX fc_172 b_164 kb_0 (by decide)
          exact bd_no b_194 (by decide)
    · have fc_154 := eq_f c_154
      have b_195 : bd (-1) (-1) x_153 := eqX fc_154 (bdT x_153) kb_m1 (by decide)
      refine lv_iconst (v := 0) hx hb dX14_assign_23 (by decide) ?_
      refine lv_goto (tgt := 40) hx hb dX14_assign_24 (by decide) ?_
      refine lv_istore_n (lv' := [(3, .int 0), (2, .int x_3), (0, .ref a0_), (1, .int x1_)]) hx hb dX14_assign_40 rfl hl (by decide) rfl (fun ls hl => ?_)
      refine lv_iload_n hx hb dX14_assign_41 rfl (lv_at hl 1 rfl) ?_
      refine lv_sipush (v := 1000) hx hb dX14_assign_42 (by decide) ?_
      have kb_1000 : bd 1000 1000 (1000 : Int32) := ⟨by decide, by decide⟩
      refine lv_idiv hx hb dX14_assign_45 (by decide) ?_
      refine lv_topi (fun y_196 ey_196 => ?_)
      have b_197 : bd 1 1 y_196 := div_rg ey_196 b_151 kb_1000 (by decide)
      refine lv_istore (lv' := [(4, .int y_196), (3, .int 0), (2, .int x_3), (0, .ref a0_), (1, .int x1_)]) hx hb dX14_assign_46 hl (by decide) rfl (fun ls hl => ?_)
      refine lv_aload_n hx hb dX14_assign_48 rfl (lv_at hl 3 rfl) ?_
      have go_ := g
      refine g_calli (va_runV (As := []) (rest := []) ⟨hx, hb, hml, hown, hts⟩ (r_X14_classHereN l dC dI L kd tys f0 s.heap.size g.2.2.2.1 a0_ ma0_ ka0_ w_ bw Z_ O_ hR (g.fcts [3] rfl)) (cwV 0 hts (gV_ t_2642 t_2644 t_148 t_198 t_2645) rfl rfl rfl (by decide +kernel) ⟨(show 0 + 1 ≤ N + 1 + 5 by omega), (show 8 + (1 + 11) + 0 ≤ 40 * (N + 1) + 300 by omega)⟩) (pre3V g hK ma0_ ka0_ (by decide) (q := (RX14, TX14, 67)) rfl) rfl rfl hl.1 rfl (lv_room (Nat.le_of_ble_eq_true rfl)) dX14_assign_49 ⟨(Nat.le_of_ble_eq_true rfl), (Nat.le_of_ble_eq_true rfl)⟩) g hK (by decide) (by decide) (fx' := [(12, 37, q0_, .ref a_152), (12, 35, q0_, .ref a_2), (14, 1, a0_, .ref q0_), (14, 35, a0_, .int w_), (14, 34, a0_, .int s_)]) rfl (fun r_198 fr_198 H locs hp hMr_198 g => ?_)
      obtain ⟨hx_199, h_200, -⟩ := hp
      have hG_201 := isV.frame hMr_198 go_.2.2.2.1 mq0_ kq0_ (by decide) (by decide) hV
      have hG_202 := RA.frame hMr_198 go_.2.2.2.1 ma0_ ka0_ (by decide) (by decide) hR
      have hcA_203 : cAt V_ r_198 d_ := by rw [hx_199]; exact hcl
      have b_204 : bd 0 7 r_198 := ⟨hcA_203.1, h_200.2⟩
      refine lv_istore (lv' := [(5, .int r_198), (4, .int y_196), (3, .int 0), (2, .int x_3), (0, .ref a0_), (1, .int x1_)]) hx hb dX14_assign_52 hl (by decide) rfl (fun ls hl => ?_)
      refine lv_iload hx hb dX14_assign_54 (lv_at hl 1 rfl) ?_
      have kb_0 : bd 0 0 (0 : Int32) := ⟨by decide, by decide⟩
      refine lv_if_ne (tgt := 107) hx hb dX14_assign_56 (by decide) (fun c_205 => ?_) (fun c_205 => ?_)
      · have fc_205 := neq_f c_205
        refine lv_aload_n hx hb dX14_assign_107 rfl (lv_at hl 4 rfl) ?_
        refine lv_aload_n hx hb dX14_assign_108 rfl (lv_at hl 4 rfl) ?_
        refine g_getk (C := RX14) (T := TX14) (N := 67) hx hb hts (mc_ inX14) hown hK g rfl 1 (by decide) rfl (hts _ (List.mem_cons_of_mem _ t_2147)) (fun _ h9 => h9) 2 rfl dX14_assign_109 ?_
        refine g_getr (K := 193) (C := RX12) (T := TX12) (N := 60) hx hb hts (mc_ inX12) hown hK g mq0_ kq0_ (by decide) rfl 38 (by decide) rfl (hts _ (List.mem_cons_of_mem _ t_1981)) (fun _ h9 => h9) rfl dX14_assign_112 (fun a_206 ma_206 ka_206 g => ?_)
        refine lv_iload_n hx hb dX14_assign_115 rfl (lv_at hl 5 rfl) ?_
        refine g_iald hx hb hK g ma_206 ka_206 (by decide) rfl (in_bd b_1 (by decide)) dX14_assign_116 (fun x_207 bx_207 cx_207 => ?_)
        have vx_207 : x_207 = V_.i 38 x1_.toNatClampNeg := hG_201.at g 0 rfl rfl cx_207
        have go_ := g
        refine g_callEi (As := [.int x_207]) (rest := []) ⟨hx, hb, hml, hown, hts⟩ (ih.1 l dC dI L kd tys fr_198 H.size g.2.2.2.1 a0_ ma0_ ka0_ x_207 q0_ mq0_ kq0_ V_ δ_ hW w_ bw s_ bs Z_ O_ hG_201 hG_202 d_ hcl 13 (ss_ex hW hS (by omega) vx_207) (by have hN9 := hN; have bw9 := bw; unfold bd at bw9; omega) (g.fcts [3, 4, 5] rfl)) (cwV 1 hts (gV_ t_2634 t_2636 t_146 t_198 t_2637) rfl rfl rfl (by decide +kernel) ⟨(show N + 5 + 1 ≤ N + 1 + 5 by omega), (show 8 + (5 + 11) + (40 * N + 300) ≤ 40 * (N + 1) + 300 by omega)⟩) (pre3V g hK ma0_ ka0_ (by decide) (q := (RX14, TX14, 67)) rfl) rfl hl.1 rfl (lv_room (Nat.le_of_ble_eq_true rfl)) dX14_assign_117 ⟨(Nat.le_of_ble_eq_true rfl), (Nat.le_of_ble_eq_true rfl)⟩ g hK (by decide) (by decide) (fx' := [(12, 38, q0_, .ref a_206), (12, 37, q0_, .ref a_152), (12, 35, q0_, .ref a_2), (14, 1, a0_, .ref q0_)]) rfl (fun xr_208 fr_208 H locs mxr_208 kxr_208 hp hMr_208 g => ?_) (fun r_208 fr_208 H locs hp hMr_208 g => ?_)
        · have hG_209 := isV.frame hMr_208 go_.2.2.2.1 mq0_ kq0_ (by decide) (by decide) hG_201
          subst hQ
          exact WX.leaves hempty hlocks (fun t ht hW => g_thrE g hK mxr_208 kxr_208 trivial ht hW) g.2.2.1.2.2
        · obtain ⟨hG_210, x_211, ⟨h_212, rh_212⟩, hF_213⟩ := hp
          have hG_214 := isV.frame hMr_208 go_.2.2.2.1 mq0_ kq0_ (by decide) (by decide) hG_201
          have g := g.more hF_213
          refine lv_istore (lv' := [(6, .int r_208), (5, .int r_198), (4, .int y_196), (3, .int 0), (2, .int x_3), (0, .ref a0_), (1, .int x1_)]) hx hb dX14_assign_120 hl (by decide) rfl (fun ls hl => ?_)
          refine lv_iload hx hb dX14_assign_122 (lv_at hl 2 rfl) ?_
          refine lv_iconst (v := 1) hx hb dX14_assign_124 (by decide) ?_
          have kb_1 : bd 1 1 (1 : Int32) := ⟨by decide, by decide⟩
          refine lv_icmp_ne (tgt := 150) hx hb dX14_assign_125 (by decide) (fun c_215 => ?_) (fun c_215 => ?_)
          · have fc_215 := neq_f c_215
            have b_216 : bd 2 0 y_196 := neX fc_215 b_197 kb_1 (by decide)
            exact bd_no b_216 (by decide)
          · have fc_215 := eq_f c_215
            refine lv_aload_n hx hb dX14_assign_128 rfl (lv_at hl 5 rfl) ?_
            refine g_getr (K := 218) (C := RX14) (T := TX14) (N := 67) hx hb hts (mc_ inX14) hown hK g ma0_ ka0_ (by decide) rfl 41 (by decide) rfl (hts _ (List.mem_cons_of_mem _ t_2187)) (fun _ h9 => h9) rfl dX14_assign_129 (fun a_217 ma_217 ka_217 g => ?_)
            refine lv_iconst (v := 3) hx hb dX14_assign_132 (by decide) ?_
            refine lv_aload_n hx hb dX14_assign_133 rfl (lv_at hl 5 rfl) ?_
            refine g_getk (C := RX14) (T := TX14) (N := 67) hx hb hts (mc_ inX14) hown hK g rfl 35 (by decide) rfl (hts _ (List.mem_cons_of_mem _ t_2181)) (fun _ h9 => h9) 1 rfl dX14_assign_134 ?_
            refine lv_imul hx hb dX14_assign_137 ?_
            refine lv_topi (fun y_218 ey_218 => ?_)
            have ty_218 := cmul_bd ey_218 (c := 3) (by decide) bw (by decide)
            have b_219 : bd 0 60 y_218 := mulc_rg ty_218 bw (by decide)
            refine lv_iload_n hx hb dX14_assign_138 rfl (lv_at hl 4 rfl) ?_
            refine lv_sipush (v := 1000) hx hb dX14_assign_139 (by decide) ?_
            refine lv_irem hx hb dX14_assign_142 (by decide) ?_
            refine lv_topi (fun y_220 ey_220 => ?_)
            have b_221 : bd 0 2 y_220 := rem_blk ey_220 b_151 kb_1000 (by decide)
            refine lv_iadd hx hb dX14_assign_143 ?_
            refine lv_topi (fun y_222 ey_222 => ?_)
            have ty_222 := add_bd ey_222 b_219 b_221 (by decide)
            have b_223 : bd 0 62 y_222 := add_rg ty_222 b_219 b_221 (by decide)
            refine lv_iload hx hb dX14_assign_144 (lv_at hl 0 rfl) ?_
            have go_ := g
            refine g_iast hx hb hK g ma_217 ka_217 (by decide) rfl (in_bd b_223 (by decide)) (bdT r_208) (by decide) dX14_assign_146 (fun f H locs hM_224 g => ?_)
            have hG_225 := isV.frame hM_224 go_.2.2.2.1 mq0_ kq0_ (by decide) (by decide) hG_214
            have hG_226 := RA.frame hM_224 go_.2.2.2.1 ma0_ ka0_ (by decide) (by decide) hG_210
            refine lv_goto (tgt := 228) hx hb dX14_assign_147 (by decide) ?_
            subst hQ
            exact W.thenQ (W.vret hx hb hr (fun t ht hW => g_retE g hK ⟨rfl, ⟨hG_226, x_211, ⟨h_212, (by have h9_0 := b_204; unfold bd at h9_0; have h9_1 := bs; unfold bd at h9_1; have h9_2 := bw; unfold bd at h9_2; have h9_3 := b_1; unfold bd at h9_3; have h9_4 := b_195; unfold bd at h9_4; have h9_5 := h_212; unfold bd at h9_5; have h9_6 := b_151; unfold bd at h9_6; have h9_7 := b_197; unfold bd at h9_7; have h9_8 := b_219; unfold bd at h9_8; have h9_9 := b_221; unfold bd at h9_9; have h9_10 := b_223; unfold bd at h9_10; have h8_0 := kb_0; unfold bd at h8_0; have h8_1 := kb_1; unfold bd at h8_1; have h8_2 := kb_1000; unfold bd at h8_2; have h8_3 := kb_m1; unfold bd at h8_3; omega)⟩, (g.fcts [1, 2] rfl)⟩⟩ ht hW) g.2.2.1.2.2 dX14_assign_228) (fun _ => MQ.toE)
      · have fc_205 := eq_f c_205
        have b_227 : bd 1 0 y_196 := eqX fc_205 b_197 kb_0 (by decide)
        exact bd_no b_227 (by decide)
  · have b_228 : bd 2000 2007 x_3 := ⟨h_4.1, h_4.2⟩
    refine lv_istore_n (lv' := [(2, .int x_3), (0, .ref a0_), (1, .int x1_)]) hx hb dX14_assign_9 rfl hl (by decide) rfl (fun ls hl => ?_)
    refine lv_aload_n hx hb dX14_assign_10 rfl (lv_at hl 1 rfl) ?_
    refine g_getk (C := RX14) (T := TX14) (N := 67) hx hb hts (mc_ inX14) hown hK g rfl 1 (by decide) rfl (hts _ (List.mem_cons_of_mem _ t_2147)) (fun _ h9 => h9) 1 rfl dX14_assign_11 ?_
    refine g_getr (K := 192) (C := RX12) (T := TX12) (N := 60) hx hb hts (mc_ inX12) hown hK g mq0_ kq0_ (by decide) rfl 37 (by decide) rfl (hts _ (List.mem_cons_of_mem _ t_1979)) (fun _ h9 => h9) rfl dX14_assign_14 (fun a_229 ma_229 ka_229 g => ?_)
    refine lv_iload_n hx hb dX14_assign_17 rfl (lv_at hl 2 rfl) ?_
    refine g_iald hx hb hK g ma_229 ka_229 (by decide) rfl (in_bd b_1 (by decide)) dX14_assign_18 (fun x_230 bx_230 cx_230 => ?_)
    have vx_230 : x_230 = V_.i 37 x1_.toNatClampNeg := hV.at g 0 rfl rfl cx_230
    refine lv_iconst (v := (-1)) hx hb dX14_assign_19 (by decide) ?_
    have kb_m1 : bd (-1) (-1) ((-1) : Int32) := ⟨by decide, by decide⟩
    refine lv_icmp_ne (tgt := 27) hx hb dX14_assign_20 (by decide) (fun c_231 => ?_) (fun c_231 => ?_)
    · have fc_231 := neq_f c_231
      refine lv_aload_n hx hb dX14_assign_27 rfl (lv_at hl 1 rfl) ?_
      refine lv_aload_n hx hb dX14_assign_28 rfl (lv_at hl 1 rfl) ?_
      refine g_getk (C := RX14) (T := TX14) (N := 67) hx hb hts (mc_ inX14) hown hK g rfl 1 (by decide) rfl (hts _ (List.mem_cons_of_mem _ t_2147)) (fun _ h9 => h9) 2 rfl dX14_assign_29 ?_
      refine g_getk (C := RX12) (T := TX12) (N := 60) hx hb hts (mc_ inX12) hown hK g rfl 37 (by decide) rfl (hts _ (List.mem_cons_of_mem _ t_1979)) (fun _ h9 => h9) 0 rfl dX14_assign_32 ?_
      refine lv_iload_n hx hb dX14_assign_35 rfl (lv_at hl 2 rfl) ?_
      refine g_iald hx hb hK g ma_229 ka_229 (by decide) rfl (in_bd b_1 (by decide)) dX14_assign_36 (fun x_232 bx_232 cx_232 => ?_)
      obtain rfl : x_230 = x_232 := el_same cx_230 cx_232 rfl
      have go_ := g
      refine g_callEi (As := [.int x_230]) (rest := []) ⟨hx, hb, hml, hown, hts⟩ (ih.1 l dC dI L kd tys f0 s.heap.size g.2.2.2.1 a0_ ma0_ ka0_ x_230 q0_ mq0_ kq0_ V_ δ_ hW w_ bw s_ bs Z_ O_ hV hR d_ hcl 13 (ss_idx hW hS ho vx_230 fc_231) (by have hN9 := hN; have bw9 := bw; unfold bd at bw9; omega) (g.fcts [2, 3, 4] rfl)) (cwV 1 hts (gV_ t_2634 t_2636 t_146 t_198 t_2637) rfl rfl rfl (by decide +kernel) ⟨(show N + 5 + 1 ≤ N + 1 + 5 by omega), (show 8 + (5 + 11) + (40 * N + 300) ≤ 40 * (N + 1) + 300 by omega)⟩) (pre3V g hK ma0_ ka0_ (by decide) (q := (RX14, TX14, 67)) rfl) rfl hl.1 rfl (lv_room (Nat.le_of_ble_eq_true rfl)) dX14_assign_37 ⟨(Nat.le_of_ble_eq_true rfl), (Nat.le_of_ble_eq_true rfl)⟩ g hK (by decide) (by decide) (fx' := [(12, 37, q0_, .ref a_229), (12, 35, q0_, .ref a_2), (14, 1, a0_, .ref q0_)]) rfl (fun xr_233 fr_233 H locs mxr_233 kxr_233 hp hMr_233 g => ?_) (fun r_233 fr_233 H locs hp hMr_233 g => ?_)
      · have hG_234 := isV.frame hMr_233 go_.2.2.2.1 mq0_ kq0_ (by decide) (by decide) hV
        subst hQ
        exact WX.leaves hempty hlocks (fun t ht hW => g_thrE g hK mxr_233 kxr_233 trivial ht hW) g.2.2.1.2.2
      · obtain ⟨hG_235, x_236, ⟨h_237, rh_237⟩, hF_238⟩ := hp
        have hG_239 := isV.frame hMr_233 go_.2.2.2.1 mq0_ kq0_ (by decide) (by decide) hV
        have g := g.more hF_238
        refine lv_istore_n (lv' := [(3, .int r_233), (2, .int x_3), (0, .ref a0_), (1, .int x1_)]) hx hb dX14_assign_40 rfl hl (by decide) rfl (fun ls hl => ?_)
        refine lv_iload_n hx hb dX14_assign_41 rfl (lv_at hl 1 rfl) ?_
        refine lv_sipush (v := 1000) hx hb dX14_assign_42 (by decide) ?_
        have kb_1000 : bd 1000 1000 (1000 : Int32) := ⟨by decide, by decide⟩
        refine lv_idiv hx hb dX14_assign_45 (by decide) ?_
        refine lv_topi (fun y_240 ey_240 => ?_)
        have b_241 : bd 2 2 y_240 := div_rg ey_240 b_228 kb_1000 (by decide)
        refine lv_istore (lv' := [(4, .int y_240), (3, .int r_233), (2, .int x_3), (0, .ref a0_), (1, .int x1_)]) hx hb dX14_assign_46 hl (by decide) rfl (fun ls hl => ?_)
        refine lv_aload_n hx hb dX14_assign_48 rfl (lv_at hl 3 rfl) ?_
        have go_ := g
        refine g_calli (va_runV (As := []) (rest := []) ⟨hx, hb, hml, hown, hts⟩ (r_X14_classHereN l dC dI L kd tys fr_233 H.size g.2.2.2.1 a0_ ma0_ ka0_ w_ bw Z_ O_ hG_235 (g.fcts [0] rfl)) (cwV 0 hts (gV_ t_2642 t_2644 t_148 t_198 t_2645) rfl rfl rfl (by decide +kernel) ⟨(show 0 + 1 ≤ N + 1 + 5 by omega), (show 8 + (1 + 11) + 0 ≤ 40 * (N + 1) + 300 by omega)⟩) (pre3V g hK ma0_ ka0_ (by decide) (q := (RX14, TX14, 67)) rfl) rfl rfl hl.1 rfl (lv_room (Nat.le_of_ble_eq_true rfl)) dX14_assign_49 ⟨(Nat.le_of_ble_eq_true rfl), (Nat.le_of_ble_eq_true rfl)⟩) g hK (by decide) (by decide) (fx' := [(14, 35, a0_, .int w_), (14, 34, a0_, .int x_236), (12, 37, q0_, .ref a_229), (12, 35, q0_, .ref a_2), (14, 1, a0_, .ref q0_)]) rfl (fun r_242 fr_242 H locs hp hMr_242 g => ?_)
        obtain ⟨hx_243, h_244, -⟩ := hp
        have hG_245 := isV.frame hMr_242 go_.2.2.2.1 mq0_ kq0_ (by decide) (by decide) hG_239
        have hG_246 := RA.frame hMr_242 go_.2.2.2.1 ma0_ ka0_ (by decide) (by decide) hG_235
        have hcA_247 : cAt V_ r_242 d_ := by rw [hx_243]; exact hcl
        have b_248 : bd 0 7 r_242 := ⟨hcA_247.1, h_244.2⟩
        refine lv_istore (lv' := [(5, .int r_242), (4, .int y_240), (3, .int r_233), (2, .int x_3), (0, .ref a0_), (1, .int x1_)]) hx hb dX14_assign_52 hl (by decide) rfl (fun ls hl => ?_)
        refine lv_iload hx hb dX14_assign_54 (lv_at hl 1 rfl) ?_
        have kb_0 : bd 0 0 (0 : Int32) := ⟨by decide, by decide⟩
        refine lv_if_ne (tgt := 107) hx hb dX14_assign_56 (by decide) (fun c_249 => ?_) (fun c_249 => ?_)
        · have fc_249 := neq_f c_249
          refine lv_aload_n hx hb dX14_assign_107 rfl (lv_at hl 4 rfl) ?_
          refine lv_aload_n hx hb dX14_assign_108 rfl (lv_at hl 4 rfl) ?_
          refine g_getk (C := RX14) (T := TX14) (N := 67) hx hb hts (mc_ inX14) hown hK g rfl 1 (by decide) rfl (hts _ (List.mem_cons_of_mem _ t_2147)) (fun _ h9 => h9) 4 rfl dX14_assign_109 ?_
          refine g_getr (K := 193) (C := RX12) (T := TX12) (N := 60) hx hb hts (mc_ inX12) hown hK g mq0_ kq0_ (by decide) rfl 38 (by decide) rfl (hts _ (List.mem_cons_of_mem _ t_1981)) (fun _ h9 => h9) rfl dX14_assign_112 (fun a_250 ma_250 ka_250 g => ?_)
          refine lv_iload_n hx hb dX14_assign_115 rfl (lv_at hl 5 rfl) ?_
          refine g_iald hx hb hK g ma_250 ka_250 (by decide) rfl (in_bd b_1 (by decide)) dX14_assign_116 (fun x_251 bx_251 cx_251 => ?_)
          have vx_251 : x_251 = V_.i 38 x1_.toNatClampNeg := hG_245.at g 0 rfl rfl cx_251
          have go_ := g
          refine g_callEi (As := [.int x_251]) (rest := []) ⟨hx, hb, hml, hown, hts⟩ (ih.1 l dC dI L kd tys fr_242 H.size g.2.2.2.1 a0_ ma0_ ka0_ x_251 q0_ mq0_ kq0_ V_ δ_ hW w_ bw x_236 h_237 Z_ O_ hG_245 hG_246 d_ hcl 13 (ss_ex hW hS (by omega) vx_251) (by have hN9 := hN; have bw9 := bw; unfold bd at bw9; omega) (g.fcts [5, 1, 2] rfl)) (cwV 1 hts (gV_ t_2634 t_2636 t_146 t_198 t_2637) rfl rfl rfl (by decide +kernel) ⟨(show N + 5 + 1 ≤ N + 1 + 5 by omega), (show 8 + (5 + 11) + (40 * N + 300) ≤ 40 * (N + 1) + 300 by omega)⟩) (pre3V g hK ma0_ ka0_ (by decide) (q := (RX14, TX14, 67)) rfl) rfl hl.1 rfl (lv_room (Nat.le_of_ble_eq_true rfl)) dX14_assign_117 ⟨(Nat.le_of_ble_eq_true rfl), (Nat.le_of_ble_eq_true rfl)⟩ g hK (by decide) (by decide) (fx' := [(12, 38, q0_, .ref a_250), (12, 37, q0_, .ref a_229), (12, 35, q0_, .ref a_2), (14, 1, a0_, .ref q0_)]) rfl (fun xr_252 fr_252 H locs mxr_252 kxr_252 hp hMr_252 g => ?_) (fun r_252 fr_252 H locs hp hMr_252 g => ?_)
          · have hG_253 := isV.frame hMr_252 go_.2.2.2.1 mq0_ kq0_ (by decide) (by decide) hG_245
            subst hQ
            exact WX.leaves hempty hlocks (fun t ht hW => g_thrE g hK mxr_252 kxr_252 trivial ht hW) g.2.2.1.2.2
          · obtain ⟨hG_254, x_255, ⟨h_256, rh_256⟩, hF_257⟩ := hp
            have hG_258 := isV.frame hMr_252 go_.2.2.2.1 mq0_ kq0_ (by decide) (by decide) hG_245
            have g := g.more hF_257
            refine lv_istore (lv' := [(6, .int r_252), (5, .int r_242), (4, .int y_240), (3, .int r_233), (2, .int x_3), (0, .ref a0_), (1, .int x1_)]) hx hb dX14_assign_120 hl (by decide) rfl (fun ls hl => ?_)
            refine lv_iload hx hb dX14_assign_122 (lv_at hl 2 rfl) ?_
            refine lv_iconst (v := 1) hx hb dX14_assign_124 (by decide) ?_
            have kb_1 : bd 1 1 (1 : Int32) := ⟨by decide, by decide⟩
            refine lv_icmp_ne (tgt := 150) hx hb dX14_assign_125 (by decide) (fun c_259 => ?_) (fun c_259 => ?_)
            · have fc_259 := neq_f c_259
              refine lv_iload hx hb dX14_assign_150 (lv_at hl 2 rfl) ?_
              refine lv_iconst (v := 2) hx hb dX14_assign_152 (by decide) ?_
              have kb_2 : bd 2 2 (2 : Int32) := ⟨by decide, by decide⟩
              refine lv_icmp_ne (tgt := 179) hx hb dX14_assign_153 (by decide) (fun c_260 => ?_) (fun c_260 => ?_)
              · have fc_260 := neq_f c_260
                have b_261 : bd 3 1 y_240 := neX fc_260 b_241 kb_2 (by decide)
                exact bd_no b_261 (by decide)
              · have fc_260 := eq_f c_260
                refine lv_aload_n hx hb dX14_assign_156 rfl (lv_at hl 5 rfl) ?_
                refine g_getr (K := 219) (C := RX14) (T := TX14) (N := 67) hx hb hts (mc_ inX14) hown hK g ma0_ ka0_ (by decide) rfl 42 (by decide) rfl (hts _ (List.mem_cons_of_mem _ t_2188)) (fun _ h9 => h9) rfl dX14_assign_157 (fun a_262 ma_262 ka_262 g => ?_)
                refine lv_bipush (v := 8) hx hb dX14_assign_160 (by decide) ?_
                refine lv_aload_n hx hb dX14_assign_162 rfl (lv_at hl 5 rfl) ?_
                refine g_getk (C := RX14) (T := TX14) (N := 67) hx hb hts (mc_ inX14) hown hK g rfl 35 (by decide) rfl (hts _ (List.mem_cons_of_mem _ t_2181)) (fun _ h9 => h9) 1 rfl dX14_assign_163 ?_
                refine lv_imul hx hb dX14_assign_166 ?_
                refine lv_topi (fun y_263 ey_263 => ?_)
                have ty_263 := cmul_bd ey_263 (c := 8) (by decide) bw (by decide)
                have b_264 : bd 0 160 y_263 := mulc_rg ty_263 bw (by decide)
                refine lv_iload_n hx hb dX14_assign_167 rfl (lv_at hl 4 rfl) ?_
                refine lv_sipush (v := 1000) hx hb dX14_assign_168 (by decide) ?_
                refine lv_irem hx hb dX14_assign_171 (by decide) ?_
                refine lv_topi (fun y_265 ey_265 => ?_)
                have b_266 : bd 0 7 y_265 := rem_blk ey_265 b_228 kb_1000 (by decide)
                refine lv_iadd hx hb dX14_assign_172 ?_
                refine lv_topi (fun y_267 ey_267 => ?_)
                have ty_267 := add_bd ey_267 b_264 b_266 (by decide)
                have b_268 : bd 0 167 y_267 := add_rg ty_267 b_264 b_266 (by decide)
                refine lv_iload hx hb dX14_assign_173 (lv_at hl 0 rfl) ?_
                have go_ := g
                refine g_iast hx hb hK g ma_262 ka_262 (by decide) rfl (in_bd b_268 (by decide)) (bdT r_252) (by decide) dX14_assign_175 (fun f H locs hM_269 g => ?_)
                have hG_270 := isV.frame hM_269 go_.2.2.2.1 mq0_ kq0_ (by decide) (by decide) hG_258
                have hG_271 := RA.frame hM_269 go_.2.2.2.1 ma0_ ka0_ (by decide) (by decide) hG_254
                refine lv_goto (tgt := 228) hx hb dX14_assign_176 (by decide) ?_
                subst hQ
                exact W.thenQ (W.vret hx hb hr (fun t ht hW => g_retE g hK ⟨rfl, ⟨hG_271, x_255, ⟨h_256, (by have h9_0 := b_248; unfold bd at h9_0; have h9_1 := bs; unfold bd at h9_1; have h9_2 := bw; unfold bd at h9_2; have h9_3 := b_1; unfold bd at h9_3; have h9_4 := h_237; unfold bd at h9_4; have h9_5 := h_256; unfold bd at h9_5; have h9_6 := b_228; unfold bd at h9_6; have h9_7 := b_241; unfold bd at h9_7; have h9_8 := b_264; unfold bd at h9_8; have h9_9 := b_266; unfold bd at h9_9; have h9_10 := b_268; unfold bd at h9_10; have h8_0 := kb_0; unfold bd at h8_0; have h8_1 := kb_1; unfold bd at h8_1; have h8_2 := kb_1000; unfold bd at h8_2; have h8_3 := kb_2; unfold bd at h8_3; have h8_4 := kb_m1; unfold bd at h8_4; omega)⟩, (g.fcts [1, 2] rfl)⟩⟩ ht hW) g.2.2.1.2.2 dX14_assign_228) (fun _ => MQ.toE)
            · have fc_259 := eq_f c_259
              have b_272 : bd 2 1 y_240 := eqX fc_259 b_241 kb_1 (by decide)
              exact bd_no b_272 (by decide)
        · have fc_249 := eq_f c_249
          have b_273 : bd 2 0 y_240 := eqX fc_249 b_241 kb_0 (by decide)
          exact bd_no b_273 (by decide)
    · have fc_231 := eq_f c_231
      have b_274 : bd (-1) (-1) x_230 := eqX fc_231 (bdT x_230) kb_m1 (by decide)
      refine lv_iconst (v := 0) hx hb dX14_assign_23 (by decide) ?_
      refine lv_goto (tgt := 40) hx hb dX14_assign_24 (by decide) ?_
      refine lv_istore_n (lv' := [(3, .int 0), (2, .int x_3), (0, .ref a0_), (1, .int x1_)]) hx hb dX14_assign_40 rfl hl (by decide) rfl (fun ls hl => ?_)
      refine lv_iload_n hx hb dX14_assign_41 rfl (lv_at hl 1 rfl) ?_
      refine lv_sipush (v := 1000) hx hb dX14_assign_42 (by decide) ?_
      have kb_1000 : bd 1000 1000 (1000 : Int32) := ⟨by decide, by decide⟩
      refine lv_idiv hx hb dX14_assign_45 (by decide) ?_
      refine lv_topi (fun y_275 ey_275 => ?_)
      have b_276 : bd 2 2 y_275 := div_rg ey_275 b_228 kb_1000 (by decide)
      refine lv_istore (lv' := [(4, .int y_275), (3, .int 0), (2, .int x_3), (0, .ref a0_), (1, .int x1_)]) hx hb dX14_assign_46 hl (by decide) rfl (fun ls hl => ?_)
      refine lv_aload_n hx hb dX14_assign_48 rfl (lv_at hl 3 rfl) ?_
      have go_ := g
      refine g_calli (va_runV (As := []) (rest := []) ⟨hx, hb, hml, hown, hts⟩ (r_X14_classHereN l dC dI L kd tys f0 s.heap.size g.2.2.2.1 a0_ ma0_ ka0_ w_ bw Z_ O_ hR (g.fcts [3] rfl)) (cwV 0 hts (gV_ t_2642 t_2644 t_148 t_198 t_2645) rfl rfl rfl (by decide +kernel) ⟨(show 0 + 1 ≤ N + 1 + 5 by omega), (show 8 + (1 + 11) + 0 ≤ 40 * (N + 1) + 300 by omega)⟩) (pre3V g hK ma0_ ka0_ (by decide) (q := (RX14, TX14, 67)) rfl) rfl rfl hl.1 rfl (lv_room (Nat.le_of_ble_eq_true rfl)) dX14_assign_49 ⟨(Nat.le_of_ble_eq_true rfl), (Nat.le_of_ble_eq_true rfl)⟩) g hK (by decide) (by decide) (fx' := [(12, 37, q0_, .ref a_229), (12, 35, q0_, .ref a_2), (14, 1, a0_, .ref q0_), (14, 35, a0_, .int w_), (14, 34, a0_, .int s_)]) rfl (fun r_277 fr_277 H locs hp hMr_277 g => ?_)
      obtain ⟨hx_278, h_279, -⟩ := hp
      have hG_280 := isV.frame hMr_277 go_.2.2.2.1 mq0_ kq0_ (by decide) (by decide) hV
      have hG_281 := RA.frame hMr_277 go_.2.2.2.1 ma0_ ka0_ (by decide) (by decide) hR
      have hcA_282 : cAt V_ r_277 d_ := by rw [hx_278]; exact hcl
      have b_283 : bd 0 7 r_277 := ⟨hcA_282.1, h_279.2⟩
      refine lv_istore (lv' := [(5, .int r_277), (4, .int y_275), (3, .int 0), (2, .int x_3), (0, .ref a0_), (1, .int x1_)]) hx hb dX14_assign_52 hl (by decide) rfl (fun ls hl => ?_)
      refine lv_iload hx hb dX14_assign_54 (lv_at hl 1 rfl) ?_
      have kb_0 : bd 0 0 (0 : Int32) := ⟨by decide, by decide⟩
      refine lv_if_ne (tgt := 107) hx hb dX14_assign_56 (by decide) (fun c_284 => ?_) (fun c_284 => ?_)
      · have fc_284 := neq_f c_284
        refine lv_aload_n hx hb dX14_assign_107 rfl (lv_at hl 4 rfl) ?_
        refine lv_aload_n hx hb dX14_assign_108 rfl (lv_at hl 4 rfl) ?_
        refine g_getk (C := RX14) (T := TX14) (N := 67) hx hb hts (mc_ inX14) hown hK g rfl 1 (by decide) rfl (hts _ (List.mem_cons_of_mem _ t_2147)) (fun _ h9 => h9) 2 rfl dX14_assign_109 ?_
        refine g_getr (K := 193) (C := RX12) (T := TX12) (N := 60) hx hb hts (mc_ inX12) hown hK g mq0_ kq0_ (by decide) rfl 38 (by decide) rfl (hts _ (List.mem_cons_of_mem _ t_1981)) (fun _ h9 => h9) rfl dX14_assign_112 (fun a_285 ma_285 ka_285 g => ?_)
        refine lv_iload_n hx hb dX14_assign_115 rfl (lv_at hl 5 rfl) ?_
        refine g_iald hx hb hK g ma_285 ka_285 (by decide) rfl (in_bd b_1 (by decide)) dX14_assign_116 (fun x_286 bx_286 cx_286 => ?_)
        have vx_286 : x_286 = V_.i 38 x1_.toNatClampNeg := hG_280.at g 0 rfl rfl cx_286
        have go_ := g
        refine g_callEi (As := [.int x_286]) (rest := []) ⟨hx, hb, hml, hown, hts⟩ (ih.1 l dC dI L kd tys fr_277 H.size g.2.2.2.1 a0_ ma0_ ka0_ x_286 q0_ mq0_ kq0_ V_ δ_ hW w_ bw s_ bs Z_ O_ hG_280 hG_281 d_ hcl 13 (ss_ex hW hS (by omega) vx_286) (by have hN9 := hN; have bw9 := bw; unfold bd at bw9; omega) (g.fcts [3, 4, 5] rfl)) (cwV 1 hts (gV_ t_2634 t_2636 t_146 t_198 t_2637) rfl rfl rfl (by decide +kernel) ⟨(show N + 5 + 1 ≤ N + 1 + 5 by omega), (show 8 + (5 + 11) + (40 * N + 300) ≤ 40 * (N + 1) + 300 by omega)⟩) (pre3V g hK ma0_ ka0_ (by decide) (q := (RX14, TX14, 67)) rfl) rfl hl.1 rfl (lv_room (Nat.le_of_ble_eq_true rfl)) dX14_assign_117 ⟨(Nat.le_of_ble_eq_true rfl), (Nat.le_of_ble_eq_true rfl)⟩ g hK (by decide) (by decide) (fx' := [(12, 38, q0_, .ref a_285), (12, 37, q0_, .ref a_229), (12, 35, q0_, .ref a_2), (14, 1, a0_, .ref q0_)]) rfl (fun xr_287 fr_287 H locs mxr_287 kxr_287 hp hMr_287 g => ?_) (fun r_287 fr_287 H locs hp hMr_287 g => ?_)
        · have hG_288 := isV.frame hMr_287 go_.2.2.2.1 mq0_ kq0_ (by decide) (by decide) hG_280
          subst hQ
          exact WX.leaves hempty hlocks (fun t ht hW => g_thrE g hK mxr_287 kxr_287 trivial ht hW) g.2.2.1.2.2
        · obtain ⟨hG_289, x_290, ⟨h_291, rh_291⟩, hF_292⟩ := hp
          have hG_293 := isV.frame hMr_287 go_.2.2.2.1 mq0_ kq0_ (by decide) (by decide) hG_280
          have g := g.more hF_292
          refine lv_istore (lv' := [(6, .int r_287), (5, .int r_277), (4, .int y_275), (3, .int 0), (2, .int x_3), (0, .ref a0_), (1, .int x1_)]) hx hb dX14_assign_120 hl (by decide) rfl (fun ls hl => ?_)
          refine lv_iload hx hb dX14_assign_122 (lv_at hl 2 rfl) ?_
          refine lv_iconst (v := 1) hx hb dX14_assign_124 (by decide) ?_
          have kb_1 : bd 1 1 (1 : Int32) := ⟨by decide, by decide⟩
          refine lv_icmp_ne (tgt := 150) hx hb dX14_assign_125 (by decide) (fun c_294 => ?_) (fun c_294 => ?_)
          · have fc_294 := neq_f c_294
            refine lv_iload hx hb dX14_assign_150 (lv_at hl 2 rfl) ?_
            refine lv_iconst (v := 2) hx hb dX14_assign_152 (by decide) ?_
            have kb_2 : bd 2 2 (2 : Int32) := ⟨by decide, by decide⟩
            refine lv_icmp_ne (tgt := 179) hx hb dX14_assign_153 (by decide) (fun c_295 => ?_) (fun c_295 => ?_)
            · have fc_295 := neq_f c_295
              have b_296 : bd 3 1 y_275 := neX fc_295 b_276 kb_2 (by decide)
              exact bd_no b_296 (by decide)
            · have fc_295 := eq_f c_295
              refine lv_aload_n hx hb dX14_assign_156 rfl (lv_at hl 5 rfl) ?_
              refine g_getr (K := 219) (C := RX14) (T := TX14) (N := 67) hx hb hts (mc_ inX14) hown hK g ma0_ ka0_ (by decide) rfl 42 (by decide) rfl (hts _ (List.mem_cons_of_mem _ t_2188)) (fun _ h9 => h9) rfl dX14_assign_157 (fun a_297 ma_297 ka_297 g => ?_)
              refine lv_bipush (v := 8) hx hb dX14_assign_160 (by decide) ?_
              refine lv_aload_n hx hb dX14_assign_162 rfl (lv_at hl 5 rfl) ?_
              refine g_getk (C := RX14) (T := TX14) (N := 67) hx hb hts (mc_ inX14) hown hK g rfl 35 (by decide) rfl (hts _ (List.mem_cons_of_mem _ t_2181)) (fun _ h9 => h9) 1 rfl dX14_assign_163 ?_
              refine lv_imul hx hb dX14_assign_166 ?_
              refine lv_topi (fun y_298 ey_298 => ?_)
              have ty_298 := cmul_bd ey_298 (c := 8) (by decide) bw (by decide)
              have b_299 : bd 0 160 y_298 := mulc_rg ty_298 bw (by decide)
              refine lv_iload_n hx hb dX14_assign_167 rfl (lv_at hl 4 rfl) ?_
              refine lv_sipush (v := 1000) hx hb dX14_assign_168 (by decide) ?_
              refine lv_irem hx hb dX14_assign_171 (by decide) ?_
              refine lv_topi (fun y_300 ey_300 => ?_)
              have b_301 : bd 0 7 y_300 := rem_blk ey_300 b_228 kb_1000 (by decide)
              refine lv_iadd hx hb dX14_assign_172 ?_
              refine lv_topi (fun y_302 ey_302 => ?_)
              have ty_302 := add_bd ey_302 b_299 b_301 (by decide)
              have b_303 : bd 0 167 y_302 := add_rg ty_302 b_299 b_301 (by decide)
              refine lv_iload hx hb dX14_assign_173 (lv_at hl 0 rfl) ?_
              have go_ := g
              refine g_iast hx hb hK g ma_297 ka_297 (by decide) rfl (in_bd b_303 (by decide)) (bdT r_287) (by decide) dX14_assign_175 (fun f H locs hM_304 g => ?_)
              have hG_305 := isV.frame hM_304 go_.2.2.2.1 mq0_ kq0_ (by decide) (by decide) hG_293
              have hG_306 := RA.frame hM_304 go_.2.2.2.1 ma0_ ka0_ (by decide) (by decide) hG_289
              refine lv_goto (tgt := 228) hx hb dX14_assign_176 (by decide) ?_
              subst hQ
              exact W.thenQ (W.vret hx hb hr (fun t ht hW => g_retE g hK ⟨rfl, ⟨hG_306, x_290, ⟨h_291, (by have h9_0 := b_283; unfold bd at h9_0; have h9_1 := bs; unfold bd at h9_1; have h9_2 := bw; unfold bd at h9_2; have h9_3 := b_1; unfold bd at h9_3; have h9_4 := b_274; unfold bd at h9_4; have h9_5 := h_291; unfold bd at h9_5; have h9_6 := b_228; unfold bd at h9_6; have h9_7 := b_276; unfold bd at h9_7; have h9_8 := b_299; unfold bd at h9_8; have h9_9 := b_301; unfold bd at h9_9; have h9_10 := b_303; unfold bd at h9_10; have h8_0 := kb_0; unfold bd at h8_0; have h8_1 := kb_1; unfold bd at h8_1; have h8_2 := kb_1000; unfold bd at h8_2; have h8_3 := kb_2; unfold bd at h8_3; have h8_4 := kb_m1; unfold bd at h8_4; omega)⟩, (g.fcts [1, 2] rfl)⟩⟩ ht hW) g.2.2.1.2.2 dX14_assign_228) (fun _ => MQ.toE)
          · have fc_294 := eq_f c_294
            have b_307 : bd 2 1 y_275 := eqX fc_294 b_276 kb_1 (by decide)
            exact bd_no b_307 (by decide)
      · have fc_284 := eq_f c_284
        have b_308 : bd 2 0 y_275 := eqX fc_284 b_276 kb_0 (by decide)
        exact bd_no b_308 (by decide)
