set_option maxHeartbeats 4000000 in
set_option maxRecDepth 100000 in
theorem r_X14_callOf (N : Nat) (ih : RecN N) (l : Launch) (dC : Nat → ClassId) (dI : Nat → Nat → Nat) (L : List Nat) (kd : Nat → Nat) (tys : List (ClassId × FieldType)) (f0 : Nat → va_E) (sz : Nat) (hWT : WT L kd tys f0) (a0_ : Nat) (ma0_ : a0_ ∈ L) (ka0_ : kd a0_ = 14) (x1_ : Int32) (x2_ : Int32) (q0_ : Nat) (mq0_ : q0_ ∈ L) (kq0_ : kd q0_ = 12) (V_ : PV) (δ_ : Nat → Nat) (hW : wfP V_ δ_) (w_ : Int32) (bw : bd 0 20 w_) (s_ : Int32) (bs : bd 0 300 s_) (Z_ : Nat → Int32) (O_ : Nat → Int32) (hV : isV f0 q0_ V_) (hR : RA f0 a0_ w_ Z_ O_) (d_ : Nat) (hcl : cAt V_ (O_ (Z_ w_.toNatClampNeg).toNatClampNeg) d_) (h_ : Int) (hE : EV V_ x1_ h_ d_) (hC : isC V_ x1_) (hN : 47 * (20 - w_.toInt) + 2 * h_ ≤ ((N + 1 : Nat) : Int)) (hfx : Fs L kd f0 [(14, 1, a0_, .ref q0_), (14, 35, a0_, .int w_), (14, 34, a0_, .int s_)]) : MetE l yX14_callOf (.code yX14_callOf cX14_callOf 10 (some .int) :: lw_g) ({ frames := (N + 1) + 5, cells := 0, slots := 0, locals := 40 * (N + 1) + 300 }) (va_Pc [.ref a0_, .int x1_, .int x2_] (P3 (dC, dI) L tys f0 sz)) (q3E (dC, dI) L kd tys [(14, 31), (14, 32), (14, 33), (14, 34), (14, 35), (14, 39), (14, 40), (14, 45)] [200, 216, 218, 219, 220, 221] f0 sz (pRi (fun (r : Int32) (f : Nat → va_E) => (RA f a0_ w_ Z_ O_ ∧ ∃ z1_ : Int32, (bd 0 300 z1_ ∧ s_.toInt ≤ z1_.toInt) ∧ Fs L kd f [(14, 35, a0_, .int w_), (14, 34, a0_, .int z1_)]))) (fun (f : Nat → va_E) => True)) 0 0 (pA L sz) := by
  refine MetE.ofW (cc := cX14_callOf) (maxL := 10) (ret := (some .int)) (by decide) rfl ?_
  intro p e s m args below meth c s₁ B hml hempty hv
  obtain ⟨rfl, hsz, hP, hK, hD0⟩ := hv
  have hx := B.exec
  have hb := B.bytes
  have hr := B.returns
  have hts := atoms_spec (ws := (.code yX14_callOf cX14_callOf 10 (some .int) :: lw_g)) B.pre
  have hown : s.vm.findClass RX14 = some m.cls := findClass_of_methodNamed B.named
  have hlocks := B.notSynchronized
  subst hsz
  have g : G3 (dC, dI) L kd tys s f0 [(14, 31), (14, 32), (14, 33), (14, 34), (14, 35), (14, 39), (14, 40), (14, 45)] [200, 216, 218, 219, 220, 221] f0 s.heap [] [(14, 1, a0_, .ref q0_), (14, 35, a0_, .int w_), (14, 34, a0_, .int s_)] := G3.start hP hD0 hWT hfx
  have hl := lv_entry ([.ref a0_, .int x1_, .int x2_]) (n := 10) (Nat.le_of_ble_eq_true rfl)
  rw [lg_entry_eq]
  generalize (lg_sl ([.ref a0_, .int x1_, .int x2_]) ++ List.replicate (10 - (lg_sl ([.ref a0_, .int x1_, .int x2_])).length) Slot.unset).toArray = ls at hl ⊢
  have hl : lv_has ls 10 [(0, .ref a0_), (1, .int x1_), (2, .int x2_)] := hl
  refine W_q (fun Q hQ => ?_)
  have b_1 : bd 0 2499 x1_ := EV.bd hW hE
  refine lv_aload_n hx hb dX14_callOf_0 rfl (lv_at hl 0 rfl) ?_
  have go_ := g
  refine g_calli (va_runV (As := []) (rest := []) ⟨hx, hb, hml, hown, hts⟩ (r_X14_classHereN l dC dI L kd tys f0 s.heap.size g.2.2.2.1 a0_ ma0_ ka0_ w_ bw Z_ O_ hR (g.fcts [1] rfl)) (cwV 0 hts (gV_ t_2642 t_2644 t_148 t_198 t_2645) rfl rfl rfl (by decide +kernel) ⟨(show 0 + 1 ≤ N + 1 + 5 by omega), (show 8 + (1 + 11) + 0 ≤ 40 * (N + 1) + 300 by omega)⟩) (pre3V g hK ma0_ ka0_ (by decide) (q := (RX14, TX14, 67)) rfl) rfl rfl hl.1 rfl (lv_room (Nat.le_of_ble_eq_true rfl)) dX14_callOf_1 ⟨(Nat.le_of_ble_eq_true rfl), (Nat.le_of_ble_eq_true rfl)⟩) g hK (by decide) (by decide) (fx' := [(14, 1, a0_, .ref q0_), (14, 35, a0_, .int w_), (14, 34, a0_, .int s_)]) rfl (fun r_2 fr_2 H locs hp hMr_2 g => ?_)
  obtain ⟨hx_3, h_4, -⟩ := hp
  have hG_5 := isV.frame hMr_2 go_.2.2.2.1 mq0_ kq0_ (by decide) (by decide) hV
  have hG_6 := RA.frame hMr_2 go_.2.2.2.1 ma0_ ka0_ (by decide) (by decide) hR
  have hcA_7 : cAt V_ r_2 d_ := by rw [hx_3]; exact hcl
  have b_8 : bd 0 7 r_2 := ⟨hcA_7.1, h_4.2⟩
  refine lv_istore_n (lv' := [(3, .int r_2), (0, .ref a0_), (1, .int x1_), (2, .int x2_)]) hx hb dX14_callOf_4 rfl hl (by decide) rfl (fun ls hl => ?_)
  refine lv_aload_n hx hb dX14_callOf_5 rfl (lv_at hl 1 rfl) ?_
  refine g_getk (C := RX14) (T := TX14) (N := 67) hx hb hts (mc_ inX14) hown hK g rfl 1 (by decide) rfl (hts _ (List.mem_cons_of_mem _ t_2147)) (fun _ h9 => h9) 0 rfl dX14_callOf_6 ?_
  refine g_getr (K := 201) (C := RX12) (T := TX12) (N := 60) hx hb hts (mc_ inX12) hown hK g mq0_ kq0_ (by decide) rfl 47 (by decide) rfl (hts _ (List.mem_cons_of_mem _ t_1998)) (fun _ h9 => h9) rfl dX14_callOf_9 (fun a_9 ma_9 ka_9 g => ?_)
  refine lv_iload_n hx hb dX14_callOf_12 rfl (lv_at hl 2 rfl) ?_
  refine g_iald hx hb hK g ma_9 ka_9 (by decide) rfl (in_bd b_1 (by decide)) dX14_callOf_13 (fun x_10 bx_10 cx_10 => ?_)
  have vx_10 : x_10 = V_.i 47 x1_.toNatClampNeg := hG_5.at g 0 rfl rfl cx_10
  refine lv_bipush (v := 9) hx hb dX14_callOf_14 (by decide) ?_
  have kb_9 : bd 9 9 (9 : Int32) := ⟨by decide, by decide⟩
  refine lv_icmp_ne (tgt := 64) hx hb dX14_callOf_16 (by decide) (fun c_11 => ?_) (fun c_11 => ?_)
  · have fc_11 := neq_f c_11
    refine lv_aload_n hx hb dX14_callOf_64 rfl (lv_at hl 1 rfl) ?_
    refine g_getk (C := RX14) (T := TX14) (N := 67) hx hb hts (mc_ inX14) hown hK g rfl 1 (by decide) rfl (hts _ (List.mem_cons_of_mem _ t_2147)) (fun _ h9 => h9) 1 rfl dX14_callOf_65 ?_
    refine lv_iload_n hx hb dX14_callOf_68 rfl (lv_at hl 0 rfl) ?_
    refine lv_aload_n hx hb dX14_callOf_69 rfl (lv_at hl 1 rfl) ?_
    refine g_getk (C := RX14) (T := TX14) (N := 67) hx hb hts (mc_ inX14) hown hK g rfl 1 (by decide) rfl (hts _ (List.mem_cons_of_mem _ t_2147)) (fun _ h9 => h9) 1 rfl dX14_callOf_70 ?_
    refine g_getr (K := 209) (C := RX12) (T := TX12) (N := 60) hx hb hts (mc_ inX12) hown hK g mq0_ kq0_ (by decide) rfl 55 (by decide) rfl (hts _ (List.mem_cons_of_mem _ t_2014)) (fun _ h9 => h9) rfl dX14_callOf_73 (fun a_12 ma_12 ka_12 g => ?_)
    refine lv_iload_n hx hb dX14_callOf_76 rfl (lv_at hl 2 rfl) ?_
    refine g_laldX hx hb hK g ma_12 ka_12 (by decide) rfl (in_bd b_1 (by decide)) dX14_callOf_77 (fun x_13 cx_13 => ?_)
    have vx_13 : x_13 = V_.l 55 x1_.toNatClampNeg := hG_5.atL g 0 rfl rfl cx_13
    refine lv_aload_n hx hb dX14_callOf_78 rfl (lv_at hl 1 rfl) ?_
    refine g_getk (C := RX14) (T := TX14) (N := 67) hx hb hts (mc_ inX14) hown hK g rfl 1 (by decide) rfl (hts _ (List.mem_cons_of_mem _ t_2147)) (fun _ h9 => h9) 2 rfl dX14_callOf_79 ?_
    refine g_getr (K := 210) (C := RX12) (T := TX12) (N := 60) hx hb hts (mc_ inX12) hown hK g mq0_ kq0_ (by decide) rfl 56 (by decide) rfl (hts _ (List.mem_cons_of_mem _ t_2016)) (fun _ h9 => h9) rfl dX14_callOf_82 (fun a_14 ma_14 ka_14 g => ?_)
    refine lv_iload_n hx hb dX14_callOf_85 rfl (lv_at hl 2 rfl) ?_
    refine g_laldX hx hb hK g ma_14 ka_14 (by decide) rfl (in_bd b_1 (by decide)) dX14_callOf_86 (fun x_15 cx_15 => ?_)
    have vx_15 : x_15 = V_.l 56 x1_.toNatClampNeg := hG_5.atL g 0 rfl rfl cx_15
    have go_ := g
    refine g_calli (va_runV (As := [.int r_2, .long x_13, .long x_15]) (rest := []) ⟨hx, hb, hml, hown, hts⟩ (r_X12_findN l dC dI L kd tys fr_2 H.size g.2.2.2.1 q0_ mq0_ kq0_ r_2 (bd_sub b_8 (by decide)) x_13 x_15 V_ hG_5) (cwV 3 hts (gV_ t_2500 t_2501 t_2502 t_203 t_2503) rfl rfl rfl (by decide +kernel) ⟨(show 0 + 1 ≤ N + 1 + 5 by omega), (show 8 + (7 + 11) + 0 ≤ 40 * (N + 1) + 300 by omega)⟩) (pre3V g hK mq0_ kq0_ (by decide) (q := (RX12, TX12, 60)) rfl) rfl rfl hl.1 rfl (lv_room (Nat.le_of_ble_eq_true rfl)) dX14_callOf_87 ⟨(Nat.le_of_ble_eq_true rfl), (Nat.le_of_ble_eq_true rfl)⟩) g hK (by decide) (by decide) (fx' := [(12, 56, q0_, .ref a_14), (12, 55, q0_, .ref a_12), (12, 47, q0_, .ref a_9), (14, 1, a0_, .ref q0_), (14, 35, a0_, .int w_), (14, 34, a0_, .int s_)]) rfl (fun r_16 fr_16 H locs hp hMr_16 g => ?_)
    rcases hp with ⟨hx_17, h_18, -⟩ | ⟨hx_19, h_20, -⟩
    · have hG_21 := isV.frame hMr_16 go_.2.2.2.1 mq0_ kq0_ (by decide) (by decide) hG_5
      have hG_22 := RA.frame hMr_16 go_.2.2.2.1 ma0_ ka0_ (by decide) (by decide) hG_6
      obtain rfl : r_16 = (-1) := h_18
      exact absurd (by rw [vx_13, vx_15]; exact hcA_7.2.2.2 _ _ (ev_c hW hE vx_10 hC (fun h9 => fc_11 (h9.trans (by decide)))) : fnd V_ r_2.toNatClampNeg x_13 x_15) hx_17
    · have hG_23 := isV.frame hMr_16 go_.2.2.2.1 mq0_ kq0_ (by decide) (by decide) hG_5
      have hG_24 := RA.frame hMr_16 go_.2.2.2.1 ma0_ ka0_ (by decide) (by decide) hG_6
      have hm_25 := hx_19.mem hW ⟨hcA_7.1, hcA_7.2.1⟩
      have hz_26 : cAt V_ (O_ (Z_ w_.toNatClampNeg).toNatClampNeg) (V_.i 18 r_16.toNatClampNeg).toNatClampNeg := by rw [← hx_3]; exact hcA_7.tr hm_25.2
      refine lv_istore (lv' := [(4, .int r_16), (3, .int r_2), (0, .ref a0_), (1, .int x1_), (2, .int x2_)]) hx hb dX14_callOf_90 hl (by decide) rfl (fun ls hl => ?_)
      refine lv_aload_n hx hb dX14_callOf_92 rfl (lv_at hl 2 rfl) ?_
      refine g_getk (C := RX14) (T := TX14) (N := 67) hx hb hts (mc_ inX14) hown hK g rfl 1 (by decide) rfl (hts _ (List.mem_cons_of_mem _ t_2147)) (fun _ h9 => h9) 3 rfl dX14_callOf_93 ?_
      refine g_getr (K := 206) (C := RX12) (T := TX12) (N := 60) hx hb hts (mc_ inX12) hown hK g mq0_ kq0_ (by decide) rfl 52 (by decide) rfl (hts _ (List.mem_cons_of_mem _ t_2008)) (fun _ h9 => h9) rfl dX14_callOf_96 (fun a_27 ma_27 ka_27 g => ?_)
      refine lv_iload_n hx hb dX14_callOf_99 rfl (lv_at hl 3 rfl) ?_
      refine g_iald hx hb hK g ma_27 ka_27 (by decide) rfl (in_bd b_1 (by decide)) dX14_callOf_100 (fun x_28 bx_28 cx_28 => ?_)
      have vx_28 : x_28 = V_.i 52 x1_.toNatClampNeg := hG_23.at g 0 rfl rfl cx_28
      refine lv_istore (lv' := [(5, .int x_28), (4, .int r_16), (3, .int r_2), (0, .ref a0_), (1, .int x1_), (2, .int x2_)]) hx hb dX14_callOf_101 hl (by decide) rfl (fun ls hl => ?_)
      refine lv_iload hx hb dX14_callOf_103 (lv_at hl 0 rfl) ?_
      have kb_0 : bd 0 0 (0 : Int32) := ⟨by decide, by decide⟩
      refine lv_if_le (tgt := 126) hx hb dX14_callOf_105 (by decide) (fun c_29 => ?_) (fun c_29 => ?_)
      · have fc_29 := le_f c_29
        have b_30 : bd 0 0 x_28 := leL fc_29 bx_28 kb_0 (by decide)
        refine lv_iconst (v := 0) hx hb dX14_callOf_126 (by decide) ?_
        refine lv_istore (lv' := [(6, .int 0), (5, .int x_28), (4, .int r_16), (3, .int r_2), (0, .ref a0_), (1, .int x1_), (2, .int x2_)]) hx hb dX14_callOf_127 hl (by decide) rfl (fun ls hl => ?_)
        refine lv_iload hx hb dX14_callOf_129 (lv_at hl 1 rfl) ?_
        refine lv_iconst (v := 1) hx hb dX14_callOf_131 (by decide) ?_
        have kb_1 : bd 1 1 (1 : Int32) := ⟨by decide, by decide⟩
        refine lv_icmp_le (tgt := 155) hx hb dX14_callOf_132 (by decide) (fun c_31 => ?_) (fun c_31 => ?_)
        · have fc_31 := le_f c_31
          refine lv_iconst (v := 0) hx hb dX14_callOf_155 (by decide) ?_
          refine lv_istore (lv' := [(7, .int 0), (6, .int 0), (5, .int x_28), (4, .int r_16), (3, .int r_2), (0, .ref a0_), (1, .int x1_), (2, .int x2_)]) hx hb dX14_callOf_156 hl (by decide) rfl (fun ls hl => ?_)
          refine lv_iload hx hb dX14_callOf_158 (lv_at hl 2 rfl) ?_
          refine lv_iconst (v := 2) hx hb dX14_callOf_160 (by decide) ?_
          have kb_2 : bd 2 2 (2 : Int32) := ⟨by decide, by decide⟩
          refine lv_icmp_le (tgt := 184) hx hb dX14_callOf_161 (by decide) (fun c_32 => ?_) (fun c_32 => ?_)
          · have fc_32 := le_f c_32
            refine lv_iconst (v := 0) hx hb dX14_callOf_184 (by decide) ?_
            refine lv_istore (lv' := [(8, .int 0), (7, .int 0), (6, .int 0), (5, .int x_28), (4, .int r_16), (3, .int r_2), (0, .ref a0_), (1, .int x1_), (2, .int x2_)]) hx hb dX14_callOf_185 hl (by decide) rfl (fun ls hl => ?_)
            refine lv_iload_n hx hb dX14_callOf_187 rfl (lv_at hl 8 rfl) ?_
            refine lv_if_eq (tgt := 195) hx hb dX14_callOf_188 (by decide) (fun c_33 => ?_) (fun c_33 => ?_)
            · have fc_33 := eq_f c_33
              have b_34 : bd 0 0 x2_ := eqX fc_33 (bdT x2_) kb_0 (by decide)
              refine lv_aload_n hx hb dX14_callOf_195 rfl (lv_at hl 6 rfl) ?_
              refine g_getk (C := RX14) (T := TX14) (N := 67) hx hb hts (mc_ inX14) hown hK g rfl 35 (by decide) rfl (hts _ (List.mem_cons_of_mem _ t_2181)) (fun _ h9 => h9) 5 rfl dX14_callOf_196 ?_
              refine lv_bipush (v := 20) hx hb dX14_callOf_199 (by decide) ?_
              have kb_20 : bd 20 20 (20 : Int32) := ⟨by decide, by decide⟩
              refine lv_icmp_ne (tgt := 209) hx hb dX14_callOf_201 (by decide) (fun c_35 => ?_) (fun c_35 => ?_)
              · have fc_35 := neq_f c_35
                have b_36 : bd 0 19 w_ := neX fc_35 bw kb_20 (by decide)
                refine lv_iconst (v := 3) hx hb dX14_callOf_209 (by decide) ?_
                refine lv_aload_n hx hb dX14_callOf_210 rfl (lv_at hl 6 rfl) ?_
                refine g_getk (C := RX14) (T := TX14) (N := 67) hx hb hts (mc_ inX14) hown hK g rfl 35 (by decide) rfl (hts _ (List.mem_cons_of_mem _ t_2181)) (fun _ h9 => h9) 5 rfl dX14_callOf_211 ?_
                refine lv_iconst (v := 1) hx hb dX14_callOf_214 (by decide) ?_
                refine lv_iadd hx hb dX14_callOf_215 ?_
                refine lv_topi (fun y_37 ey_37 => ?_)
                have ty_37 := add_bd ey_37 b_36 kb_1 (by decide)
                have b_38 : bd 1 20 y_37 := add_rg ty_37 b_36 kb_1 (by decide)
                refine lv_imul hx hb dX14_callOf_216 ?_
                refine lv_topi (fun y_39 ey_39 => ?_)
                have ty_39 := cmul_bd ey_39 (c := 3) (by decide) b_38 (by decide)
                have b_40 : bd 3 60 y_39 := mulc_rg ty_39 b_38 (by decide)
                refine lv_istore (lv' := [(9, .int y_39), (8, .int 0), (7, .int 0), (6, .int 0), (5, .int x_28), (4, .int r_16), (3, .int r_2), (0, .ref a0_), (1, .int x1_), (2, .int x2_)]) hx hb dX14_callOf_217 hl (by decide) rfl (fun ls hl => ?_)
                refine lv_aload_n hx hb dX14_callOf_219 rfl (lv_at hl 7 rfl) ?_
                refine g_getr (K := 218) (C := RX14) (T := TX14) (N := 67) hx hb hts (mc_ inX14) hown hK g ma0_ ka0_ (by decide) rfl 41 (by decide) rfl (hts _ (List.mem_cons_of_mem _ t_2187)) (fun _ h9 => h9) rfl dX14_callOf_220 (fun a_41 ma_41 ka_41 g => ?_)
                refine lv_iload hx hb dX14_callOf_223 (lv_at hl 0 rfl) ?_
                refine lv_iload hx hb dX14_callOf_225 (lv_at hl 3 rfl) ?_
                have go_ := g
                refine g_iast hx hb hK g ma_41 ka_41 (by decide) rfl (in_bd b_40 (by decide)) (bd_sub kb_0 (by decide)) (by decide) dX14_callOf_227 (fun f H locs hM_42 g => ?_)
                have hG_43 := isV.frame hM_42 go_.2.2.2.1 mq0_ kq0_ (by decide) (by decide) hG_23
                have hG_44 := RA.frame hM_42 go_.2.2.2.1 ma0_ ka0_ (by decide) (by decide) hG_24
                refine lv_aload_n hx hb dX14_callOf_228 rfl (lv_at hl 7 rfl) ?_
                refine g_getk (C := RX14) (T := TX14) (N := 67) hx hb hts (mc_ inX14) hown hK g rfl 41 (by decide) rfl (hts _ (List.mem_cons_of_mem _ t_2187)) (fun _ h9 => h9) 0 rfl dX14_callOf_229 ?_
                refine lv_iload hx hb dX14_callOf_232 (lv_at hl 0 rfl) ?_
                refine lv_iconst (v := 1) hx hb dX14_callOf_234 (by decide) ?_
                refine lv_iadd hx hb dX14_callOf_235 ?_
                refine lv_topi (fun y_45 ey_45 => ?_)
                have ty_45 := add_bd ey_45 b_40 kb_1 (by decide)
                have b_46 : bd 4 61 y_45 := add_rg ty_45 b_40 kb_1 (by decide)
                refine lv_iload hx hb dX14_callOf_236 (lv_at hl 2 rfl) ?_
                have go_ := g
                refine g_iast hx hb hK g ma_41 ka_41 (by decide) rfl (in_bd b_46 (by decide)) (bd_sub kb_0 (by decide)) (by decide) dX14_callOf_238 (fun f H locs hM_47 g => ?_)
                have hG_48 := isV.frame hM_47 go_.2.2.2.1 mq0_ kq0_ (by decide) (by decide) hG_43
                have hG_49 := RA.frame hM_47 go_.2.2.2.1 ma0_ ka0_ (by decide) (by decide) hG_44
                refine lv_aload_n hx hb dX14_callOf_239 rfl (lv_at hl 7 rfl) ?_
                refine g_getk (C := RX14) (T := TX14) (N := 67) hx hb hts (mc_ inX14) hown hK g rfl 41 (by decide) rfl (hts _ (List.mem_cons_of_mem _ t_2187)) (fun _ h9 => h9) 0 rfl dX14_callOf_240 ?_
                refine lv_iload hx hb dX14_callOf_243 (lv_at hl 0 rfl) ?_
                refine lv_iconst (v := 2) hx hb dX14_callOf_245 (by decide) ?_
                refine lv_iadd hx hb dX14_callOf_246 ?_
                refine lv_topi (fun y_50 ey_50 => ?_)
                have ty_50 := add_bd ey_50 b_40 kb_2 (by decide)
                have b_51 : bd 5 62 y_50 := add_rg ty_50 b_40 kb_2 (by decide)
                refine lv_iload hx hb dX14_callOf_247 (lv_at hl 1 rfl) ?_
                have go_ := g
                refine g_iast hx hb hK g ma_41 ka_41 (by decide) rfl (in_bd b_51 (by decide)) (bd_sub kb_0 (by decide)) (by decide) dX14_callOf_249 (fun f H locs hM_52 g => ?_)
                have hG_53 := isV.frame hM_52 go_.2.2.2.1 mq0_ kq0_ (by decide) (by decide) hG_48
                have hG_54 := RA.frame hM_52 go_.2.2.2.1 ma0_ ka0_ (by decide) (by decide) hG_49
                refine lv_aload_n hx hb dX14_callOf_250 rfl (lv_at hl 7 rfl) ?_
                refine lv_iload hx hb dX14_callOf_251 (lv_at hl 5 rfl) ?_
                refine lv_aload_n hx hb dX14_callOf_253 rfl (lv_at hl 7 rfl) ?_
                refine g_getr (K := 220) (C := RX14) (T := TX14) (N := 67) hx hb hts (mc_ inX14) hown hK g ma0_ ka0_ (by decide) rfl 43 (by decide) rfl (hts _ (List.mem_cons_of_mem _ t_2189)) (fun _ h9 => h9) rfl dX14_callOf_254 (fun a_55 ma_55 ka_55 g => ?_)
                refine lv_aload_n hx hb dX14_callOf_257 rfl (lv_at hl 7 rfl) ?_
                refine g_getk (C := RX14) (T := TX14) (N := 67) hx hb hts (mc_ inX14) hown hK g rfl 35 (by decide) rfl (hts _ (List.mem_cons_of_mem _ t_2181)) (fun _ h9 => h9) 7 rfl dX14_callOf_258 ?_
                refine g_iald hx hb hK g ma_55 ka_55 (by decide) rfl (in_bd b_36 (by decide)) dX14_callOf_261 (fun x_56 bx_56 cx_56 => ?_)
                have vx_56 := hG_54.self g 0 rfl cx_56
                have go_ := g
                refine g_callEi (As := [.int r_16, .int x_56]) (rest := []) ⟨hx, hb, hml, hown, hts⟩ (ih.2.2.2.1 l dC dI L kd tys f H.size g.2.2.2.1 a0_ ma0_ ka0_ r_16 x_56 q0_ mq0_ kq0_ V_ δ_ hW w_ (bd_sub b_36 (by decide)) s_ bs Z_ O_ hG_53 hG_54 h_20 bx_56 hm_25.1 (by rw [vx_56]; exact hz_26) (by have hN9 := hN; have bw9 := bw; unfold bd at bw9; have h1_ := EV.hi hW hE; omega) (g.fcts [6, 7, 8] rfl)) (cwV 2 hts (gV_ t_2663 t_2665 t_153 t_198 t_2666) rfl rfl rfl (by decide +kernel) ⟨(show N + 5 + 1 ≤ N + 1 + 5 by omega), (show 8 + (4 + 11) + (40 * N + 300) ≤ 40 * (N + 1) + 300 by omega)⟩) (pre3V g hK ma0_ ka0_ (by decide) (q := (RX14, TX14, 67)) rfl) rfl hl.1 rfl (lv_room (Nat.le_of_ble_eq_true rfl)) dX14_callOf_262 ⟨(Nat.le_of_ble_eq_true rfl), (Nat.le_of_ble_eq_true rfl)⟩ g hK (by decide) (by decide) (fx' := [(14, 43, a0_, .ref a_55), (14, 41, a0_, .ref a_41), (12, 52, q0_, .ref a_27), (12, 56, q0_, .ref a_14), (12, 55, q0_, .ref a_12), (12, 47, q0_, .ref a_9), (14, 1, a0_, .ref q0_)]) rfl (fun xr_57 fr_57 H locs mxr_57 kxr_57 hp hMr_57 g => ?_) (fun r_57 fr_57 H locs hp hMr_57 g => ?_)
                · have hG_58 := isV.frame hMr_57 go_.2.2.2.1 mq0_ kq0_ (by decide) (by decide) hG_53
                  subst hQ
                  exact WX.leaves hempty hlocks (fun t ht hW => g_thrE g hK mxr_57 kxr_57 trivial ht hW) g.2.2.1.2.2
                · obtain ⟨hG_59, x_60, ⟨h_61, rh_61⟩, hF_62⟩ := hp
                  have hG_63 := isV.frame hMr_57 go_.2.2.2.1 mq0_ kq0_ (by decide) (by decide) hG_53
                  have g := g.more hF_62
                  subst hQ
                  exact W.thenQ (W.iret (v := r_57) hx hb hr (fun t ht hW => g_retE g hK ⟨_, rfl, ⟨hG_59, x_60, ⟨h_61, (by have h9_0 := h_20; unfold bd at h9_0; have h9_1 := b_8; unfold bd at h9_1; have h9_2 := bs; unfold bd at h9_2; have h9_3 := b_36; unfold bd at h9_3; have h9_4 := b_1; unfold bd at h9_4; have h9_5 := b_34; unfold bd at h9_5; have h9_6 := b_30; unfold bd at h9_6; have h9_7 := bx_56; unfold bd at h9_7; have h9_8 := h_61; unfold bd at h9_8; have h9_9 := b_38; unfold bd at h9_9; have h9_10 := b_40; unfold bd at h9_10; have h9_11 := b_46; unfold bd at h9_11; have h9_12 := b_51; unfold bd at h9_12; have h8_0 := kb_0; unfold bd at h8_0; have h8_1 := kb_1; unfold bd at h8_1; have h8_2 := kb_2; unfold bd at h8_2; have h8_3 := kb_20; unfold bd at h8_3; have h8_4 := kb_9; unfold bd at h8_4; omega)⟩, (g.fcts [0, 1] rfl)⟩⟩ ht hW) g.2.2.1.2.2 dX14_callOf_265) (fun _ => MQ.toE)
              · have fc_35 := eq_f c_35
                have b_64 : bd 20 20 w_ := eqX fc_35 bw kb_20 (by decide)
                refine lv_aload_n hx hb dX14_callOf_204 rfl (lv_at hl 6 rfl) ?_
                refine lv_iconst (v := 2) hx hb dX14_callOf_205 (by decide) ?_
                have go_ := g
                refine g_callEv (As := [.int 2]) (rest := []) ⟨hx, hb, hml, hown, hts⟩ (r_X14_ends l dC dI L kd tys fr_16 H.size g.2.2.2.1 a0_ ma0_ ka0_ 2) (cwV 1 hts (gV_ t_2651 t_2653 t_150 t_198 t_2654) rfl rfl rfl (by decide +kernel) ⟨(show 0 + 1 ≤ N + 1 + 5 by omega), (show 8 + (2 + 11) + 0 ≤ 40 * (N + 1) + 300 by omega)⟩) (pre3V g hK ma0_ ka0_ (by decide) (q := (RX14, TX14, 67)) rfl) rfl hl.1 rfl (lv_room (Nat.le_of_ble_eq_true rfl)) dX14_callOf_206 ⟨(Nat.le_of_ble_eq_true rfl), (Nat.le_of_ble_eq_true rfl)⟩ g hK (by decide) (by decide) (fx' := [(12, 52, q0_, .ref a_27), (12, 56, q0_, .ref a_14), (12, 55, q0_, .ref a_12), (12, 47, q0_, .ref a_9), (14, 1, a0_, .ref q0_), (14, 35, a0_, .int w_), (14, 34, a0_, .int s_)]) rfl (fun xr_65 fr_65 H locs mxr_65 kxr_65 hp hMr_65 g => ?_) (fun fr_65 H locs hp hMr_65 g => ?_)
                · have hG_66 := isV.frame hMr_65 go_.2.2.2.1 mq0_ kq0_ (by decide) (by decide) hG_23
                  have hG_67 := RA.frame hMr_65 go_.2.2.2.1 ma0_ ka0_ (by decide) (by decide) hG_24
                  subst hQ
                  exact WX.leaves hempty hlocks (fun t ht hW => g_thrE g hK mxr_65 kxr_65 trivial ht hW) g.2.2.1.2.2
                · exact hp.elim
            · have fc_33 := neq_f c_33
              refine lv_aload_n hx hb dX14_callOf_191 rfl (lv_at hl 6 rfl) ?_
              have go_ := g
              refine g_callEv (As := []) (rest := []) ⟨hx, hb, hml, hown, hts⟩ (r_X14_stepN l dC dI L kd tys fr_16 H.size g.2.2.2.1 a0_ ma0_ ka0_ s_ bs (g.fcts [6] rfl)) (cwV 0 hts (gV_ t_2659 t_2661 t_152 t_198 t_2662) rfl rfl rfl (by decide +kernel) ⟨(show 1 + 1 ≤ N + 1 + 5 by omega), (show 8 + (1 + 11) + 21 ≤ 40 * (N + 1) + 300 by omega)⟩) (pre3V g hK ma0_ ka0_ (by decide) (q := (RX14, TX14, 67)) rfl) rfl hl.1 rfl (lv_room (Nat.le_of_ble_eq_true rfl)) dX14_callOf_192 ⟨(Nat.le_of_ble_eq_true rfl), (Nat.le_of_ble_eq_true rfl)⟩ g hK (by decide) (by decide) (fx' := [(12, 52, q0_, .ref a_27), (12, 56, q0_, .ref a_14), (12, 55, q0_, .ref a_12), (12, 47, q0_, .ref a_9), (14, 1, a0_, .ref q0_), (14, 35, a0_, .int w_)]) rfl (fun xr_68 fr_68 H locs mxr_68 kxr_68 hp hMr_68 g => ?_) (fun fr_68 H locs hp hMr_68 g => ?_)
              · have hG_69 := isV.frame hMr_68 go_.2.2.2.1 mq0_ kq0_ (by decide) (by decide) hG_23
                have hG_70 := RA.frame hMr_68 go_.2.2.2.1 ma0_ ka0_ (by decide) (by decide) hG_24
                subst hQ
                exact WX.leaves hempty hlocks (fun t ht hW => g_thrE g hK mxr_68 kxr_68 trivial ht hW) g.2.2.1.2.2
              · obtain ⟨x_71, ⟨h_72, rh_72⟩, hF_73⟩ := hp
                have hG_74 := isV.frame hMr_68 go_.2.2.2.1 mq0_ kq0_ (by decide) (by decide) hG_23
                have hG_75 := RA.frame hMr_68 go_.2.2.2.1 ma0_ ka0_ (by decide) (by decide) hG_24
                have g := g.more hF_73
                refine lv_aload_n hx hb dX14_callOf_195 rfl (lv_at hl 6 rfl) ?_
                refine g_getk (C := RX14) (T := TX14) (N := 67) hx hb hts (mc_ inX14) hown hK g rfl 35 (by decide) rfl (hts _ (List.mem_cons_of_mem _ t_2181)) (fun _ h9 => h9) 6 rfl dX14_callOf_196 ?_
                refine lv_bipush (v := 20) hx hb dX14_callOf_199 (by decide) ?_
                have kb_20 : bd 20 20 (20 : Int32) := ⟨by decide, by decide⟩
                refine lv_icmp_ne (tgt := 209) hx hb dX14_callOf_201 (by decide) (fun c_76 => ?_) (fun c_76 => ?_)
                · have fc_76 := neq_f c_76
                  have b_77 : bd 0 19 w_ := neX fc_76 bw kb_20 (by decide)
                  refine lv_iconst (v := 3) hx hb dX14_callOf_209 (by decide) ?_
                  refine lv_aload_n hx hb dX14_callOf_210 rfl (lv_at hl 6 rfl) ?_
                  refine g_getk (C := RX14) (T := TX14) (N := 67) hx hb hts (mc_ inX14) hown hK g rfl 35 (by decide) rfl (hts _ (List.mem_cons_of_mem _ t_2181)) (fun _ h9 => h9) 6 rfl dX14_callOf_211 ?_
                  refine lv_iconst (v := 1) hx hb dX14_callOf_214 (by decide) ?_
                  refine lv_iadd hx hb dX14_callOf_215 ?_
                  refine lv_topi (fun y_78 ey_78 => ?_)
                  have ty_78 := add_bd ey_78 b_77 kb_1 (by decide)
                  have b_79 : bd 1 20 y_78 := add_rg ty_78 b_77 kb_1 (by decide)
                  refine lv_imul hx hb dX14_callOf_216 ?_
                  refine lv_topi (fun y_80 ey_80 => ?_)
                  have ty_80 := cmul_bd ey_80 (c := 3) (by decide) b_79 (by decide)
                  have b_81 : bd 3 60 y_80 := mulc_rg ty_80 b_79 (by decide)
                  refine lv_istore (lv' := [(9, .int y_80), (8, .int 0), (7, .int 0), (6, .int 0), (5, .int x_28), (4, .int r_16), (3, .int r_2), (0, .ref a0_), (1, .int x1_), (2, .int x2_)]) hx hb dX14_callOf_217 hl (by decide) rfl (fun ls hl => ?_)
                  refine lv_aload_n hx hb dX14_callOf_219 rfl (lv_at hl 7 rfl) ?_
                  refine g_getr (K := 218) (C := RX14) (T := TX14) (N := 67) hx hb hts (mc_ inX14) hown hK g ma0_ ka0_ (by decide) rfl 41 (by decide) rfl (hts _ (List.mem_cons_of_mem _ t_2187)) (fun _ h9 => h9) rfl dX14_callOf_220 (fun a_82 ma_82 ka_82 g => ?_)
                  refine lv_iload hx hb dX14_callOf_223 (lv_at hl 0 rfl) ?_
                  refine lv_iload hx hb dX14_callOf_225 (lv_at hl 3 rfl) ?_
                  have go_ := g
                  refine g_iast hx hb hK g ma_82 ka_82 (by decide) rfl (in_bd b_81 (by decide)) (bd_sub kb_0 (by decide)) (by decide) dX14_callOf_227 (fun f H locs hM_83 g => ?_)
                  have hG_84 := isV.frame hM_83 go_.2.2.2.1 mq0_ kq0_ (by decide) (by decide) hG_74
                  have hG_85 := RA.frame hM_83 go_.2.2.2.1 ma0_ ka0_ (by decide) (by decide) hG_75
                  refine lv_aload_n hx hb dX14_callOf_228 rfl (lv_at hl 7 rfl) ?_
                  refine g_getk (C := RX14) (T := TX14) (N := 67) hx hb hts (mc_ inX14) hown hK g rfl 41 (by decide) rfl (hts _ (List.mem_cons_of_mem _ t_2187)) (fun _ h9 => h9) 0 rfl dX14_callOf_229 ?_
                  refine lv_iload hx hb dX14_callOf_232 (lv_at hl 0 rfl) ?_
                  refine lv_iconst (v := 1) hx hb dX14_callOf_234 (by decide) ?_
                  refine lv_iadd hx hb dX14_callOf_235 ?_
                  refine lv_topi (fun y_86 ey_86 => ?_)
                  have ty_86 := add_bd ey_86 b_81 kb_1 (by decide)
                  have b_87 : bd 4 61 y_86 := add_rg ty_86 b_81 kb_1 (by decide)
                  refine lv_iload hx hb dX14_callOf_236 (lv_at hl 2 rfl) ?_
                  have go_ := g
                  refine g_iast hx hb hK g ma_82 ka_82 (by decide) rfl (in_bd b_87 (by decide)) (bd_sub kb_0 (by decide)) (by decide) dX14_callOf_238 (fun f H locs hM_88 g => ?_)
                  have hG_89 := isV.frame hM_88 go_.2.2.2.1 mq0_ kq0_ (by decide) (by decide) hG_84
                  have hG_90 := RA.frame hM_88 go_.2.2.2.1 ma0_ ka0_ (by decide) (by decide) hG_85
                  refine lv_aload_n hx hb dX14_callOf_239 rfl (lv_at hl 7 rfl) ?_
                  refine g_getk (C := RX14) (T := TX14) (N := 67) hx hb hts (mc_ inX14) hown hK g rfl 41 (by decide) rfl (hts _ (List.mem_cons_of_mem _ t_2187)) (fun _ h9 => h9) 0 rfl dX14_callOf_240 ?_
                  refine lv_iload hx hb dX14_callOf_243 (lv_at hl 0 rfl) ?_
                  refine lv_iconst (v := 2) hx hb dX14_callOf_245 (by decide) ?_
                  refine lv_iadd hx hb dX14_callOf_246 ?_
                  refine lv_topi (fun y_91 ey_91 => ?_)
                  have ty_91 := add_bd ey_91 b_81 kb_2 (by decide)
                  have b_92 : bd 5 62 y_91 := add_rg ty_91 b_81 kb_2 (by decide)
                  refine lv_iload hx hb dX14_callOf_247 (lv_at hl 1 rfl) ?_
                  have go_ := g
                  refine g_iast hx hb hK g ma_82 ka_82 (by decide) rfl (in_bd b_92 (by decide)) (bd_sub kb_0 (by decide)) (by decide) dX14_callOf_249 (fun f H locs hM_93 g => ?_)
                  have hG_94 := isV.frame hM_93 go_.2.2.2.1 mq0_ kq0_ (by decide) (by decide) hG_89
                  have hG_95 := RA.frame hM_93 go_.2.2.2.1 ma0_ ka0_ (by decide) (by decide) hG_90
                  refine lv_aload_n hx hb dX14_callOf_250 rfl (lv_at hl 7 rfl) ?_
                  refine lv_iload hx hb dX14_callOf_251 (lv_at hl 5 rfl) ?_
                  refine lv_aload_n hx hb dX14_callOf_253 rfl (lv_at hl 7 rfl) ?_
                  refine g_getr (K := 220) (C := RX14) (T := TX14) (N := 67) hx hb hts (mc_ inX14) hown hK g ma0_ ka0_ (by decide) rfl 43 (by decide) rfl (hts _ (List.mem_cons_of_mem _ t_2189)) (fun _ h9 => h9) rfl dX14_callOf_254 (fun a_96 ma_96 ka_96 g => ?_)
                  refine lv_aload_n hx hb dX14_callOf_257 rfl (lv_at hl 7 rfl) ?_
                  refine g_getk (C := RX14) (T := TX14) (N := 67) hx hb hts (mc_ inX14) hown hK g rfl 35 (by decide) rfl (hts _ (List.mem_cons_of_mem _ t_2181)) (fun _ h9 => h9) 8 rfl dX14_callOf_258 ?_
                  refine g_iald hx hb hK g ma_96 ka_96 (by decide) rfl (in_bd b_77 (by decide)) dX14_callOf_261 (fun x_97 bx_97 cx_97 => ?_)
                  have vx_97 := hG_95.self g 0 rfl cx_97
                  have go_ := g
                  refine g_callEi (As := [.int r_16, .int x_97]) (rest := []) ⟨hx, hb, hml, hown, hts⟩ (ih.2.2.2.1 l dC dI L kd tys f H.size g.2.2.2.1 a0_ ma0_ ka0_ r_16 x_97 q0_ mq0_ kq0_ V_ δ_ hW w_ (bd_sub b_77 (by decide)) x_71 (bd_sub h_72 (by decide)) Z_ O_ hG_94 hG_95 h_20 bx_97 hm_25.1 (by rw [vx_97]; exact hz_26) (by have hN9 := hN; have bw9 := bw; unfold bd at bw9; have h1_ := EV.hi hW hE; omega) (g.fcts [7, 8, 2] rfl)) (cwV 2 hts (gV_ t_2663 t_2665 t_153 t_198 t_2666) rfl rfl rfl (by decide +kernel) ⟨(show N + 5 + 1 ≤ N + 1 + 5 by omega), (show 8 + (4 + 11) + (40 * N + 300) ≤ 40 * (N + 1) + 300 by omega)⟩) (pre3V g hK ma0_ ka0_ (by decide) (q := (RX14, TX14, 67)) rfl) rfl hl.1 rfl (lv_room (Nat.le_of_ble_eq_true rfl)) dX14_callOf_262 ⟨(Nat.le_of_ble_eq_true rfl), (Nat.le_of_ble_eq_true rfl)⟩ g hK (by decide) (by decide) (fx' := [(14, 43, a0_, .ref a_96), (14, 41, a0_, .ref a_82), (12, 52, q0_, .ref a_27), (12, 56, q0_, .ref a_14), (12, 55, q0_, .ref a_12), (12, 47, q0_, .ref a_9), (14, 1, a0_, .ref q0_)]) rfl (fun xr_98 fr_98 H locs mxr_98 kxr_98 hp hMr_98 g => ?_) (fun r_98 fr_98 H locs hp hMr_98 g => ?_)
                  · have hG_99 := isV.frame hMr_98 go_.2.2.2.1 mq0_ kq0_ (by decide) (by decide) hG_94
                    subst hQ
                    exact WX.leaves hempty hlocks (fun t ht hW => g_thrE g hK mxr_98 kxr_98 trivial ht hW) g.2.2.1.2.2
                  · obtain ⟨hG_100, x_101, ⟨h_102, rh_102⟩, hF_103⟩ := hp
                    have hG_104 := isV.frame hMr_98 go_.2.2.2.1 mq0_ kq0_ (by decide) (by decide) hG_94
                    have g := g.more hF_103
                    subst hQ
                    exact W.thenQ (W.iret (v := r_98) hx hb hr (fun t ht hW => g_retE g hK ⟨_, rfl, ⟨hG_100, x_101, ⟨h_102, (by have h9_0 := h_20; unfold bd at h9_0; have h9_1 := b_8; unfold bd at h9_1; have h9_2 := bs; unfold bd at h9_2; have h9_3 := b_77; unfold bd at h9_3; have h9_4 := b_1; unfold bd at h9_4; have h9_5 := h_102; unfold bd at h9_5; have h9_6 := b_30; unfold bd at h9_6; have h9_7 := h_72; unfold bd at h9_7; have h9_8 := bx_97; unfold bd at h9_8; have h9_9 := b_79; unfold bd at h9_9; have h9_10 := b_81; unfold bd at h9_10; have h9_11 := b_87; unfold bd at h9_11; have h9_12 := b_92; unfold bd at h9_12; have h8_0 := kb_0; unfold bd at h8_0; have h8_1 := kb_1; unfold bd at h8_1; have h8_2 := kb_2; unfold bd at h8_2; have h8_3 := kb_20; unfold bd at h8_3; have h8_4 := kb_9; unfold bd at h8_4; omega)⟩, (g.fcts [0, 1] rfl)⟩⟩ ht hW) g.2.2.1.2.2 dX14_callOf_265) (fun _ => MQ.toE)
                · have fc_76 := eq_f c_76
                  have b_105 : bd 20 20 w_ := eqX fc_76 bw kb_20 (by decide)
                  refine lv_aload_n hx hb dX14_callOf_204 rfl (lv_at hl 6 rfl) ?_
                  refine lv_iconst (v := 2) hx hb dX14_callOf_205 (by decide) ?_
                  have go_ := g
                  refine g_callEv (As := [.int 2]) (rest := []) ⟨hx, hb, hml, hown, hts⟩ (r_X14_ends l dC dI L kd tys fr_68 H.size g.2.2.2.1 a0_ ma0_ ka0_ 2) (cwV 1 hts (gV_ t_2651 t_2653 t_150 t_198 t_2654) rfl rfl rfl (by decide +kernel) ⟨(show 0 + 1 ≤ N + 1 + 5 by omega), (show 8 + (2 + 11) + 0 ≤ 40 * (N + 1) + 300 by omega)⟩) (pre3V g hK ma0_ ka0_ (by decide) (q := (RX14, TX14, 67)) rfl) rfl hl.1 rfl (lv_room (Nat.le_of_ble_eq_true rfl)) dX14_callOf_206 ⟨(Nat.le_of_ble_eq_true rfl), (Nat.le_of_ble_eq_true rfl)⟩ g hK (by decide) (by decide) (fx' := [(14, 34, a0_, .int x_71), (12, 52, q0_, .ref a_27), (12, 56, q0_, .ref a_14), (12, 55, q0_, .ref a_12), (12, 47, q0_, .ref a_9), (14, 1, a0_, .ref q0_), (14, 35, a0_, .int w_)]) rfl (fun xr_106 fr_106 H locs mxr_106 kxr_106 hp hMr_106 g => ?_) (fun fr_106 H locs hp hMr_106 g => ?_)
                  · have hG_107 := isV.frame hMr_106 go_.2.2.2.1 mq0_ kq0_ (by decide) (by decide) hG_74
                    have hG_108 := RA.frame hMr_106 go_.2.2.2.1 ma0_ ka0_ (by decide) (by decide) hG_75
                    subst hQ
                    exact WX.leaves hempty hlocks (fun t ht hW => g_thrE g hK mxr_106 kxr_106 trivial ht hW) g.2.2.1.2.2
                  · exact hp.elim
          · have fc_32 := nle_f c_32
            have b_109 : bd 2 (-1) (2 : Int32) := ltL fc_32 kb_2 b_30 (by decide)
            exact bd_no (eqX rfl b_109 kb_2 (lo := 2) (hi := (-1)) (by decide)) (by decide)
        · have fc_31 := nle_f c_31
          have b_110 : bd 1 (-1) (1 : Int32) := ltL fc_31 kb_1 b_30 (by decide)
          exact bd_no (eqX rfl b_110 kb_1 (lo := 1) (hi := (-1)) (by decide)) (by decide)
      · have fc_29 := nle_f c_29
        have b_111 : bd 1 3 x_28 := ltR fc_29 kb_0 bx_28 (by decide)
        refine lv_aload_n hx hb dX14_callOf_108 rfl (lv_at hl 3 rfl) ?_
        refine lv_aload_n hx hb dX14_callOf_109 rfl (lv_at hl 3 rfl) ?_
        refine g_getk (C := RX14) (T := TX14) (N := 67) hx hb hts (mc_ inX14) hown hK g rfl 1 (by decide) rfl (hts _ (List.mem_cons_of_mem _ t_2147)) (fun _ h9 => h9) 4 rfl dX14_callOf_110 ?_
        refine g_getr (K := 207) (C := RX12) (T := TX12) (N := 60) hx hb hts (mc_ inX12) hown hK g mq0_ kq0_ (by decide) rfl 53 (by decide) rfl (hts _ (List.mem_cons_of_mem _ t_2010)) (fun _ h9 => h9) rfl dX14_callOf_113 (fun a_112 ma_112 ka_112 g => ?_)
        refine lv_iconst (v := 3) hx hb dX14_callOf_116 (by decide) ?_
        refine lv_iload_n hx hb dX14_callOf_117 rfl (lv_at hl 4 rfl) ?_
        refine lv_imul hx hb dX14_callOf_118 ?_
        refine lv_topi (fun y_113 ey_113 => ?_)
        have ty_113 := cmul_bd ey_113 (c := 3) (by decide) b_1 (by decide)
        have b_114 : bd 0 7497 y_113 := mulc_rg ty_113 b_1 (by decide)
        refine g_iald hx hb hK g ma_112 ka_112 (by decide) rfl (in_bd b_114 (by decide)) dX14_callOf_119 (fun x_115 bx_115 cx_115 => ?_)
        have vx_115 : x_115 = V_.i 53 y_113.toNatClampNeg := hG_23.at g 0 rfl rfl cx_115
        have go_ := g
        refine g_callEi (As := [.int x_115]) (rest := []) ⟨hx, hb, hml, hown, hts⟩ (ih.1 l dC dI L kd tys fr_16 H.size g.2.2.2.1 a0_ ma0_ ka0_ x_115 q0_ mq0_ kq0_ V_ δ_ hW w_ bw s_ bs Z_ O_ hG_23 hG_24 d_ hcl (h_ - 1) (ev_a hW hE hC (k := 0) vx_28 (by have h9_0 := h_20; unfold bd at h9_0; have h9_1 := b_8; unfold bd at h9_1; have h9_2 := bs; unfold bd at h9_2; have h9_3 := bw; unfold bd at h9_3; have h9_4 := b_1; unfold bd at h9_4; have h9_5 := b_111; unfold bd at h9_5; have h9_6 := b_114; unfold bd at h9_6; have h8_0 := kb_0; unfold bd at h8_0; have h8_1 := kb_9; unfold bd at h8_1; have h7 := kb_0; unfold bd at h7; omega) (by decide) (by have h9_0 := h_20; unfold bd at h9_0; have h9_1 := b_8; unfold bd at h9_1; have h9_2 := bs; unfold bd at h9_2; have h9_3 := bw; unfold bd at h9_3; have h9_4 := b_1; unfold bd at h9_4; have h9_5 := b_111; unfold bd at h9_5; have h9_6 := b_114; unfold bd at h9_6; have h8_0 := kb_0; unfold bd at h8_0; have h8_1 := kb_9; unfold bd at h8_1; have h7 := kb_0; unfold bd at h7; omega) vx_115) (by have hN9 := hN; have bw9 := bw; unfold bd at bw9; have h1_ := EV.hi hW hE; omega) (g.fcts [5, 6, 7] rfl)) (cwV 1 hts (gV_ t_2634 t_2636 t_146 t_198 t_2637) rfl rfl rfl (by decide +kernel) ⟨(show N + 5 + 1 ≤ N + 1 + 5 by omega), (show 8 + (5 + 11) + (40 * N + 300) ≤ 40 * (N + 1) + 300 by omega)⟩) (pre3V g hK ma0_ ka0_ (by decide) (q := (RX14, TX14, 67)) rfl) rfl hl.1 rfl (lv_room (Nat.le_of_ble_eq_true rfl)) dX14_callOf_120 ⟨(Nat.le_of_ble_eq_true rfl), (Nat.le_of_ble_eq_true rfl)⟩ g hK (by decide) (by decide) (fx' := [(12, 53, q0_, .ref a_112), (12, 52, q0_, .ref a_27), (12, 56, q0_, .ref a_14), (12, 55, q0_, .ref a_12), (12, 47, q0_, .ref a_9), (14, 1, a0_, .ref q0_)]) rfl (fun xr_116 fr_116 H locs mxr_116 kxr_116 hp hMr_116 g => ?_) (fun r_116 fr_116 H locs hp hMr_116 g => ?_)
        · have hG_117 := isV.frame hMr_116 go_.2.2.2.1 mq0_ kq0_ (by decide) (by decide) hG_23
          subst hQ
          exact WX.leaves hempty hlocks (fun t ht hW => g_thrE g hK mxr_116 kxr_116 trivial ht hW) g.2.2.1.2.2
        · obtain ⟨hG_118, x_119, ⟨h_120, rh_120⟩, hF_121⟩ := hp
          have hG_122 := isV.frame hMr_116 go_.2.2.2.1 mq0_ kq0_ (by decide) (by decide) hG_23
          have g := g.more hF_121
          refine lv_goto (tgt := 127) hx hb dX14_callOf_123 (by decide) ?_
          refine lv_istore (lv' := [(6, .int r_116), (5, .int x_28), (4, .int r_16), (3, .int r_2), (0, .ref a0_), (1, .int x1_), (2, .int x2_)]) hx hb dX14_callOf_127 hl (by decide) rfl (fun ls hl => ?_)
          refine lv_iload hx hb dX14_callOf_129 (lv_at hl 1 rfl) ?_
          refine lv_iconst (v := 1) hx hb dX14_callOf_131 (by decide) ?_
          have kb_1 : bd 1 1 (1 : Int32) := ⟨by decide, by decide⟩
          refine lv_icmp_le (tgt := 155) hx hb dX14_callOf_132 (by decide) (fun c_123 => ?_) (fun c_123 => ?_)
          · have fc_123 := le_f c_123
            have b_124 : bd 1 1 x_28 := leL fc_123 b_111 kb_1 (by decide)
            refine lv_iconst (v := 0) hx hb dX14_callOf_155 (by decide) ?_
            refine lv_istore (lv' := [(7, .int 0), (6, .int r_116), (5, .int x_28), (4, .int r_16), (3, .int r_2), (0, .ref a0_), (1, .int x1_), (2, .int x2_)]) hx hb dX14_callOf_156 hl (by decide) rfl (fun ls hl => ?_)
            refine lv_iload hx hb dX14_callOf_158 (lv_at hl 2 rfl) ?_
            refine lv_iconst (v := 2) hx hb dX14_callOf_160 (by decide) ?_
            have kb_2 : bd 2 2 (2 : Int32) := ⟨by decide, by decide⟩
            refine lv_icmp_le (tgt := 184) hx hb dX14_callOf_161 (by decide) (fun c_125 => ?_) (fun c_125 => ?_)
            · have fc_125 := le_f c_125
              refine lv_iconst (v := 0) hx hb dX14_callOf_184 (by decide) ?_
              refine lv_istore (lv' := [(8, .int 0), (7, .int 0), (6, .int r_116), (5, .int x_28), (4, .int r_16), (3, .int r_2), (0, .ref a0_), (1, .int x1_), (2, .int x2_)]) hx hb dX14_callOf_185 hl (by decide) rfl (fun ls hl => ?_)
              refine lv_iload_n hx hb dX14_callOf_187 rfl (lv_at hl 8 rfl) ?_
              refine lv_if_eq (tgt := 195) hx hb dX14_callOf_188 (by decide) (fun c_126 => ?_) (fun c_126 => ?_)
              · have fc_126 := eq_f c_126
                have b_127 : bd 0 0 x2_ := eqX fc_126 (bdT x2_) kb_0 (by decide)
                refine lv_aload_n hx hb dX14_callOf_195 rfl (lv_at hl 6 rfl) ?_
                refine g_getk (C := RX14) (T := TX14) (N := 67) hx hb hts (mc_ inX14) hown hK g rfl 35 (by decide) rfl (hts _ (List.mem_cons_of_mem _ t_2181)) (fun _ h9 => h9) 0 rfl dX14_callOf_196 ?_
                refine lv_bipush (v := 20) hx hb dX14_callOf_199 (by decide) ?_
                have kb_20 : bd 20 20 (20 : Int32) := ⟨by decide, by decide⟩
                refine lv_icmp_ne (tgt := 209) hx hb dX14_callOf_201 (by decide) (fun c_128 => ?_) (fun c_128 => ?_)
                · have fc_128 := neq_f c_128
                  have b_129 : bd 0 19 w_ := neX fc_128 bw kb_20 (by decide)
                  refine lv_iconst (v := 3) hx hb dX14_callOf_209 (by decide) ?_
                  refine lv_aload_n hx hb dX14_callOf_210 rfl (lv_at hl 6 rfl) ?_
                  refine g_getk (C := RX14) (T := TX14) (N := 67) hx hb hts (mc_ inX14) hown hK g rfl 35 (by decide) rfl (hts _ (List.mem_cons_of_mem _ t_2181)) (fun _ h9 => h9) 0 rfl dX14_callOf_211 ?_
                  refine lv_iconst (v := 1) hx hb dX14_callOf_214 (by decide) ?_
                  refine lv_iadd hx hb dX14_callOf_215 ?_
                  refine lv_topi (fun y_130 ey_130 => ?_)
                  have ty_130 := add_bd ey_130 b_129 kb_1 (by decide)
                  have b_131 : bd 1 20 y_130 := add_rg ty_130 b_129 kb_1 (by decide)
                  refine lv_imul hx hb dX14_callOf_216 ?_
                  refine lv_topi (fun y_132 ey_132 => ?_)
                  have ty_132 := cmul_bd ey_132 (c := 3) (by decide) b_131 (by decide)
                  have b_133 : bd 3 60 y_132 := mulc_rg ty_132 b_131 (by decide)
                  refine lv_istore (lv' := [(9, .int y_132), (8, .int 0), (7, .int 0), (6, .int r_116), (5, .int x_28), (4, .int r_16), (3, .int r_2), (0, .ref a0_), (1, .int x1_), (2, .int x2_)]) hx hb dX14_callOf_217 hl (by decide) rfl (fun ls hl => ?_)
                  refine lv_aload_n hx hb dX14_callOf_219 rfl (lv_at hl 7 rfl) ?_
                  refine g_getr (K := 218) (C := RX14) (T := TX14) (N := 67) hx hb hts (mc_ inX14) hown hK g ma0_ ka0_ (by decide) rfl 41 (by decide) rfl (hts _ (List.mem_cons_of_mem _ t_2187)) (fun _ h9 => h9) rfl dX14_callOf_220 (fun a_134 ma_134 ka_134 g => ?_)
                  refine lv_iload hx hb dX14_callOf_223 (lv_at hl 0 rfl) ?_
                  refine lv_iload hx hb dX14_callOf_225 (lv_at hl 3 rfl) ?_
                  have go_ := g
                  refine g_iast hx hb hK g ma_134 ka_134 (by decide) rfl (in_bd b_133 (by decide)) (bdT r_116) (by decide) dX14_callOf_227 (fun f H locs hM_135 g => ?_)
                  have hG_136 := isV.frame hM_135 go_.2.2.2.1 mq0_ kq0_ (by decide) (by decide) hG_122
                  have hG_137 := RA.frame hM_135 go_.2.2.2.1 ma0_ ka0_ (by decide) (by decide) hG_118
                  refine lv_aload_n hx hb dX14_callOf_228 rfl (lv_at hl 7 rfl) ?_
                  refine g_getk (C := RX14) (T := TX14) (N := 67) hx hb hts (mc_ inX14) hown hK g rfl 41 (by decide) rfl (hts _ (List.mem_cons_of_mem _ t_2187)) (fun _ h9 => h9) 0 rfl dX14_callOf_229 ?_
                  refine lv_iload hx hb dX14_callOf_232 (lv_at hl 0 rfl) ?_
                  refine lv_iconst (v := 1) hx hb dX14_callOf_234 (by decide) ?_
                  refine lv_iadd hx hb dX14_callOf_235 ?_
                  refine lv_topi (fun y_138 ey_138 => ?_)
                  have ty_138 := add_bd ey_138 b_133 kb_1 (by decide)
                  have b_139 : bd 4 61 y_138 := add_rg ty_138 b_133 kb_1 (by decide)
                  refine lv_iload hx hb dX14_callOf_236 (lv_at hl 2 rfl) ?_
                  have go_ := g
                  refine g_iast hx hb hK g ma_134 ka_134 (by decide) rfl (in_bd b_139 (by decide)) (bd_sub kb_0 (by decide)) (by decide) dX14_callOf_238 (fun f H locs hM_140 g => ?_)
                  have hG_141 := isV.frame hM_140 go_.2.2.2.1 mq0_ kq0_ (by decide) (by decide) hG_136
                  have hG_142 := RA.frame hM_140 go_.2.2.2.1 ma0_ ka0_ (by decide) (by decide) hG_137
                  refine lv_aload_n hx hb dX14_callOf_239 rfl (lv_at hl 7 rfl) ?_
                  refine g_getk (C := RX14) (T := TX14) (N := 67) hx hb hts (mc_ inX14) hown hK g rfl 41 (by decide) rfl (hts _ (List.mem_cons_of_mem _ t_2187)) (fun _ h9 => h9) 0 rfl dX14_callOf_240 ?_
                  refine lv_iload hx hb dX14_callOf_243 (lv_at hl 0 rfl) ?_
                  refine lv_iconst (v := 2) hx hb dX14_callOf_245 (by decide) ?_
                  refine lv_iadd hx hb dX14_callOf_246 ?_
                  refine lv_topi (fun y_143 ey_143 => ?_)
                  have ty_143 := add_bd ey_143 b_133 kb_2 (by decide)
                  have b_144 : bd 5 62 y_143 := add_rg ty_143 b_133 kb_2 (by decide)
                  refine lv_iload hx hb dX14_callOf_247 (lv_at hl 1 rfl) ?_
                  have go_ := g
                  refine g_iast hx hb hK g ma_134 ka_134 (by decide) rfl (in_bd b_144 (by decide)) (bd_sub kb_0 (by decide)) (by decide) dX14_callOf_249 (fun f H locs hM_145 g => ?_)
                  have hG_146 := isV.frame hM_145 go_.2.2.2.1 mq0_ kq0_ (by decide) (by decide) hG_141
                  have hG_147 := RA.frame hM_145 go_.2.2.2.1 ma0_ ka0_ (by decide) (by decide) hG_142
                  refine lv_aload_n hx hb dX14_callOf_250 rfl (lv_at hl 7 rfl) ?_
                  refine lv_iload hx hb dX14_callOf_251 (lv_at hl 5 rfl) ?_
                  refine lv_aload_n hx hb dX14_callOf_253 rfl (lv_at hl 7 rfl) ?_
                  refine g_getr (K := 220) (C := RX14) (T := TX14) (N := 67) hx hb hts (mc_ inX14) hown hK g ma0_ ka0_ (by decide) rfl 43 (by decide) rfl (hts _ (List.mem_cons_of_mem _ t_2189)) (fun _ h9 => h9) rfl dX14_callOf_254 (fun a_148 ma_148 ka_148 g => ?_)
                  refine lv_aload_n hx hb dX14_callOf_257 rfl (lv_at hl 7 rfl) ?_
                  refine g_getk (C := RX14) (T := TX14) (N := 67) hx hb hts (mc_ inX14) hown hK g rfl 35 (by decide) rfl (hts _ (List.mem_cons_of_mem _ t_2181)) (fun _ h9 => h9) 2 rfl dX14_callOf_258 ?_
                  refine g_iald hx hb hK g ma_148 ka_148 (by decide) rfl (in_bd b_129 (by decide)) dX14_callOf_261 (fun x_149 bx_149 cx_149 => ?_)
                  have vx_149 := hG_147.self g 0 rfl cx_149
                  have go_ := g
                  refine g_callEi (As := [.int r_16, .int x_149]) (rest := []) ⟨hx, hb, hml, hown, hts⟩ (ih.2.2.2.1 l dC dI L kd tys f H.size g.2.2.2.1 a0_ ma0_ ka0_ r_16 x_149 q0_ mq0_ kq0_ V_ δ_ hW w_ (bd_sub b_129 (by decide)) x_119 h_120 Z_ O_ hG_146 hG_147 h_20 bx_149 hm_25.1 (by rw [vx_149]; exact hz_26) (by have hN9 := hN; have bw9 := bw; unfold bd at bw9; have h1_ := EV.hi hW hE; omega) (g.fcts [9, 2, 3] rfl)) (cwV 2 hts (gV_ t_2663 t_2665 t_153 t_198 t_2666) rfl rfl rfl (by decide +kernel) ⟨(show N + 5 + 1 ≤ N + 1 + 5 by omega), (show 8 + (4 + 11) + (40 * N + 300) ≤ 40 * (N + 1) + 300 by omega)⟩) (pre3V g hK ma0_ ka0_ (by decide) (q := (RX14, TX14, 67)) rfl) rfl hl.1 rfl (lv_room (Nat.le_of_ble_eq_true rfl)) dX14_callOf_262 ⟨(Nat.le_of_ble_eq_true rfl), (Nat.le_of_ble_eq_true rfl)⟩ g hK (by decide) (by decide) (fx' := [(14, 43, a0_, .ref a_148), (14, 41, a0_, .ref a_134), (12, 53, q0_, .ref a_112), (12, 52, q0_, .ref a_27), (12, 56, q0_, .ref a_14), (12, 55, q0_, .ref a_12), (12, 47, q0_, .ref a_9), (14, 1, a0_, .ref q0_)]) rfl (fun xr_150 fr_150 H locs mxr_150 kxr_150 hp hMr_150 g => ?_) (fun r_150 fr_150 H locs hp hMr_150 g => ?_)
                  · have hG_151 := isV.frame hMr_150 go_.2.2.2.1 mq0_ kq0_ (by decide) (by decide) hG_146
                    subst hQ
                    exact WX.leaves hempty hlocks (fun t ht hW => g_thrE g hK mxr_150 kxr_150 trivial ht hW) g.2.2.1.2.2
                  · obtain ⟨hG_152, x_153, ⟨h_154, rh_154⟩, hF_155⟩ := hp
                    have hG_156 := isV.frame hMr_150 go_.2.2.2.1 mq0_ kq0_ (by decide) (by decide) hG_146
                    have g := g.more hF_155
                    subst hQ
                    exact W.thenQ (W.iret (v := r_150) hx hb hr (fun t ht hW => g_retE g hK ⟨_, rfl, ⟨hG_152, x_153, ⟨h_154, (by have h9_0 := h_20; unfold bd at h9_0; have h9_1 := b_8; unfold bd at h9_1; have h9_2 := bs; unfold bd at h9_2; have h9_3 := b_129; unfold bd at h9_3; have h9_4 := b_1; unfold bd at h9_4; have h9_5 := b_127; unfold bd at h9_5; have h9_6 := h_120; unfold bd at h9_6; have h9_7 := bx_149; unfold bd at h9_7; have h9_8 := h_154; unfold bd at h9_8; have h9_9 := b_124; unfold bd at h9_9; have h9_10 := b_114; unfold bd at h9_10; have h9_11 := b_131; unfold bd at h9_11; have h9_12 := b_133; unfold bd at h9_12; have h9_13 := b_139; unfold bd at h9_13; have h9_14 := b_144; unfold bd at h9_14; have h8_0 := kb_0; unfold bd at h8_0; have h8_1 := kb_1; unfold bd at h8_1; have h8_2 := kb_2; unfold bd at h8_2; have h8_3 := kb_20; unfold bd at h8_3; have h8_4 := kb_9; unfold bd at h8_4; omega)⟩, (g.fcts [0, 1] rfl)⟩⟩ ht hW) g.2.2.1.2.2 dX14_callOf_265) (fun _ => MQ.toE)
                · have fc_128 := eq_f c_128
                  have b_157 : bd 20 20 w_ := eqX fc_128 bw kb_20 (by decide)
                  refine lv_aload_n hx hb dX14_callOf_204 rfl (lv_at hl 6 rfl) ?_
                  refine lv_iconst (v := 2) hx hb dX14_callOf_205 (by decide) ?_
                  have go_ := g
                  refine g_callEv (As := [.int 2]) (rest := []) ⟨hx, hb, hml, hown, hts⟩ (r_X14_ends l dC dI L kd tys fr_116 H.size g.2.2.2.1 a0_ ma0_ ka0_ 2) (cwV 1 hts (gV_ t_2651 t_2653 t_150 t_198 t_2654) rfl rfl rfl (by decide +kernel) ⟨(show 0 + 1 ≤ N + 1 + 5 by omega), (show 8 + (2 + 11) + 0 ≤ 40 * (N + 1) + 300 by omega)⟩) (pre3V g hK ma0_ ka0_ (by decide) (q := (RX14, TX14, 67)) rfl) rfl hl.1 rfl (lv_room (Nat.le_of_ble_eq_true rfl)) dX14_callOf_206 ⟨(Nat.le_of_ble_eq_true rfl), (Nat.le_of_ble_eq_true rfl)⟩ g hK (by decide) (by decide) (fx' := [(14, 35, a0_, .int w_), (14, 34, a0_, .int x_119), (12, 53, q0_, .ref a_112), (12, 52, q0_, .ref a_27), (12, 56, q0_, .ref a_14), (12, 55, q0_, .ref a_12), (12, 47, q0_, .ref a_9), (14, 1, a0_, .ref q0_)]) rfl (fun xr_158 fr_158 H locs mxr_158 kxr_158 hp hMr_158 g => ?_) (fun fr_158 H locs hp hMr_158 g => ?_)
                  · have hG_159 := isV.frame hMr_158 go_.2.2.2.1 mq0_ kq0_ (by decide) (by decide) hG_122
                    have hG_160 := RA.frame hMr_158 go_.2.2.2.1 ma0_ ka0_ (by decide) (by decide) hG_118
                    subst hQ
                    exact WX.leaves hempty hlocks (fun t ht hW => g_thrE g hK mxr_158 kxr_158 trivial ht hW) g.2.2.1.2.2
                  · exact hp.elim
              · have fc_126 := neq_f c_126
                refine lv_aload_n hx hb dX14_callOf_191 rfl (lv_at hl 6 rfl) ?_
                have go_ := g
                refine g_callEv (As := []) (rest := []) ⟨hx, hb, hml, hown, hts⟩ (r_X14_stepN l dC dI L kd tys fr_116 H.size g.2.2.2.1 a0_ ma0_ ka0_ x_119 h_120 (g.fcts [1] rfl)) (cwV 0 hts (gV_ t_2659 t_2661 t_152 t_198 t_2662) rfl rfl rfl (by decide +kernel) ⟨(show 1 + 1 ≤ N + 1 + 5 by omega), (show 8 + (1 + 11) + 21 ≤ 40 * (N + 1) + 300 by omega)⟩) (pre3V g hK ma0_ ka0_ (by decide) (q := (RX14, TX14, 67)) rfl) rfl hl.1 rfl (lv_room (Nat.le_of_ble_eq_true rfl)) dX14_callOf_192 ⟨(Nat.le_of_ble_eq_true rfl), (Nat.le_of_ble_eq_true rfl)⟩ g hK (by decide) (by decide) (fx' := [(14, 35, a0_, .int w_), (12, 53, q0_, .ref a_112), (12, 52, q0_, .ref a_27), (12, 56, q0_, .ref a_14), (12, 55, q0_, .ref a_12), (12, 47, q0_, .ref a_9), (14, 1, a0_, .ref q0_)]) rfl (fun xr_161 fr_161 H locs mxr_161 kxr_161 hp hMr_161 g => ?_) (fun fr_161 H locs hp hMr_161 g => ?_)
                · have hG_162 := isV.frame hMr_161 go_.2.2.2.1 mq0_ kq0_ (by decide) (by decide) hG_122
                  have hG_163 := RA.frame hMr_161 go_.2.2.2.1 ma0_ ka0_ (by decide) (by decide) hG_118
                  subst hQ
                  exact WX.leaves hempty hlocks (fun t ht hW => g_thrE g hK mxr_161 kxr_161 trivial ht hW) g.2.2.1.2.2
                · obtain ⟨x_164, ⟨h_165, rh_165⟩, hF_166⟩ := hp
                  have hG_167 := isV.frame hMr_161 go_.2.2.2.1 mq0_ kq0_ (by decide) (by decide) hG_122
                  have hG_168 := RA.frame hMr_161 go_.2.2.2.1 ma0_ ka0_ (by decide) (by decide) hG_118
                  have g := g.more hF_166
                  refine lv_aload_n hx hb dX14_callOf_195 rfl (lv_at hl 6 rfl) ?_
                  refine g_getk (C := RX14) (T := TX14) (N := 67) hx hb hts (mc_ inX14) hown hK g rfl 35 (by decide) rfl (hts _ (List.mem_cons_of_mem _ t_2181)) (fun _ h9 => h9) 1 rfl dX14_callOf_196 ?_
                  refine lv_bipush (v := 20) hx hb dX14_callOf_199 (by decide) ?_
                  have kb_20 : bd 20 20 (20 : Int32) := ⟨by decide, by decide⟩
                  refine lv_icmp_ne (tgt := 209) hx hb dX14_callOf_201 (by decide) (fun c_169 => ?_) (fun c_169 => ?_)
                  · have fc_169 := neq_f c_169
                    have b_170 : bd 0 19 w_ := neX fc_169 bw kb_20 (by decide)
                    refine lv_iconst (v := 3) hx hb dX14_callOf_209 (by decide) ?_
                    refine lv_aload_n hx hb dX14_callOf_210 rfl (lv_at hl 6 rfl) ?_
                    refine g_getk (C := RX14) (T := TX14) (N := 67) hx hb hts (mc_ inX14) hown hK g rfl 35 (by decide) rfl (hts _ (List.mem_cons_of_mem _ t_2181)) (fun _ h9 => h9) 1 rfl dX14_callOf_211 ?_
                    refine lv_iconst (v := 1) hx hb dX14_callOf_214 (by decide) ?_
                    refine lv_iadd hx hb dX14_callOf_215 ?_
                    refine lv_topi (fun y_171 ey_171 => ?_)
                    have ty_171 := add_bd ey_171 b_170 kb_1 (by decide)
                    have b_172 : bd 1 20 y_171 := add_rg ty_171 b_170 kb_1 (by decide)
                    refine lv_imul hx hb dX14_callOf_216 ?_
                    refine lv_topi (fun y_173 ey_173 => ?_)
                    have ty_173 := cmul_bd ey_173 (c := 3) (by decide) b_172 (by decide)
                    have b_174 : bd 3 60 y_173 := mulc_rg ty_173 b_172 (by decide)
                    refine lv_istore (lv' := [(9, .int y_173), (8, .int 0), (7, .int 0), (6, .int r_116), (5, .int x_28), (4, .int r_16), (3, .int r_2), (0, .ref a0_), (1, .int x1_), (2, .int x2_)]) hx hb dX14_callOf_217 hl (by decide) rfl (fun ls hl => ?_)
                    refine lv_aload_n hx hb dX14_callOf_219 rfl (lv_at hl 7 rfl) ?_
                    refine g_getr (K := 218) (C := RX14) (T := TX14) (N := 67) hx hb hts (mc_ inX14) hown hK g ma0_ ka0_ (by decide) rfl 41 (by decide) rfl (hts _ (List.mem_cons_of_mem _ t_2187)) (fun _ h9 => h9) rfl dX14_callOf_220 (fun a_175 ma_175 ka_175 g => ?_)
                    refine lv_iload hx hb dX14_callOf_223 (lv_at hl 0 rfl) ?_
                    refine lv_iload hx hb dX14_callOf_225 (lv_at hl 3 rfl) ?_
                    have go_ := g
                    refine g_iast hx hb hK g ma_175 ka_175 (by decide) rfl (in_bd b_174 (by decide)) (bdT r_116) (by decide) dX14_callOf_227 (fun f H locs hM_176 g => ?_)
                    have hG_177 := isV.frame hM_176 go_.2.2.2.1 mq0_ kq0_ (by decide) (by decide) hG_167
                    have hG_178 := RA.frame hM_176 go_.2.2.2.1 ma0_ ka0_ (by decide) (by decide) hG_168
                    refine lv_aload_n hx hb dX14_callOf_228 rfl (lv_at hl 7 rfl) ?_
                    refine g_getk (C := RX14) (T := TX14) (N := 67) hx hb hts (mc_ inX14) hown hK g rfl 41 (by decide) rfl (hts _ (List.mem_cons_of_mem _ t_2187)) (fun _ h9 => h9) 0 rfl dX14_callOf_229 ?_
                    refine lv_iload hx hb dX14_callOf_232 (lv_at hl 0 rfl) ?_
                    refine lv_iconst (v := 1) hx hb dX14_callOf_234 (by decide) ?_
                    refine lv_iadd hx hb dX14_callOf_235 ?_
                    refine lv_topi (fun y_179 ey_179 => ?_)
                    have ty_179 := add_bd ey_179 b_174 kb_1 (by decide)
                    have b_180 : bd 4 61 y_179 := add_rg ty_179 b_174 kb_1 (by decide)
                    refine lv_iload hx hb dX14_callOf_236 (lv_at hl 2 rfl) ?_
                    have go_ := g
                    refine g_iast hx hb hK g ma_175 ka_175 (by decide) rfl (in_bd b_180 (by decide)) (bd_sub kb_0 (by decide)) (by decide) dX14_callOf_238 (fun f H locs hM_181 g => ?_)
                    have hG_182 := isV.frame hM_181 go_.2.2.2.1 mq0_ kq0_ (by decide) (by decide) hG_177
                    have hG_183 := RA.frame hM_181 go_.2.2.2.1 ma0_ ka0_ (by decide) (by decide) hG_178
                    refine lv_aload_n hx hb dX14_callOf_239 rfl (lv_at hl 7 rfl) ?_
                    refine g_getk (C := RX14) (T := TX14) (N := 67) hx hb hts (mc_ inX14) hown hK g rfl 41 (by decide) rfl (hts _ (List.mem_cons_of_mem _ t_2187)) (fun _ h9 => h9) 0 rfl dX14_callOf_240 ?_
                    refine lv_iload hx hb dX14_callOf_243 (lv_at hl 0 rfl) ?_
                    refine lv_iconst (v := 2) hx hb dX14_callOf_245 (by decide) ?_
                    refine lv_iadd hx hb dX14_callOf_246 ?_
                    refine lv_topi (fun y_184 ey_184 => ?_)
                    have ty_184 := add_bd ey_184 b_174 kb_2 (by decide)
                    have b_185 : bd 5 62 y_184 := add_rg ty_184 b_174 kb_2 (by decide)
                    refine lv_iload hx hb dX14_callOf_247 (lv_at hl 1 rfl) ?_
                    have go_ := g
                    refine g_iast hx hb hK g ma_175 ka_175 (by decide) rfl (in_bd b_185 (by decide)) (bd_sub kb_0 (by decide)) (by decide) dX14_callOf_249 (fun f H locs hM_186 g => ?_)
                    have hG_187 := isV.frame hM_186 go_.2.2.2.1 mq0_ kq0_ (by decide) (by decide) hG_182
                    have hG_188 := RA.frame hM_186 go_.2.2.2.1 ma0_ ka0_ (by decide) (by decide) hG_183
                    refine lv_aload_n hx hb dX14_callOf_250 rfl (lv_at hl 7 rfl) ?_
                    refine lv_iload hx hb dX14_callOf_251 (lv_at hl 5 rfl) ?_
                    refine lv_aload_n hx hb dX14_callOf_253 rfl (lv_at hl 7 rfl) ?_
                    refine g_getr (K := 220) (C := RX14) (T := TX14) (N := 67) hx hb hts (mc_ inX14) hown hK g ma0_ ka0_ (by decide) rfl 43 (by decide) rfl (hts _ (List.mem_cons_of_mem _ t_2189)) (fun _ h9 => h9) rfl dX14_callOf_254 (fun a_189 ma_189 ka_189 g => ?_)
                    refine lv_aload_n hx hb dX14_callOf_257 rfl (lv_at hl 7 rfl) ?_
                    refine g_getk (C := RX14) (T := TX14) (N := 67) hx hb hts (mc_ inX14) hown hK g rfl 35 (by decide) rfl (hts _ (List.mem_cons_of_mem _ t_2181)) (fun _ h9 => h9) 3 rfl dX14_callOf_258 ?_
                    refine g_iald hx hb hK g ma_189 ka_189 (by decide) rfl (in_bd b_170 (by decide)) dX14_callOf_261 (fun x_190 bx_190 cx_190 => ?_)
                    have vx_190 := hG_188.self g 0 rfl cx_190
                    have go_ := g
                    refine g_callEi (As := [.int r_16, .int x_190]) (rest := []) ⟨hx, hb, hml, hown, hts⟩ (ih.2.2.2.1 l dC dI L kd tys f H.size g.2.2.2.1 a0_ ma0_ ka0_ r_16 x_190 q0_ mq0_ kq0_ V_ δ_ hW w_ (bd_sub b_170 (by decide)) x_164 (bd_sub h_165 (by decide)) Z_ O_ hG_187 hG_188 h_20 bx_190 hm_25.1 (by rw [vx_190]; exact hz_26) (by have hN9 := hN; have bw9 := bw; unfold bd at bw9; have h1_ := EV.hi hW hE; omega) (g.fcts [9, 3, 2] rfl)) (cwV 2 hts (gV_ t_2663 t_2665 t_153 t_198 t_2666) rfl rfl rfl (by decide +kernel) ⟨(show N + 5 + 1 ≤ N + 1 + 5 by omega), (show 8 + (4 + 11) + (40 * N + 300) ≤ 40 * (N + 1) + 300 by omega)⟩) (pre3V g hK ma0_ ka0_ (by decide) (q := (RX14, TX14, 67)) rfl) rfl hl.1 rfl (lv_room (Nat.le_of_ble_eq_true rfl)) dX14_callOf_262 ⟨(Nat.le_of_ble_eq_true rfl), (Nat.le_of_ble_eq_true rfl)⟩ g hK (by decide) (by decide) (fx' := [(14, 43, a0_, .ref a_189), (14, 41, a0_, .ref a_175), (12, 53, q0_, .ref a_112), (12, 52, q0_, .ref a_27), (12, 56, q0_, .ref a_14), (12, 55, q0_, .ref a_12), (12, 47, q0_, .ref a_9), (14, 1, a0_, .ref q0_)]) rfl (fun xr_191 fr_191 H locs mxr_191 kxr_191 hp hMr_191 g => ?_) (fun r_191 fr_191 H locs hp hMr_191 g => ?_)
                    · have hG_192 := isV.frame hMr_191 go_.2.2.2.1 mq0_ kq0_ (by decide) (by decide) hG_187
                      subst hQ
                      exact WX.leaves hempty hlocks (fun t ht hW => g_thrE g hK mxr_191 kxr_191 trivial ht hW) g.2.2.1.2.2
                    · obtain ⟨hG_193, x_194, ⟨h_195, rh_195⟩, hF_196⟩ := hp
                      have hG_197 := isV.frame hMr_191 go_.2.2.2.1 mq0_ kq0_ (by decide) (by decide) hG_187
                      have g := g.more hF_196
                      subst hQ
                      exact W.thenQ (W.iret (v := r_191) hx hb hr (fun t ht hW => g_retE g hK ⟨_, rfl, ⟨hG_193, x_194, ⟨h_195, (by have h9_0 := h_20; unfold bd at h9_0; have h9_1 := b_8; unfold bd at h9_1; have h9_2 := bs; unfold bd at h9_2; have h9_3 := b_170; unfold bd at h9_3; have h9_4 := b_1; unfold bd at h9_4; have h9_5 := h_120; unfold bd at h9_5; have h9_6 := h_165; unfold bd at h9_6; have h9_7 := bx_190; unfold bd at h9_7; have h9_8 := h_195; unfold bd at h9_8; have h9_9 := b_124; unfold bd at h9_9; have h9_10 := b_114; unfold bd at h9_10; have h9_11 := b_172; unfold bd at h9_11; have h9_12 := b_174; unfold bd at h9_12; have h9_13 := b_180; unfold bd at h9_13; have h9_14 := b_185; unfold bd at h9_14; have h8_0 := kb_0; unfold bd at h8_0; have h8_1 := kb_1; unfold bd at h8_1; have h8_2 := kb_2; unfold bd at h8_2; have h8_3 := kb_20; unfold bd at h8_3; have h8_4 := kb_9; unfold bd at h8_4; omega)⟩, (g.fcts [0, 1] rfl)⟩⟩ ht hW) g.2.2.1.2.2 dX14_callOf_265) (fun _ => MQ.toE)
                  · have fc_169 := eq_f c_169
                    have b_198 : bd 20 20 w_ := eqX fc_169 bw kb_20 (by decide)
                    refine lv_aload_n hx hb dX14_callOf_204 rfl (lv_at hl 6 rfl) ?_
                    refine lv_iconst (v := 2) hx hb dX14_callOf_205 (by decide) ?_
                    have go_ := g
                    refine g_callEv (As := [.int 2]) (rest := []) ⟨hx, hb, hml, hown, hts⟩ (r_X14_ends l dC dI L kd tys fr_161 H.size g.2.2.2.1 a0_ ma0_ ka0_ 2) (cwV 1 hts (gV_ t_2651 t_2653 t_150 t_198 t_2654) rfl rfl rfl (by decide +kernel) ⟨(show 0 + 1 ≤ N + 1 + 5 by omega), (show 8 + (2 + 11) + 0 ≤ 40 * (N + 1) + 300 by omega)⟩) (pre3V g hK ma0_ ka0_ (by decide) (q := (RX14, TX14, 67)) rfl) rfl hl.1 rfl (lv_room (Nat.le_of_ble_eq_true rfl)) dX14_callOf_206 ⟨(Nat.le_of_ble_eq_true rfl), (Nat.le_of_ble_eq_true rfl)⟩ g hK (by decide) (by decide) (fx' := [(14, 34, a0_, .int x_164), (14, 35, a0_, .int w_), (12, 53, q0_, .ref a_112), (12, 52, q0_, .ref a_27), (12, 56, q0_, .ref a_14), (12, 55, q0_, .ref a_12), (12, 47, q0_, .ref a_9), (14, 1, a0_, .ref q0_)]) rfl (fun xr_199 fr_199 H locs mxr_199 kxr_199 hp hMr_199 g => ?_) (fun fr_199 H locs hp hMr_199 g => ?_)
                    · have hG_200 := isV.frame hMr_199 go_.2.2.2.1 mq0_ kq0_ (by decide) (by decide) hG_167
                      have hG_201 := RA.frame hMr_199 go_.2.2.2.1 ma0_ ka0_ (by decide) (by decide) hG_168
                      subst hQ
                      exact WX.leaves hempty hlocks (fun t ht hW => g_thrE g hK mxr_199 kxr_199 trivial ht hW) g.2.2.1.2.2
                    · exact hp.elim
            · have fc_125 := nle_f c_125
              have b_202 : bd 2 0 (2 : Int32) := ltL fc_125 kb_2 b_124 (by decide)
              exact bd_no (eqX rfl b_202 kb_2 (lo := 2) (hi := 0) (by decide)) (by decide)
          · have fc_123 := nle_f c_123
            have b_203 : bd 2 3 x_28 := ltR fc_123 kb_1 b_111 (by decide)
            refine lv_aload_n hx hb dX14_callOf_135 rfl (lv_at hl 4 rfl) ?_
            refine lv_aload_n hx hb dX14_callOf_136 rfl (lv_at hl 4 rfl) ?_
            refine g_getk (C := RX14) (T := TX14) (N := 67) hx hb hts (mc_ inX14) hown hK g rfl 1 (by decide) rfl (hts _ (List.mem_cons_of_mem _ t_2147)) (fun _ h9 => h9) 7 rfl dX14_callOf_137 ?_
            refine g_getk (C := RX12) (T := TX12) (N := 60) hx hb hts (mc_ inX12) hown hK g rfl 53 (by decide) rfl (hts _ (List.mem_cons_of_mem _ t_2010)) (fun _ h9 => h9) 2 rfl dX14_callOf_140 ?_
            refine lv_iconst (v := 3) hx hb dX14_callOf_143 (by decide) ?_
            refine lv_iload_n hx hb dX14_callOf_144 rfl (lv_at hl 5 rfl) ?_
            refine lv_imul hx hb dX14_callOf_145 ?_
            refine lv_topi (fun y_204 ey_204 => ?_)
            obtain rfl : y_113 = y_204 := ey_113.trans ey_204.symm
            refine lv_iconst (v := 1) hx hb dX14_callOf_146 (by decide) ?_
            refine lv_iadd hx hb dX14_callOf_147 ?_
            refine lv_topi (fun y_205 ey_205 => ?_)
            have ty_205 := add_bd ey_205 b_114 kb_1 (by decide)
            have b_206 : bd 1 7498 y_205 := add_rg ty_205 b_114 kb_1 (by decide)
            refine g_iald hx hb hK g ma_112 ka_112 (by decide) rfl (in_bd b_206 (by decide)) dX14_callOf_148 (fun x_207 bx_207 cx_207 => ?_)
            have vx_207 : x_207 = V_.i 53 y_205.toNatClampNeg := hG_122.at g 2 rfl rfl cx_207
            have go_ := g
            refine g_callEi (As := [.int x_207]) (rest := []) ⟨hx, hb, hml, hown, hts⟩ (ih.1 l dC dI L kd tys fr_116 H.size g.2.2.2.1 a0_ ma0_ ka0_ x_207 q0_ mq0_ kq0_ V_ δ_ hW w_ bw x_119 h_120 Z_ O_ hG_122 hG_118 d_ hcl (h_ - 1) (ev_a hW hE hC (k := 1) vx_28 (by have h9_0 := h_20; unfold bd at h9_0; have h9_1 := b_8; unfold bd at h9_1; have h9_2 := bs; unfold bd at h9_2; have h9_3 := bw; unfold bd at h9_3; have h9_4 := b_1; unfold bd at h9_4; have h9_5 := h_120; unfold bd at h9_5; have h9_6 := b_203; unfold bd at h9_6; have h9_7 := b_114; unfold bd at h9_7; have h9_8 := b_206; unfold bd at h9_8; have h8_0 := kb_0; unfold bd at h8_0; have h8_1 := kb_1; unfold bd at h8_1; have h8_2 := kb_9; unfold bd at h8_2; have h7 := kb_1; unfold bd at h7; omega) (by decide) (by have h9_0 := h_20; unfold bd at h9_0; have h9_1 := b_8; unfold bd at h9_1; have h9_2 := bs; unfold bd at h9_2; have h9_3 := bw; unfold bd at h9_3; have h9_4 := b_1; unfold bd at h9_4; have h9_5 := h_120; unfold bd at h9_5; have h9_6 := b_203; unfold bd at h9_6; have h9_7 := b_114; unfold bd at h9_7; have h9_8 := b_206; unfold bd at h9_8; have h8_0 := kb_0; unfold bd at h8_0; have h8_1 := kb_1; unfold bd at h8_1; have h8_2 := kb_9; unfold bd at h8_2; have h7 := kb_1; unfold bd at h7; omega) vx_207) (by have hN9 := hN; have bw9 := bw; unfold bd at bw9; have h1_ := EV.hi hW hE; omega) (g.fcts [7, 0, 1] rfl)) (cwV 1 hts (gV_ t_2634 t_2636 t_146 t_198 t_2637) rfl rfl rfl (by decide +kernel) ⟨(show N + 5 + 1 ≤ N + 1 + 5 by omega), (show 8 + (5 + 11) + (40 * N + 300) ≤ 40 * (N + 1) + 300 by omega)⟩) (pre3V g hK ma0_ ka0_ (by decide) (q := (RX14, TX14, 67)) rfl) rfl hl.1 rfl (lv_room (Nat.le_of_ble_eq_true rfl)) dX14_callOf_149 ⟨(Nat.le_of_ble_eq_true rfl), (Nat.le_of_ble_eq_true rfl)⟩ g hK (by decide) (by decide) (fx' := [(12, 53, q0_, .ref a_112), (12, 52, q0_, .ref a_27), (12, 56, q0_, .ref a_14), (12, 55, q0_, .ref a_12), (12, 47, q0_, .ref a_9), (14, 1, a0_, .ref q0_)]) rfl (fun xr_208 fr_208 H locs mxr_208 kxr_208 hp hMr_208 g => ?_) (fun r_208 fr_208 H locs hp hMr_208 g => ?_)
            · have hG_209 := isV.frame hMr_208 go_.2.2.2.1 mq0_ kq0_ (by decide) (by decide) hG_122
              subst hQ
              exact WX.leaves hempty hlocks (fun t ht hW => g_thrE g hK mxr_208 kxr_208 trivial ht hW) g.2.2.1.2.2
            · obtain ⟨hG_210, x_211, ⟨h_212, rh_212⟩, hF_213⟩ := hp
              have hG_214 := isV.frame hMr_208 go_.2.2.2.1 mq0_ kq0_ (by decide) (by decide) hG_122
              have g := g.more hF_213
              refine lv_goto (tgt := 156) hx hb dX14_callOf_152 (by decide) ?_
              refine lv_istore (lv' := [(7, .int r_208), (6, .int r_116), (5, .int x_28), (4, .int r_16), (3, .int r_2), (0, .ref a0_), (1, .int x1_), (2, .int x2_)]) hx hb dX14_callOf_156 hl (by decide) rfl (fun ls hl => ?_)
              refine lv_iload hx hb dX14_callOf_158 (lv_at hl 2 rfl) ?_
              refine lv_iconst (v := 2) hx hb dX14_callOf_160 (by decide) ?_
              have kb_2 : bd 2 2 (2 : Int32) := ⟨by decide, by decide⟩
              refine lv_icmp_le (tgt := 184) hx hb dX14_callOf_161 (by decide) (fun c_215 => ?_) (fun c_215 => ?_)
              · have fc_215 := le_f c_215
                have b_216 : bd 2 2 x_28 := leL fc_215 b_203 kb_2 (by decide)
                refine lv_iconst (v := 0) hx hb dX14_callOf_184 (by decide) ?_
                refine lv_istore (lv' := [(8, .int 0), (7, .int r_208), (6, .int r_116), (5, .int x_28), (4, .int r_16), (3, .int r_2), (0, .ref a0_), (1, .int x1_), (2, .int x2_)]) hx hb dX14_callOf_185 hl (by decide) rfl (fun ls hl => ?_)
                refine lv_iload_n hx hb dX14_callOf_187 rfl (lv_at hl 8 rfl) ?_
                refine lv_if_eq (tgt := 195) hx hb dX14_callOf_188 (by decide) (fun c_217 => ?_) (fun c_217 => ?_)
                · have fc_217 := eq_f c_217
                  have b_218 : bd 0 0 x2_ := eqX fc_217 (bdT x2_) kb_0 (by decide)
                  refine lv_aload_n hx hb dX14_callOf_195 rfl (lv_at hl 6 rfl) ?_
                  refine g_getk (C := RX14) (T := TX14) (N := 67) hx hb hts (mc_ inX14) hown hK g rfl 35 (by decide) rfl (hts _ (List.mem_cons_of_mem _ t_2181)) (fun _ h9 => h9) 0 rfl dX14_callOf_196 ?_
                  refine lv_bipush (v := 20) hx hb dX14_callOf_199 (by decide) ?_
                  have kb_20 : bd 20 20 (20 : Int32) := ⟨by decide, by decide⟩
                  refine lv_icmp_ne (tgt := 209) hx hb dX14_callOf_201 (by decide) (fun c_219 => ?_) (fun c_219 => ?_)
                  · have fc_219 := neq_f c_219
                    have b_220 : bd 0 19 w_ := neX fc_219 bw kb_20 (by decide)
                    refine lv_iconst (v := 3) hx hb dX14_callOf_209 (by decide) ?_
                    refine lv_aload_n hx hb dX14_callOf_210 rfl (lv_at hl 6 rfl) ?_
                    refine g_getk (C := RX14) (T := TX14) (N := 67) hx hb hts (mc_ inX14) hown hK g rfl 35 (by decide) rfl (hts _ (List.mem_cons_of_mem _ t_2181)) (fun _ h9 => h9) 0 rfl dX14_callOf_211 ?_
                    refine lv_iconst (v := 1) hx hb dX14_callOf_214 (by decide) ?_
                    refine lv_iadd hx hb dX14_callOf_215 ?_
                    refine lv_topi (fun y_221 ey_221 => ?_)
                    have ty_221 := add_bd ey_221 b_220 kb_1 (by decide)
                    have b_222 : bd 1 20 y_221 := add_rg ty_221 b_220 kb_1 (by decide)
                    refine lv_imul hx hb dX14_callOf_216 ?_
                    refine lv_topi (fun y_223 ey_223 => ?_)
                    have ty_223 := cmul_bd ey_223 (c := 3) (by decide) b_222 (by decide)
                    have b_224 : bd 3 60 y_223 := mulc_rg ty_223 b_222 (by decide)
                    refine lv_istore (lv' := [(9, .int y_223), (8, .int 0), (7, .int r_208), (6, .int r_116), (5, .int x_28), (4, .int r_16), (3, .int r_2), (0, .ref a0_), (1, .int x1_), (2, .int x2_)]) hx hb dX14_callOf_217 hl (by decide) rfl (fun ls hl => ?_)
                    refine lv_aload_n hx hb dX14_callOf_219 rfl (lv_at hl 7 rfl) ?_
                    refine g_getr (K := 218) (C := RX14) (T := TX14) (N := 67) hx hb hts (mc_ inX14) hown hK g ma0_ ka0_ (by decide) rfl 41 (by decide) rfl (hts _ (List.mem_cons_of_mem _ t_2187)) (fun _ h9 => h9) rfl dX14_callOf_220 (fun a_225 ma_225 ka_225 g => ?_)
                    refine lv_iload hx hb dX14_callOf_223 (lv_at hl 0 rfl) ?_
                    refine lv_iload hx hb dX14_callOf_225 (lv_at hl 3 rfl) ?_
                    have go_ := g
                    refine g_iast hx hb hK g ma_225 ka_225 (by decide) rfl (in_bd b_224 (by decide)) (bdT r_116) (by decide) dX14_callOf_227 (fun f H locs hM_226 g => ?_)
                    have hG_227 := isV.frame hM_226 go_.2.2.2.1 mq0_ kq0_ (by decide) (by decide) hG_214
                    have hG_228 := RA.frame hM_226 go_.2.2.2.1 ma0_ ka0_ (by decide) (by decide) hG_210
                    refine lv_aload_n hx hb dX14_callOf_228 rfl (lv_at hl 7 rfl) ?_
                    refine g_getk (C := RX14) (T := TX14) (N := 67) hx hb hts (mc_ inX14) hown hK g rfl 41 (by decide) rfl (hts _ (List.mem_cons_of_mem _ t_2187)) (fun _ h9 => h9) 0 rfl dX14_callOf_229 ?_
                    refine lv_iload hx hb dX14_callOf_232 (lv_at hl 0 rfl) ?_
                    refine lv_iconst (v := 1) hx hb dX14_callOf_234 (by decide) ?_
                    refine lv_iadd hx hb dX14_callOf_235 ?_
                    refine lv_topi (fun y_229 ey_229 => ?_)
                    have ty_229 := add_bd ey_229 b_224 kb_1 (by decide)
                    have b_230 : bd 4 61 y_229 := add_rg ty_229 b_224 kb_1 (by decide)
                    refine lv_iload hx hb dX14_callOf_236 (lv_at hl 2 rfl) ?_
                    have go_ := g
                    refine g_iast hx hb hK g ma_225 ka_225 (by decide) rfl (in_bd b_230 (by decide)) (bdT r_208) (by decide) dX14_callOf_238 (fun f H locs hM_231 g => ?_)
                    have hG_232 := isV.frame hM_231 go_.2.2.2.1 mq0_ kq0_ (by decide) (by decide) hG_227
                    have hG_233 := RA.frame hM_231 go_.2.2.2.1 ma0_ ka0_ (by decide) (by decide) hG_228
                    refine lv_aload_n hx hb dX14_callOf_239 rfl (lv_at hl 7 rfl) ?_
                    refine g_getk (C := RX14) (T := TX14) (N := 67) hx hb hts (mc_ inX14) hown hK g rfl 41 (by decide) rfl (hts _ (List.mem_cons_of_mem _ t_2187)) (fun _ h9 => h9) 0 rfl dX14_callOf_240 ?_
                    refine lv_iload hx hb dX14_callOf_243 (lv_at hl 0 rfl) ?_
                    refine lv_iconst (v := 2) hx hb dX14_callOf_245 (by decide) ?_
                    refine lv_iadd hx hb dX14_callOf_246 ?_
                    refine lv_topi (fun y_234 ey_234 => ?_)
                    have ty_234 := add_bd ey_234 b_224 kb_2 (by decide)
                    have b_235 : bd 5 62 y_234 := add_rg ty_234 b_224 kb_2 (by decide)
                    refine lv_iload hx hb dX14_callOf_247 (lv_at hl 1 rfl) ?_
                    have go_ := g
                    refine g_iast hx hb hK g ma_225 ka_225 (by decide) rfl (in_bd b_235 (by decide)) (bd_sub kb_0 (by decide)) (by decide) dX14_callOf_249 (fun f H locs hM_236 g => ?_)
                    have hG_237 := isV.frame hM_236 go_.2.2.2.1 mq0_ kq0_ (by decide) (by decide) hG_232
                    have hG_238 := RA.frame hM_236 go_.2.2.2.1 ma0_ ka0_ (by decide) (by decide) hG_233
                    refine lv_aload_n hx hb dX14_callOf_250 rfl (lv_at hl 7 rfl) ?_
                    refine lv_iload hx hb dX14_callOf_251 (lv_at hl 5 rfl) ?_
                    refine lv_aload_n hx hb dX14_callOf_253 rfl (lv_at hl 7 rfl) ?_
                    refine g_getr (K := 220) (C := RX14) (T := TX14) (N := 67) hx hb hts (mc_ inX14) hown hK g ma0_ ka0_ (by decide) rfl 43 (by decide) rfl (hts _ (List.mem_cons_of_mem _ t_2189)) (fun _ h9 => h9) rfl dX14_callOf_254 (fun a_239 ma_239 ka_239 g => ?_)
                    refine lv_aload_n hx hb dX14_callOf_257 rfl (lv_at hl 7 rfl) ?_
                    refine g_getk (C := RX14) (T := TX14) (N := 67) hx hb hts (mc_ inX14) hown hK g rfl 35 (by decide) rfl (hts _ (List.mem_cons_of_mem _ t_2181)) (fun _ h9 => h9) 2 rfl dX14_callOf_258 ?_
                    refine g_iald hx hb hK g ma_239 ka_239 (by decide) rfl (in_bd b_220 (by decide)) dX14_callOf_261 (fun x_240 bx_240 cx_240 => ?_)
                    have vx_240 := hG_238.self g 0 rfl cx_240
                    have go_ := g
                    refine g_callEi (As := [.int r_16, .int x_240]) (rest := []) ⟨hx, hb, hml, hown, hts⟩ (ih.2.2.2.1 l dC dI L kd tys f H.size g.2.2.2.1 a0_ ma0_ ka0_ r_16 x_240 q0_ mq0_ kq0_ V_ δ_ hW w_ (bd_sub b_220 (by decide)) x_211 h_212 Z_ O_ hG_237 hG_238 h_20 bx_240 hm_25.1 (by rw [vx_240]; exact hz_26) (by have hN9 := hN; have bw9 := bw; unfold bd at bw9; have h1_ := EV.hi hW hE; omega) (g.fcts [9, 2, 3] rfl)) (cwV 2 hts (gV_ t_2663 t_2665 t_153 t_198 t_2666) rfl rfl rfl (by decide +kernel) ⟨(show N + 5 + 1 ≤ N + 1 + 5 by omega), (show 8 + (4 + 11) + (40 * N + 300) ≤ 40 * (N + 1) + 300 by omega)⟩) (pre3V g hK ma0_ ka0_ (by decide) (q := (RX14, TX14, 67)) rfl) rfl hl.1 rfl (lv_room (Nat.le_of_ble_eq_true rfl)) dX14_callOf_262 ⟨(Nat.le_of_ble_eq_true rfl), (Nat.le_of_ble_eq_true rfl)⟩ g hK (by decide) (by decide) (fx' := [(14, 43, a0_, .ref a_239), (14, 41, a0_, .ref a_225), (12, 53, q0_, .ref a_112), (12, 52, q0_, .ref a_27), (12, 56, q0_, .ref a_14), (12, 55, q0_, .ref a_12), (12, 47, q0_, .ref a_9), (14, 1, a0_, .ref q0_)]) rfl (fun xr_241 fr_241 H locs mxr_241 kxr_241 hp hMr_241 g => ?_) (fun r_241 fr_241 H locs hp hMr_241 g => ?_)
                    · have hG_242 := isV.frame hMr_241 go_.2.2.2.1 mq0_ kq0_ (by decide) (by decide) hG_237
                      subst hQ
                      exact WX.leaves hempty hlocks (fun t ht hW => g_thrE g hK mxr_241 kxr_241 trivial ht hW) g.2.2.1.2.2
                    · obtain ⟨hG_243, x_244, ⟨h_245, rh_245⟩, hF_246⟩ := hp
                      have hG_247 := isV.frame hMr_241 go_.2.2.2.1 mq0_ kq0_ (by decide) (by decide) hG_237
                      have g := g.more hF_246
                      subst hQ
                      exact W.thenQ (W.iret (v := r_241) hx hb hr (fun t ht hW => g_retE g hK ⟨_, rfl, ⟨hG_243, x_244, ⟨h_245, (by have h9_0 := h_20; unfold bd at h9_0; have h9_1 := b_8; unfold bd at h9_1; have h9_2 := bs; unfold bd at h9_2; have h9_3 := b_220; unfold bd at h9_3; have h9_4 := b_1; unfold bd at h9_4; have h9_5 := b_218; unfold bd at h9_5; have h9_6 := h_120; unfold bd at h9_6; have h9_7 := h_212; unfold bd at h9_7; have h9_8 := bx_240; unfold bd at h9_8; have h9_9 := h_245; unfold bd at h9_9; have h9_10 := b_216; unfold bd at h9_10; have h9_11 := b_114; unfold bd at h9_11; have h9_12 := b_206; unfold bd at h9_12; have h9_13 := b_222; unfold bd at h9_13; have h9_14 := b_224; unfold bd at h9_14; have h9_15 := b_230; unfold bd at h9_15; have h9_16 := b_235; unfold bd at h9_16; have h8_0 := kb_0; unfold bd at h8_0; have h8_1 := kb_1; unfold bd at h8_1; have h8_2 := kb_2; unfold bd at h8_2; have h8_3 := kb_20; unfold bd at h8_3; have h8_4 := kb_9; unfold bd at h8_4; omega)⟩, (g.fcts [0, 1] rfl)⟩⟩ ht hW) g.2.2.1.2.2 dX14_callOf_265) (fun _ => MQ.toE)
                  · have fc_219 := eq_f c_219
                    have b_248 : bd 20 20 w_ := eqX fc_219 bw kb_20 (by decide)
                    refine lv_aload_n hx hb dX14_callOf_204 rfl (lv_at hl 6 rfl) ?_
                    refine lv_iconst (v := 2) hx hb dX14_callOf_205 (by decide) ?_
                    have go_ := g
                    refine g_callEv (As := [.int 2]) (rest := []) ⟨hx, hb, hml, hown, hts⟩ (r_X14_ends l dC dI L kd tys fr_208 H.size g.2.2.2.1 a0_ ma0_ ka0_ 2) (cwV 1 hts (gV_ t_2651 t_2653 t_150 t_198 t_2654) rfl rfl rfl (by decide +kernel) ⟨(show 0 + 1 ≤ N + 1 + 5 by omega), (show 8 + (2 + 11) + 0 ≤ 40 * (N + 1) + 300 by omega)⟩) (pre3V g hK ma0_ ka0_ (by decide) (q := (RX14, TX14, 67)) rfl) rfl hl.1 rfl (lv_room (Nat.le_of_ble_eq_true rfl)) dX14_callOf_206 ⟨(Nat.le_of_ble_eq_true rfl), (Nat.le_of_ble_eq_true rfl)⟩ g hK (by decide) (by decide) (fx' := [(14, 35, a0_, .int w_), (14, 34, a0_, .int x_211), (12, 53, q0_, .ref a_112), (12, 52, q0_, .ref a_27), (12, 56, q0_, .ref a_14), (12, 55, q0_, .ref a_12), (12, 47, q0_, .ref a_9), (14, 1, a0_, .ref q0_)]) rfl (fun xr_249 fr_249 H locs mxr_249 kxr_249 hp hMr_249 g => ?_) (fun fr_249 H locs hp hMr_249 g => ?_)
                    · have hG_250 := isV.frame hMr_249 go_.2.2.2.1 mq0_ kq0_ (by decide) (by decide) hG_214
                      have hG_251 := RA.frame hMr_249 go_.2.2.2.1 ma0_ ka0_ (by decide) (by decide) hG_210
                      subst hQ
                      exact WX.leaves hempty hlocks (fun t ht hW => g_thrE g hK mxr_249 kxr_249 trivial ht hW) g.2.2.1.2.2
                    · exact hp.elim
                · have fc_217 := neq_f c_217
                  refine lv_aload_n hx hb dX14_callOf_191 rfl (lv_at hl 6 rfl) ?_
                  have go_ := g
                  refine g_callEv (As := []) (rest := []) ⟨hx, hb, hml, hown, hts⟩ (r_X14_stepN l dC dI L kd tys fr_208 H.size g.2.2.2.1 a0_ ma0_ ka0_ x_211 h_212 (g.fcts [1] rfl)) (cwV 0 hts (gV_ t_2659 t_2661 t_152 t_198 t_2662) rfl rfl rfl (by decide +kernel) ⟨(show 1 + 1 ≤ N + 1 + 5 by omega), (show 8 + (1 + 11) + 21 ≤ 40 * (N + 1) + 300 by omega)⟩) (pre3V g hK ma0_ ka0_ (by decide) (q := (RX14, TX14, 67)) rfl) rfl hl.1 rfl (lv_room (Nat.le_of_ble_eq_true rfl)) dX14_callOf_192 ⟨(Nat.le_of_ble_eq_true rfl), (Nat.le_of_ble_eq_true rfl)⟩ g hK (by decide) (by decide) (fx' := [(14, 35, a0_, .int w_), (12, 53, q0_, .ref a_112), (12, 52, q0_, .ref a_27), (12, 56, q0_, .ref a_14), (12, 55, q0_, .ref a_12), (12, 47, q0_, .ref a_9), (14, 1, a0_, .ref q0_)]) rfl (fun xr_252 fr_252 H locs mxr_252 kxr_252 hp hMr_252 g => ?_) (fun fr_252 H locs hp hMr_252 g => ?_)
                  · have hG_253 := isV.frame hMr_252 go_.2.2.2.1 mq0_ kq0_ (by decide) (by decide) hG_214
                    have hG_254 := RA.frame hMr_252 go_.2.2.2.1 ma0_ ka0_ (by decide) (by decide) hG_210
                    subst hQ
                    exact WX.leaves hempty hlocks (fun t ht hW => g_thrE g hK mxr_252 kxr_252 trivial ht hW) g.2.2.1.2.2
                  · obtain ⟨x_255, ⟨h_256, rh_256⟩, hF_257⟩ := hp
                    have hG_258 := isV.frame hMr_252 go_.2.2.2.1 mq0_ kq0_ (by decide) (by decide) hG_214
                    have hG_259 := RA.frame hMr_252 go_.2.2.2.1 ma0_ ka0_ (by decide) (by decide) hG_210
                    have g := g.more hF_257
                    refine lv_aload_n hx hb dX14_callOf_195 rfl (lv_at hl 6 rfl) ?_
                    refine g_getk (C := RX14) (T := TX14) (N := 67) hx hb hts (mc_ inX14) hown hK g rfl 35 (by decide) rfl (hts _ (List.mem_cons_of_mem _ t_2181)) (fun _ h9 => h9) 1 rfl dX14_callOf_196 ?_
                    refine lv_bipush (v := 20) hx hb dX14_callOf_199 (by decide) ?_
                    have kb_20 : bd 20 20 (20 : Int32) := ⟨by decide, by decide⟩
                    refine lv_icmp_ne (tgt := 209) hx hb dX14_callOf_201 (by decide) (fun c_260 => ?_) (fun c_260 => ?_)
                    · have fc_260 := neq_f c_260
                      have b_261 : bd 0 19 w_ := neX fc_260 bw kb_20 (by decide)
                      refine lv_iconst (v := 3) hx hb dX14_callOf_209 (by decide) ?_
                      refine lv_aload_n hx hb dX14_callOf_210 rfl (lv_at hl 6 rfl) ?_
                      refine g_getk (C := RX14) (T := TX14) (N := 67) hx hb hts (mc_ inX14) hown hK g rfl 35 (by decide) rfl (hts _ (List.mem_cons_of_mem _ t_2181)) (fun _ h9 => h9) 1 rfl dX14_callOf_211 ?_
                      refine lv_iconst (v := 1) hx hb dX14_callOf_214 (by decide) ?_
                      refine lv_iadd hx hb dX14_callOf_215 ?_
                      refine lv_topi (fun y_262 ey_262 => ?_)
                      have ty_262 := add_bd ey_262 b_261 kb_1 (by decide)
                      have b_263 : bd 1 20 y_262 := add_rg ty_262 b_261 kb_1 (by decide)
                      refine lv_imul hx hb dX14_callOf_216 ?_
                      refine lv_topi (fun y_264 ey_264 => ?_)
                      have ty_264 := cmul_bd ey_264 (c := 3) (by decide) b_263 (by decide)
                      have b_265 : bd 3 60 y_264 := mulc_rg ty_264 b_263 (by decide)
                      refine lv_istore (lv' := [(9, .int y_264), (8, .int 0), (7, .int r_208), (6, .int r_116), (5, .int x_28), (4, .int r_16), (3, .int r_2), (0, .ref a0_), (1, .int x1_), (2, .int x2_)]) hx hb dX14_callOf_217 hl (by decide) rfl (fun ls hl => ?_)
                      refine lv_aload_n hx hb dX14_callOf_219 rfl (lv_at hl 7 rfl) ?_
                      refine g_getr (K := 218) (C := RX14) (T := TX14) (N := 67) hx hb hts (mc_ inX14) hown hK g ma0_ ka0_ (by decide) rfl 41 (by decide) rfl (hts _ (List.mem_cons_of_mem _ t_2187)) (fun _ h9 => h9) rfl dX14_callOf_220 (fun a_266 ma_266 ka_266 g => ?_)
                      refine lv_iload hx hb dX14_callOf_223 (lv_at hl 0 rfl) ?_
                      refine lv_iload hx hb dX14_callOf_225 (lv_at hl 3 rfl) ?_
                      have go_ := g
                      refine g_iast hx hb hK g ma_266 ka_266 (by decide) rfl (in_bd b_265 (by decide)) (bdT r_116) (by decide) dX14_callOf_227 (fun f H locs hM_267 g => ?_)
                      have hG_268 := isV.frame hM_267 go_.2.2.2.1 mq0_ kq0_ (by decide) (by decide) hG_258
                      have hG_269 := RA.frame hM_267 go_.2.2.2.1 ma0_ ka0_ (by decide) (by decide) hG_259
                      refine lv_aload_n hx hb dX14_callOf_228 rfl (lv_at hl 7 rfl) ?_
                      refine g_getk (C := RX14) (T := TX14) (N := 67) hx hb hts (mc_ inX14) hown hK g rfl 41 (by decide) rfl (hts _ (List.mem_cons_of_mem _ t_2187)) (fun _ h9 => h9) 0 rfl dX14_callOf_229 ?_
                      refine lv_iload hx hb dX14_callOf_232 (lv_at hl 0 rfl) ?_
                      refine lv_iconst (v := 1) hx hb dX14_callOf_234 (by decide) ?_
                      refine lv_iadd hx hb dX14_callOf_235 ?_
                      refine lv_topi (fun y_270 ey_270 => ?_)
                      have ty_270 := add_bd ey_270 b_265 kb_1 (by decide)
                      have b_271 : bd 4 61 y_270 := add_rg ty_270 b_265 kb_1 (by decide)
                      refine lv_iload hx hb dX14_callOf_236 (lv_at hl 2 rfl) ?_
                      have go_ := g
                      refine g_iast hx hb hK g ma_266 ka_266 (by decide) rfl (in_bd b_271 (by decide)) (bdT r_208) (by decide) dX14_callOf_238 (fun f H locs hM_272 g => ?_)
                      have hG_273 := isV.frame hM_272 go_.2.2.2.1 mq0_ kq0_ (by decide) (by decide) hG_268
                      have hG_274 := RA.frame hM_272 go_.2.2.2.1 ma0_ ka0_ (by decide) (by decide) hG_269
                      refine lv_aload_n hx hb dX14_callOf_239 rfl (lv_at hl 7 rfl) ?_
                      refine g_getk (C := RX14) (T := TX14) (N := 67) hx hb hts (mc_ inX14) hown hK g rfl 41 (by decide) rfl (hts _ (List.mem_cons_of_mem _ t_2187)) (fun _ h9 => h9) 0 rfl dX14_callOf_240 ?_
                      refine lv_iload hx hb dX14_callOf_243 (lv_at hl 0 rfl) ?_
                      refine lv_iconst (v := 2) hx hb dX14_callOf_245 (by decide) ?_
                      refine lv_iadd hx hb dX14_callOf_246 ?_
                      refine lv_topi (fun y_275 ey_275 => ?_)
                      have ty_275 := add_bd ey_275 b_265 kb_2 (by decide)
                      have b_276 : bd 5 62 y_275 := add_rg ty_275 b_265 kb_2 (by decide)
                      refine lv_iload hx hb dX14_callOf_247 (lv_at hl 1 rfl) ?_
                      have go_ := g
                      refine g_iast hx hb hK g ma_266 ka_266 (by decide) rfl (in_bd b_276 (by decide)) (bd_sub kb_0 (by decide)) (by decide) dX14_callOf_249 (fun f H locs hM_277 g => ?_)
                      have hG_278 := isV.frame hM_277 go_.2.2.2.1 mq0_ kq0_ (by decide) (by decide) hG_273
                      have hG_279 := RA.frame hM_277 go_.2.2.2.1 ma0_ ka0_ (by decide) (by decide) hG_274
                      refine lv_aload_n hx hb dX14_callOf_250 rfl (lv_at hl 7 rfl) ?_
                      refine lv_iload hx hb dX14_callOf_251 (lv_at hl 5 rfl) ?_
                      refine lv_aload_n hx hb dX14_callOf_253 rfl (lv_at hl 7 rfl) ?_
                      refine g_getr (K := 220) (C := RX14) (T := TX14) (N := 67) hx hb hts (mc_ inX14) hown hK g ma0_ ka0_ (by decide) rfl 43 (by decide) rfl (hts _ (List.mem_cons_of_mem _ t_2189)) (fun _ h9 => h9) rfl dX14_callOf_254 (fun a_280 ma_280 ka_280 g => ?_)
                      refine lv_aload_n hx hb dX14_callOf_257 rfl (lv_at hl 7 rfl) ?_
                      refine g_getk (C := RX14) (T := TX14) (N := 67) hx hb hts (mc_ inX14) hown hK g rfl 35 (by decide) rfl (hts _ (List.mem_cons_of_mem _ t_2181)) (fun _ h9 => h9) 3 rfl dX14_callOf_258 ?_
                      refine g_iald hx hb hK g ma_280 ka_280 (by decide) rfl (in_bd b_261 (by decide)) dX14_callOf_261 (fun x_281 bx_281 cx_281 => ?_)
                      have vx_281 := hG_279.self g 0 rfl cx_281
                      have go_ := g
                      refine g_callEi (As := [.int r_16, .int x_281]) (rest := []) ⟨hx, hb, hml, hown, hts⟩ (ih.2.2.2.1 l dC dI L kd tys f H.size g.2.2.2.1 a0_ ma0_ ka0_ r_16 x_281 q0_ mq0_ kq0_ V_ δ_ hW w_ (bd_sub b_261 (by decide)) x_255 (bd_sub h_256 (by decide)) Z_ O_ hG_278 hG_279 h_20 bx_281 hm_25.1 (by rw [vx_281]; exact hz_26) (by have hN9 := hN; have bw9 := bw; unfold bd at bw9; have h1_ := EV.hi hW hE; omega) (g.fcts [9, 3, 2] rfl)) (cwV 2 hts (gV_ t_2663 t_2665 t_153 t_198 t_2666) rfl rfl rfl (by decide +kernel) ⟨(show N + 5 + 1 ≤ N + 1 + 5 by omega), (show 8 + (4 + 11) + (40 * N + 300) ≤ 40 * (N + 1) + 300 by omega)⟩) (pre3V g hK ma0_ ka0_ (by decide) (q := (RX14, TX14, 67)) rfl) rfl hl.1 rfl (lv_room (Nat.le_of_ble_eq_true rfl)) dX14_callOf_262 ⟨(Nat.le_of_ble_eq_true rfl), (Nat.le_of_ble_eq_true rfl)⟩ g hK (by decide) (by decide) (fx' := [(14, 43, a0_, .ref a_280), (14, 41, a0_, .ref a_266), (12, 53, q0_, .ref a_112), (12, 52, q0_, .ref a_27), (12, 56, q0_, .ref a_14), (12, 55, q0_, .ref a_12), (12, 47, q0_, .ref a_9), (14, 1, a0_, .ref q0_)]) rfl (fun xr_282 fr_282 H locs mxr_282 kxr_282 hp hMr_282 g => ?_) (fun r_282 fr_282 H locs hp hMr_282 g => ?_)
                      · have hG_283 := isV.frame hMr_282 go_.2.2.2.1 mq0_ kq0_ (by decide) (by decide) hG_278
                        subst hQ
                        exact WX.leaves hempty hlocks (fun t ht hW => g_thrE g hK mxr_282 kxr_282 trivial ht hW) g.2.2.1.2.2
                      · obtain ⟨hG_284, x_285, ⟨h_286, rh_286⟩, hF_287⟩ := hp
                        have hG_288 := isV.frame hMr_282 go_.2.2.2.1 mq0_ kq0_ (by decide) (by decide) hG_278
                        have g := g.more hF_287
                        subst hQ
                        exact W.thenQ (W.iret (v := r_282) hx hb hr (fun t ht hW => g_retE g hK ⟨_, rfl, ⟨hG_284, x_285, ⟨h_286, (by have h9_0 := h_20; unfold bd at h9_0; have h9_1 := b_8; unfold bd at h9_1; have h9_2 := bs; unfold bd at h9_2; have h9_3 := b_261; unfold bd at h9_3; have h9_4 := b_1; unfold bd at h9_4; have h9_5 := h_120; unfold bd at h9_5; have h9_6 := h_212; unfold bd at h9_6; have h9_7 := h_256; unfold bd at h9_7; have h9_8 := b_216; unfold bd at h9_8; have h9_9 := bx_281; unfold bd at h9_9; have h9_10 := h_286; unfold bd at h9_10; have h9_11 := b_114; unfold bd at h9_11; have h9_12 := b_206; unfold bd at h9_12; have h9_13 := b_263; unfold bd at h9_13; have h9_14 := b_265; unfold bd at h9_14; have h9_15 := b_271; unfold bd at h9_15; have h9_16 := b_276; unfold bd at h9_16; have h8_0 := kb_0; unfold bd at h8_0; have h8_1 := kb_1; unfold bd at h8_1; have h8_2 := kb_2; unfold bd at h8_2; have h8_3 := kb_20; unfold bd at h8_3; have h8_4 := kb_9; unfold bd at h8_4; omega)⟩, (g.fcts [0, 1] rfl)⟩⟩ ht hW) g.2.2.1.2.2 dX14_callOf_265) (fun _ => MQ.toE)
                    · have fc_260 := eq_f c_260
                      have b_289 : bd 20 20 w_ := eqX fc_260 bw kb_20 (by decide)
                      refine lv_aload_n hx hb dX14_callOf_204 rfl (lv_at hl 6 rfl) ?_
                      refine lv_iconst (v := 2) hx hb dX14_callOf_205 (by decide) ?_
                      have go_ := g
                      refine g_callEv (As := [.int 2]) (rest := []) ⟨hx, hb, hml, hown, hts⟩ (r_X14_ends l dC dI L kd tys fr_252 H.size g.2.2.2.1 a0_ ma0_ ka0_ 2) (cwV 1 hts (gV_ t_2651 t_2653 t_150 t_198 t_2654) rfl rfl rfl (by decide +kernel) ⟨(show 0 + 1 ≤ N + 1 + 5 by omega), (show 8 + (2 + 11) + 0 ≤ 40 * (N + 1) + 300 by omega)⟩) (pre3V g hK ma0_ ka0_ (by decide) (q := (RX14, TX14, 67)) rfl) rfl hl.1 rfl (lv_room (Nat.le_of_ble_eq_true rfl)) dX14_callOf_206 ⟨(Nat.le_of_ble_eq_true rfl), (Nat.le_of_ble_eq_true rfl)⟩ g hK (by decide) (by decide) (fx' := [(14, 34, a0_, .int x_255), (14, 35, a0_, .int w_), (12, 53, q0_, .ref a_112), (12, 52, q0_, .ref a_27), (12, 56, q0_, .ref a_14), (12, 55, q0_, .ref a_12), (12, 47, q0_, .ref a_9), (14, 1, a0_, .ref q0_)]) rfl (fun xr_290 fr_290 H locs mxr_290 kxr_290 hp hMr_290 g => ?_) (fun fr_290 H locs hp hMr_290 g => ?_)
                      · have hG_291 := isV.frame hMr_290 go_.2.2.2.1 mq0_ kq0_ (by decide) (by decide) hG_258
                        have hG_292 := RA.frame hMr_290 go_.2.2.2.1 ma0_ ka0_ (by decide) (by decide) hG_259
                        subst hQ
                        exact WX.leaves hempty hlocks (fun t ht hW => g_thrE g hK mxr_290 kxr_290 trivial ht hW) g.2.2.1.2.2
                      · exact hp.elim
              · have fc_215 := nle_f c_215
                have b_293 : bd 3 3 x_28 := ltR fc_215 kb_2 b_203 (by decide)
                refine lv_aload_n hx hb dX14_callOf_164 rfl (lv_at hl 5 rfl) ?_
                refine lv_aload_n hx hb dX14_callOf_165 rfl (lv_at hl 5 rfl) ?_
                refine g_getk (C := RX14) (T := TX14) (N := 67) hx hb hts (mc_ inX14) hown hK g rfl 1 (by decide) rfl (hts _ (List.mem_cons_of_mem _ t_2147)) (fun _ h9 => h9) 7 rfl dX14_callOf_166 ?_
                refine g_getk (C := RX12) (T := TX12) (N := 60) hx hb hts (mc_ inX12) hown hK g rfl 53 (by decide) rfl (hts _ (List.mem_cons_of_mem _ t_2010)) (fun _ h9 => h9) 2 rfl dX14_callOf_169 ?_
                refine lv_iconst (v := 3) hx hb dX14_callOf_172 (by decide) ?_
                refine lv_iload_n hx hb dX14_callOf_173 rfl (lv_at hl 6 rfl) ?_
                refine lv_imul hx hb dX14_callOf_174 ?_
                refine lv_topi (fun y_294 ey_294 => ?_)
                obtain rfl : y_113 = y_294 := ey_113.trans ey_294.symm
                refine lv_iconst (v := 2) hx hb dX14_callOf_175 (by decide) ?_
                refine lv_iadd hx hb dX14_callOf_176 ?_
                refine lv_topi (fun y_295 ey_295 => ?_)
                have ty_295 := add_bd ey_295 b_114 kb_2 (by decide)
                have b_296 : bd 2 7499 y_295 := add_rg ty_295 b_114 kb_2 (by decide)
                refine g_iald hx hb hK g ma_112 ka_112 (by decide) rfl (in_bd b_296 (by decide)) dX14_callOf_177 (fun x_297 bx_297 cx_297 => ?_)
                have vx_297 : x_297 = V_.i 53 y_295.toNatClampNeg := hG_214.at g 2 rfl rfl cx_297
                have go_ := g
                refine g_callEi (As := [.int x_297]) (rest := []) ⟨hx, hb, hml, hown, hts⟩ (ih.1 l dC dI L kd tys fr_208 H.size g.2.2.2.1 a0_ ma0_ ka0_ x_297 q0_ mq0_ kq0_ V_ δ_ hW w_ bw x_211 h_212 Z_ O_ hG_214 hG_210 d_ hcl (h_ - 1) (ev_a hW hE hC (k := 2) vx_28 (by have h9_0 := h_20; unfold bd at h9_0; have h9_1 := b_8; unfold bd at h9_1; have h9_2 := bs; unfold bd at h9_2; have h9_3 := bw; unfold bd at h9_3; have h9_4 := b_1; unfold bd at h9_4; have h9_5 := h_120; unfold bd at h9_5; have h9_6 := h_212; unfold bd at h9_6; have h9_7 := b_293; unfold bd at h9_7; have h9_8 := b_114; unfold bd at h9_8; have h9_9 := b_206; unfold bd at h9_9; have h9_10 := b_296; unfold bd at h9_10; have h8_0 := kb_0; unfold bd at h8_0; have h8_1 := kb_1; unfold bd at h8_1; have h8_2 := kb_2; unfold bd at h8_2; have h8_3 := kb_9; unfold bd at h8_3; have h7 := kb_2; unfold bd at h7; omega) (by decide) (by have h9_0 := h_20; unfold bd at h9_0; have h9_1 := b_8; unfold bd at h9_1; have h9_2 := bs; unfold bd at h9_2; have h9_3 := bw; unfold bd at h9_3; have h9_4 := b_1; unfold bd at h9_4; have h9_5 := h_120; unfold bd at h9_5; have h9_6 := h_212; unfold bd at h9_6; have h9_7 := b_293; unfold bd at h9_7; have h9_8 := b_114; unfold bd at h9_8; have h9_9 := b_206; unfold bd at h9_9; have h9_10 := b_296; unfold bd at h9_10; have h8_0 := kb_0; unfold bd at h8_0; have h8_1 := kb_1; unfold bd at h8_1; have h8_2 := kb_2; unfold bd at h8_2; have h8_3 := kb_9; unfold bd at h8_3; have h7 := kb_2; unfold bd at h7; omega) vx_297) (by have hN9 := hN; have bw9 := bw; unfold bd at bw9; have h1_ := EV.hi hW hE; omega) (g.fcts [7, 0, 1] rfl)) (cwV 1 hts (gV_ t_2634 t_2636 t_146 t_198 t_2637) rfl rfl rfl (by decide +kernel) ⟨(show N + 5 + 1 ≤ N + 1 + 5 by omega), (show 8 + (5 + 11) + (40 * N + 300) ≤ 40 * (N + 1) + 300 by omega)⟩) (pre3V g hK ma0_ ka0_ (by decide) (q := (RX14, TX14, 67)) rfl) rfl hl.1 rfl (lv_room (Nat.le_of_ble_eq_true rfl)) dX14_callOf_178 ⟨(Nat.le_of_ble_eq_true rfl), (Nat.le_of_ble_eq_true rfl)⟩ g hK (by decide) (by decide) (fx' := [(12, 53, q0_, .ref a_112), (12, 52, q0_, .ref a_27), (12, 56, q0_, .ref a_14), (12, 55, q0_, .ref a_12), (12, 47, q0_, .ref a_9), (14, 1, a0_, .ref q0_)]) rfl (fun xr_298 fr_298 H locs mxr_298 kxr_298 hp hMr_298 g => ?_) (fun r_298 fr_298 H locs hp hMr_298 g => ?_)
                · have hG_299 := isV.frame hMr_298 go_.2.2.2.1 mq0_ kq0_ (by decide) (by decide) hG_214
                  subst hQ
                  exact WX.leaves hempty hlocks (fun t ht hW => g_thrE g hK mxr_298 kxr_298 trivial ht hW) g.2.2.1.2.2
                · obtain ⟨hG_300, x_301, ⟨h_302, rh_302⟩, hF_303⟩ := hp
                  have hG_304 := isV.frame hMr_298 go_.2.2.2.1 mq0_ kq0_ (by decide) (by decide) hG_214
                  have g := g.more hF_303
                  refine lv_goto (tgt := 185) hx hb dX14_callOf_181 (by decide) ?_
                  refine lv_istore (lv' := [(8, .int r_298), (7, .int r_208), (6, .int r_116), (5, .int x_28), (4, .int r_16), (3, .int r_2), (0, .ref a0_), (1, .int x1_), (2, .int x2_)]) hx hb dX14_callOf_185 hl (by decide) rfl (fun ls hl => ?_)
                  refine lv_iload_n hx hb dX14_callOf_187 rfl (lv_at hl 8 rfl) ?_
                  refine lv_if_eq (tgt := 195) hx hb dX14_callOf_188 (by decide) (fun c_305 => ?_) (fun c_305 => ?_)
                  · have fc_305 := eq_f c_305
                    have b_306 : bd 0 0 x2_ := eqX fc_305 (bdT x2_) kb_0 (by decide)
                    refine lv_aload_n hx hb dX14_callOf_195 rfl (lv_at hl 6 rfl) ?_
                    refine g_getk (C := RX14) (T := TX14) (N := 67) hx hb hts (mc_ inX14) hown hK g rfl 35 (by decide) rfl (hts _ (List.mem_cons_of_mem _ t_2181)) (fun _ h9 => h9) 0 rfl dX14_callOf_196 ?_
                    refine lv_bipush (v := 20) hx hb dX14_callOf_199 (by decide) ?_
                    have kb_20 : bd 20 20 (20 : Int32) := ⟨by decide, by decide⟩
                    refine lv_icmp_ne (tgt := 209) hx hb dX14_callOf_201 (by decide) (fun c_307 => ?_) (fun c_307 => ?_)
                    · have fc_307 := neq_f c_307
                      have b_308 : bd 0 19 w_ := neX fc_307 bw kb_20 (by decide)
                      refine lv_iconst (v := 3) hx hb dX14_callOf_209 (by decide) ?_
                      refine lv_aload_n hx hb dX14_callOf_210 rfl (lv_at hl 6 rfl) ?_
                      refine g_getk (C := RX14) (T := TX14) (N := 67) hx hb hts (mc_ inX14) hown hK g rfl 35 (by decide) rfl (hts _ (List.mem_cons_of_mem _ t_2181)) (fun _ h9 => h9) 0 rfl dX14_callOf_211 ?_
                      refine lv_iconst (v := 1) hx hb dX14_callOf_214 (by decide) ?_
                      refine lv_iadd hx hb dX14_callOf_215 ?_
                      refine lv_topi (fun y_309 ey_309 => ?_)
                      have ty_309 := add_bd ey_309 b_308 kb_1 (by decide)
                      have b_310 : bd 1 20 y_309 := add_rg ty_309 b_308 kb_1 (by decide)
                      refine lv_imul hx hb dX14_callOf_216 ?_
                      refine lv_topi (fun y_311 ey_311 => ?_)
                      have ty_311 := cmul_bd ey_311 (c := 3) (by decide) b_310 (by decide)
                      have b_312 : bd 3 60 y_311 := mulc_rg ty_311 b_310 (by decide)
                      refine lv_istore (lv' := [(9, .int y_311), (8, .int r_298), (7, .int r_208), (6, .int r_116), (5, .int x_28), (4, .int r_16), (3, .int r_2), (0, .ref a0_), (1, .int x1_), (2, .int x2_)]) hx hb dX14_callOf_217 hl (by decide) rfl (fun ls hl => ?_)
                      refine lv_aload_n hx hb dX14_callOf_219 rfl (lv_at hl 7 rfl) ?_
                      refine g_getr (K := 218) (C := RX14) (T := TX14) (N := 67) hx hb hts (mc_ inX14) hown hK g ma0_ ka0_ (by decide) rfl 41 (by decide) rfl (hts _ (List.mem_cons_of_mem _ t_2187)) (fun _ h9 => h9) rfl dX14_callOf_220 (fun a_313 ma_313 ka_313 g => ?_)
                      refine lv_iload hx hb dX14_callOf_223 (lv_at hl 0 rfl) ?_
                      refine lv_iload hx hb dX14_callOf_225 (lv_at hl 3 rfl) ?_
                      have go_ := g
                      refine g_iast hx hb hK g ma_313 ka_313 (by decide) rfl (in_bd b_312 (by decide)) (bdT r_116) (by decide) dX14_callOf_227 (fun f H locs hM_314 g => ?_)
                      have hG_315 := isV.frame hM_314 go_.2.2.2.1 mq0_ kq0_ (by decide) (by decide) hG_304
                      have hG_316 := RA.frame hM_314 go_.2.2.2.1 ma0_ ka0_ (by decide) (by decide) hG_300
                      refine lv_aload_n hx hb dX14_callOf_228 rfl (lv_at hl 7 rfl) ?_
                      refine g_getk (C := RX14) (T := TX14) (N := 67) hx hb hts (mc_ inX14) hown hK g rfl 41 (by decide) rfl (hts _ (List.mem_cons_of_mem _ t_2187)) (fun _ h9 => h9) 0 rfl dX14_callOf_229 ?_
                      refine lv_iload hx hb dX14_callOf_232 (lv_at hl 0 rfl) ?_
                      refine lv_iconst (v := 1) hx hb dX14_callOf_234 (by decide) ?_
                      refine lv_iadd hx hb dX14_callOf_235 ?_
                      refine lv_topi (fun y_317 ey_317 => ?_)
                      have ty_317 := add_bd ey_317 b_312 kb_1 (by decide)
                      have b_318 : bd 4 61 y_317 := add_rg ty_317 b_312 kb_1 (by decide)
                      refine lv_iload hx hb dX14_callOf_236 (lv_at hl 2 rfl) ?_
                      have go_ := g
                      refine g_iast hx hb hK g ma_313 ka_313 (by decide) rfl (in_bd b_318 (by decide)) (bdT r_208) (by decide) dX14_callOf_238 (fun f H locs hM_319 g => ?_)
                      have hG_320 := isV.frame hM_319 go_.2.2.2.1 mq0_ kq0_ (by decide) (by decide) hG_315
                      have hG_321 := RA.frame hM_319 go_.2.2.2.1 ma0_ ka0_ (by decide) (by decide) hG_316
                      refine lv_aload_n hx hb dX14_callOf_239 rfl (lv_at hl 7 rfl) ?_
                      refine g_getk (C := RX14) (T := TX14) (N := 67) hx hb hts (mc_ inX14) hown hK g rfl 41 (by decide) rfl (hts _ (List.mem_cons_of_mem _ t_2187)) (fun _ h9 => h9) 0 rfl dX14_callOf_240 ?_
                      refine lv_iload hx hb dX14_callOf_243 (lv_at hl 0 rfl) ?_
                      refine lv_iconst (v := 2) hx hb dX14_callOf_245 (by decide) ?_
                      refine lv_iadd hx hb dX14_callOf_246 ?_
                      refine lv_topi (fun y_322 ey_322 => ?_)
                      have ty_322 := add_bd ey_322 b_312 kb_2 (by decide)
                      have b_323 : bd 5 62 y_322 := add_rg ty_322 b_312 kb_2 (by decide)
                      refine lv_iload hx hb dX14_callOf_247 (lv_at hl 1 rfl) ?_
                      have go_ := g
                      refine g_iast hx hb hK g ma_313 ka_313 (by decide) rfl (in_bd b_323 (by decide)) (bdT r_298) (by decide) dX14_callOf_249 (fun f H locs hM_324 g => ?_)
                      have hG_325 := isV.frame hM_324 go_.2.2.2.1 mq0_ kq0_ (by decide) (by decide) hG_320
                      have hG_326 := RA.frame hM_324 go_.2.2.2.1 ma0_ ka0_ (by decide) (by decide) hG_321
                      refine lv_aload_n hx hb dX14_callOf_250 rfl (lv_at hl 7 rfl) ?_
                      refine lv_iload hx hb dX14_callOf_251 (lv_at hl 5 rfl) ?_
                      refine lv_aload_n hx hb dX14_callOf_253 rfl (lv_at hl 7 rfl) ?_
                      refine g_getr (K := 220) (C := RX14) (T := TX14) (N := 67) hx hb hts (mc_ inX14) hown hK g ma0_ ka0_ (by decide) rfl 43 (by decide) rfl (hts _ (List.mem_cons_of_mem _ t_2189)) (fun _ h9 => h9) rfl dX14_callOf_254 (fun a_327 ma_327 ka_327 g => ?_)
                      refine lv_aload_n hx hb dX14_callOf_257 rfl (lv_at hl 7 rfl) ?_
                      refine g_getk (C := RX14) (T := TX14) (N := 67) hx hb hts (mc_ inX14) hown hK g rfl 35 (by decide) rfl (hts _ (List.mem_cons_of_mem _ t_2181)) (fun _ h9 => h9) 2 rfl dX14_callOf_258 ?_
                      refine g_iald hx hb hK g ma_327 ka_327 (by decide) rfl (in_bd b_308 (by decide)) dX14_callOf_261 (fun x_328 bx_328 cx_328 => ?_)
                      have vx_328 := hG_326.self g 0 rfl cx_328
                      have go_ := g
                      refine g_callEi (As := [.int r_16, .int x_328]) (rest := []) ⟨hx, hb, hml, hown, hts⟩ (ih.2.2.2.1 l dC dI L kd tys f H.size g.2.2.2.1 a0_ ma0_ ka0_ r_16 x_328 q0_ mq0_ kq0_ V_ δ_ hW w_ (bd_sub b_308 (by decide)) x_301 h_302 Z_ O_ hG_325 hG_326 h_20 bx_328 hm_25.1 (by rw [vx_328]; exact hz_26) (by have hN9 := hN; have bw9 := bw; unfold bd at bw9; have h1_ := EV.hi hW hE; omega) (g.fcts [9, 2, 3] rfl)) (cwV 2 hts (gV_ t_2663 t_2665 t_153 t_198 t_2666) rfl rfl rfl (by decide +kernel) ⟨(show N + 5 + 1 ≤ N + 1 + 5 by omega), (show 8 + (4 + 11) + (40 * N + 300) ≤ 40 * (N + 1) + 300 by omega)⟩) (pre3V g hK ma0_ ka0_ (by decide) (q := (RX14, TX14, 67)) rfl) rfl hl.1 rfl (lv_room (Nat.le_of_ble_eq_true rfl)) dX14_callOf_262 ⟨(Nat.le_of_ble_eq_true rfl), (Nat.le_of_ble_eq_true rfl)⟩ g hK (by decide) (by decide) (fx' := [(14, 43, a0_, .ref a_327), (14, 41, a0_, .ref a_313), (12, 53, q0_, .ref a_112), (12, 52, q0_, .ref a_27), (12, 56, q0_, .ref a_14), (12, 55, q0_, .ref a_12), (12, 47, q0_, .ref a_9), (14, 1, a0_, .ref q0_)]) rfl (fun xr_329 fr_329 H locs mxr_329 kxr_329 hp hMr_329 g => ?_) (fun r_329 fr_329 H locs hp hMr_329 g => ?_)
                      · have hG_330 := isV.frame hMr_329 go_.2.2.2.1 mq0_ kq0_ (by decide) (by decide) hG_325
                        subst hQ
                        exact WX.leaves hempty hlocks (fun t ht hW => g_thrE g hK mxr_329 kxr_329 trivial ht hW) g.2.2.1.2.2
                      · obtain ⟨hG_331, x_332, ⟨h_333, rh_333⟩, hF_334⟩ := hp
                        have hG_335 := isV.frame hMr_329 go_.2.2.2.1 mq0_ kq0_ (by decide) (by decide) hG_325
                        have g := g.more hF_334
                        subst hQ
                        exact W.thenQ (W.iret (v := r_329) hx hb hr (fun t ht hW => g_retE g hK ⟨_, rfl, ⟨hG_331, x_332, ⟨h_333, (by have h9_0 := h_20; unfold bd at h9_0; have h9_1 := b_8; unfold bd at h9_1; have h9_2 := bs; unfold bd at h9_2; have h9_3 := b_308; unfold bd at h9_3; have h9_4 := b_1; unfold bd at h9_4; have h9_5 := b_306; unfold bd at h9_5; have h9_6 := h_120; unfold bd at h9_6; have h9_7 := h_212; unfold bd at h9_7; have h9_8 := b_293; unfold bd at h9_8; have h9_9 := h_302; unfold bd at h9_9; have h9_10 := bx_328; unfold bd at h9_10; have h9_11 := h_333; unfold bd at h9_11; have h9_12 := b_114; unfold bd at h9_12; have h9_13 := b_206; unfold bd at h9_13; have h9_14 := b_296; unfold bd at h9_14; have h9_15 := b_310; unfold bd at h9_15; have h9_16 := b_312; unfold bd at h9_16; have h9_17 := b_318; unfold bd at h9_17; have h9_18 := b_323; unfold bd at h9_18; have h8_0 := kb_0; unfold bd at h8_0; have h8_1 := kb_1; unfold bd at h8_1; have h8_2 := kb_2; unfold bd at h8_2; have h8_3 := kb_20; unfold bd at h8_3; have h8_4 := kb_9; unfold bd at h8_4; omega)⟩, (g.fcts [0, 1] rfl)⟩⟩ ht hW) g.2.2.1.2.2 dX14_callOf_265) (fun _ => MQ.toE)
                    · have fc_307 := eq_f c_307
                      have b_336 : bd 20 20 w_ := eqX fc_307 bw kb_20 (by decide)
                      refine lv_aload_n hx hb dX14_callOf_204 rfl (lv_at hl 6 rfl) ?_
                      refine lv_iconst (v := 2) hx hb dX14_callOf_205 (by decide) ?_
                      have go_ := g
                      refine g_callEv (As := [.int 2]) (rest := []) ⟨hx, hb, hml, hown, hts⟩ (r_X14_ends l dC dI L kd tys fr_298 H.size g.2.2.2.1 a0_ ma0_ ka0_ 2) (cwV 1 hts (gV_ t_2651 t_2653 t_150 t_198 t_2654) rfl rfl rfl (by decide +kernel) ⟨(show 0 + 1 ≤ N + 1 + 5 by omega), (show 8 + (2 + 11) + 0 ≤ 40 * (N + 1) + 300 by omega)⟩) (pre3V g hK ma0_ ka0_ (by decide) (q := (RX14, TX14, 67)) rfl) rfl hl.1 rfl (lv_room (Nat.le_of_ble_eq_true rfl)) dX14_callOf_206 ⟨(Nat.le_of_ble_eq_true rfl), (Nat.le_of_ble_eq_true rfl)⟩ g hK (by decide) (by decide) (fx' := [(14, 35, a0_, .int w_), (14, 34, a0_, .int x_301), (12, 53, q0_, .ref a_112), (12, 52, q0_, .ref a_27), (12, 56, q0_, .ref a_14), (12, 55, q0_, .ref a_12), (12, 47, q0_, .ref a_9), (14, 1, a0_, .ref q0_)]) rfl (fun xr_337 fr_337 H locs mxr_337 kxr_337 hp hMr_337 g => ?_) (fun fr_337 H locs hp hMr_337 g => ?_)
                      · have hG_338 := isV.frame hMr_337 go_.2.2.2.1 mq0_ kq0_ (by decide) (by decide) hG_304
                        have hG_339 := RA.frame hMr_337 go_.2.2.2.1 ma0_ ka0_ (by decide) (by decide) hG_300
                        subst hQ
                        exact WX.leaves hempty hlocks (fun t ht hW => g_thrE g hK mxr_337 kxr_337 trivial ht hW) g.2.2.1.2.2
                      · exact hp.elim
                  · have fc_305 := neq_f c_305
                    refine lv_aload_n hx hb dX14_callOf_191 rfl (lv_at hl 6 rfl) ?_
                    have go_ := g
                    refine g_callEv (As := []) (rest := []) ⟨hx, hb, hml, hown, hts⟩ (r_X14_stepN l dC dI L kd tys fr_298 H.size g.2.2.2.1 a0_ ma0_ ka0_ x_301 h_302 (g.fcts [1] rfl)) (cwV 0 hts (gV_ t_2659 t_2661 t_152 t_198 t_2662) rfl rfl rfl (by decide +kernel) ⟨(show 1 + 1 ≤ N + 1 + 5 by omega), (show 8 + (1 + 11) + 21 ≤ 40 * (N + 1) + 300 by omega)⟩) (pre3V g hK ma0_ ka0_ (by decide) (q := (RX14, TX14, 67)) rfl) rfl hl.1 rfl (lv_room (Nat.le_of_ble_eq_true rfl)) dX14_callOf_192 ⟨(Nat.le_of_ble_eq_true rfl), (Nat.le_of_ble_eq_true rfl)⟩ g hK (by decide) (by decide) (fx' := [(14, 35, a0_, .int w_), (12, 53, q0_, .ref a_112), (12, 52, q0_, .ref a_27), (12, 56, q0_, .ref a_14), (12, 55, q0_, .ref a_12), (12, 47, q0_, .ref a_9), (14, 1, a0_, .ref q0_)]) rfl (fun xr_340 fr_340 H locs mxr_340 kxr_340 hp hMr_340 g => ?_) (fun fr_340 H locs hp hMr_340 g => ?_)
                    · have hG_341 := isV.frame hMr_340 go_.2.2.2.1 mq0_ kq0_ (by decide) (by decide) hG_304
                      have hG_342 := RA.frame hMr_340 go_.2.2.2.1 ma0_ ka0_ (by decide) (by decide) hG_300
                      subst hQ
                      exact WX.leaves hempty hlocks (fun t ht hW => g_thrE g hK mxr_340 kxr_340 trivial ht hW) g.2.2.1.2.2
                    · obtain ⟨x_343, ⟨h_344, rh_344⟩, hF_345⟩ := hp
                      have hG_346 := isV.frame hMr_340 go_.2.2.2.1 mq0_ kq0_ (by decide) (by decide) hG_304
                      have hG_347 := RA.frame hMr_340 go_.2.2.2.1 ma0_ ka0_ (by decide) (by decide) hG_300
                      have g := g.more hF_345
                      refine lv_aload_n hx hb dX14_callOf_195 rfl (lv_at hl 6 rfl) ?_
                      refine g_getk (C := RX14) (T := TX14) (N := 67) hx hb hts (mc_ inX14) hown hK g rfl 35 (by decide) rfl (hts _ (List.mem_cons_of_mem _ t_2181)) (fun _ h9 => h9) 1 rfl dX14_callOf_196 ?_
                      refine lv_bipush (v := 20) hx hb dX14_callOf_199 (by decide) ?_
                      have kb_20 : bd 20 20 (20 : Int32) := ⟨by decide, by decide⟩
                      refine lv_icmp_ne (tgt := 209) hx hb dX14_callOf_201 (by decide) (fun c_348 => ?_) (fun c_348 => ?_)
                      · have fc_348 := neq_f c_348
                        have b_349 : bd 0 19 w_ := neX fc_348 bw kb_20 (by decide)
                        refine lv_iconst (v := 3) hx hb dX14_callOf_209 (by decide) ?_
                        refine lv_aload_n hx hb dX14_callOf_210 rfl (lv_at hl 6 rfl) ?_
                        refine g_getk (C := RX14) (T := TX14) (N := 67) hx hb hts (mc_ inX14) hown hK g rfl 35 (by decide) rfl (hts _ (List.mem_cons_of_mem _ t_2181)) (fun _ h9 => h9) 1 rfl dX14_callOf_211 ?_
                        refine lv_iconst (v := 1) hx hb dX14_callOf_214 (by decide) ?_
                        refine lv_iadd hx hb dX14_callOf_215 ?_
                        refine lv_topi (fun y_350 ey_350 => ?_)
                        have ty_350 := add_bd ey_350 b_349 kb_1 (by decide)
                        have b_351 : bd 1 20 y_350 := add_rg ty_350 b_349 kb_1 (by decide)
                        refine lv_imul hx hb dX14_callOf_216 ?_
                        refine lv_topi (fun y_352 ey_352 => ?_)
                        have ty_352 := cmul_bd ey_352 (c := 3) (by decide) b_351 (by decide)
                        have b_353 : bd 3 60 y_352 := mulc_rg ty_352 b_351 (by decide)
                        refine lv_istore (lv' := [(9, .int y_352), (8, .int r_298), (7, .int r_208), (6, .int r_116), (5, .int x_28), (4, .int r_16), (3, .int r_2), (0, .ref a0_), (1, .int x1_), (2, .int x2_)]) hx hb dX14_callOf_217 hl (by decide) rfl (fun ls hl => ?_)
                        refine lv_aload_n hx hb dX14_callOf_219 rfl (lv_at hl 7 rfl) ?_
                        refine g_getr (K := 218) (C := RX14) (T := TX14) (N := 67) hx hb hts (mc_ inX14) hown hK g ma0_ ka0_ (by decide) rfl 41 (by decide) rfl (hts _ (List.mem_cons_of_mem _ t_2187)) (fun _ h9 => h9) rfl dX14_callOf_220 (fun a_354 ma_354 ka_354 g => ?_)
                        refine lv_iload hx hb dX14_callOf_223 (lv_at hl 0 rfl) ?_
                        refine lv_iload hx hb dX14_callOf_225 (lv_at hl 3 rfl) ?_
                        have go_ := g
                        refine g_iast hx hb hK g ma_354 ka_354 (by decide) rfl (in_bd b_353 (by decide)) (bdT r_116) (by decide) dX14_callOf_227 (fun f H locs hM_355 g => ?_)
                        have hG_356 := isV.frame hM_355 go_.2.2.2.1 mq0_ kq0_ (by decide) (by decide) hG_346
                        have hG_357 := RA.frame hM_355 go_.2.2.2.1 ma0_ ka0_ (by decide) (by decide) hG_347
                        refine lv_aload_n hx hb dX14_callOf_228 rfl (lv_at hl 7 rfl) ?_
                        refine g_getk (C := RX14) (T := TX14) (N := 67) hx hb hts (mc_ inX14) hown hK g rfl 41 (by decide) rfl (hts _ (List.mem_cons_of_mem _ t_2187)) (fun _ h9 => h9) 0 rfl dX14_callOf_229 ?_
                        refine lv_iload hx hb dX14_callOf_232 (lv_at hl 0 rfl) ?_
                        refine lv_iconst (v := 1) hx hb dX14_callOf_234 (by decide) ?_
                        refine lv_iadd hx hb dX14_callOf_235 ?_
                        refine lv_topi (fun y_358 ey_358 => ?_)
                        have ty_358 := add_bd ey_358 b_353 kb_1 (by decide)
                        have b_359 : bd 4 61 y_358 := add_rg ty_358 b_353 kb_1 (by decide)
                        refine lv_iload hx hb dX14_callOf_236 (lv_at hl 2 rfl) ?_
                        have go_ := g
                        refine g_iast hx hb hK g ma_354 ka_354 (by decide) rfl (in_bd b_359 (by decide)) (bdT r_208) (by decide) dX14_callOf_238 (fun f H locs hM_360 g => ?_)
                        have hG_361 := isV.frame hM_360 go_.2.2.2.1 mq0_ kq0_ (by decide) (by decide) hG_356
                        have hG_362 := RA.frame hM_360 go_.2.2.2.1 ma0_ ka0_ (by decide) (by decide) hG_357
                        refine lv_aload_n hx hb dX14_callOf_239 rfl (lv_at hl 7 rfl) ?_
                        refine g_getk (C := RX14) (T := TX14) (N := 67) hx hb hts (mc_ inX14) hown hK g rfl 41 (by decide) rfl (hts _ (List.mem_cons_of_mem _ t_2187)) (fun _ h9 => h9) 0 rfl dX14_callOf_240 ?_
                        refine lv_iload hx hb dX14_callOf_243 (lv_at hl 0 rfl) ?_
                        refine lv_iconst (v := 2) hx hb dX14_callOf_245 (by decide) ?_
                        refine lv_iadd hx hb dX14_callOf_246 ?_
                        refine lv_topi (fun y_363 ey_363 => ?_)
                        have ty_363 := add_bd ey_363 b_353 kb_2 (by decide)
                        have b_364 : bd 5 62 y_363 := add_rg ty_363 b_353 kb_2 (by decide)
                        refine lv_iload hx hb dX14_callOf_247 (lv_at hl 1 rfl) ?_
                        have go_ := g
                        refine g_iast hx hb hK g ma_354 ka_354 (by decide) rfl (in_bd b_364 (by decide)) (bdT r_298) (by decide) dX14_callOf_249 (fun f H locs hM_365 g => ?_)
                        have hG_366 := isV.frame hM_365 go_.2.2.2.1 mq0_ kq0_ (by decide) (by decide) hG_361
                        have hG_367 := RA.frame hM_365 go_.2.2.2.1 ma0_ ka0_ (by decide) (by decide) hG_362
                        refine lv_aload_n hx hb dX14_callOf_250 rfl (lv_at hl 7 rfl) ?_
                        refine lv_iload hx hb dX14_callOf_251 (lv_at hl 5 rfl) ?_
                        refine lv_aload_n hx hb dX14_callOf_253 rfl (lv_at hl 7 rfl) ?_
                        refine g_getr (K := 220) (C := RX14) (T := TX14) (N := 67) hx hb hts (mc_ inX14) hown hK g ma0_ ka0_ (by decide) rfl 43 (by decide) rfl (hts _ (List.mem_cons_of_mem _ t_2189)) (fun _ h9 => h9) rfl dX14_callOf_254 (fun a_368 ma_368 ka_368 g => ?_)
                        refine lv_aload_n hx hb dX14_callOf_257 rfl (lv_at hl 7 rfl) ?_
                        refine g_getk (C := RX14) (T := TX14) (N := 67) hx hb hts (mc_ inX14) hown hK g rfl 35 (by decide) rfl (hts _ (List.mem_cons_of_mem _ t_2181)) (fun _ h9 => h9) 3 rfl dX14_callOf_258 ?_
                        refine g_iald hx hb hK g ma_368 ka_368 (by decide) rfl (in_bd b_349 (by decide)) dX14_callOf_261 (fun x_369 bx_369 cx_369 => ?_)
                        have vx_369 := hG_367.self g 0 rfl cx_369
                        have go_ := g
                        refine g_callEi (As := [.int r_16, .int x_369]) (rest := []) ⟨hx, hb, hml, hown, hts⟩ (ih.2.2.2.1 l dC dI L kd tys f H.size g.2.2.2.1 a0_ ma0_ ka0_ r_16 x_369 q0_ mq0_ kq0_ V_ δ_ hW w_ (bd_sub b_349 (by decide)) x_343 (bd_sub h_344 (by decide)) Z_ O_ hG_366 hG_367 h_20 bx_369 hm_25.1 (by rw [vx_369]; exact hz_26) (by have hN9 := hN; have bw9 := bw; unfold bd at bw9; have h1_ := EV.hi hW hE; omega) (g.fcts [9, 3, 2] rfl)) (cwV 2 hts (gV_ t_2663 t_2665 t_153 t_198 t_2666) rfl rfl rfl (by decide +kernel) ⟨(show N + 5 + 1 ≤ N + 1 + 5 by omega), (show 8 + (4 + 11) + (40 * N + 300) ≤ 40 * (N + 1) + 300 by omega)⟩) (pre3V g hK ma0_ ka0_ (by decide) (q := (RX14, TX14, 67)) rfl) rfl hl.1 rfl (lv_room (Nat.le_of_ble_eq_true rfl)) dX14_callOf_262 ⟨(Nat.le_of_ble_eq_true rfl), (Nat.le_of_ble_eq_true rfl)⟩ g hK (by decide) (by decide) (fx' := [(14, 43, a0_, .ref a_368), (14, 41, a0_, .ref a_354), (12, 53, q0_, .ref a_112), (12, 52, q0_, .ref a_27), (12, 56, q0_, .ref a_14), (12, 55, q0_, .ref a_12), (12, 47, q0_, .ref a_9), (14, 1, a0_, .ref q0_)]) rfl (fun xr_370 fr_370 H locs mxr_370 kxr_370 hp hMr_370 g => ?_) (fun r_370 fr_370 H locs hp hMr_370 g => ?_)
                        · have hG_371 := isV.frame hMr_370 go_.2.2.2.1 mq0_ kq0_ (by decide) (by decide) hG_366
                          subst hQ
                          exact WX.leaves hempty hlocks (fun t ht hW => g_thrE g hK mxr_370 kxr_370 trivial ht hW) g.2.2.1.2.2
                        · obtain ⟨hG_372, x_373, ⟨h_374, rh_374⟩, hF_375⟩ := hp
                          have hG_376 := isV.frame hMr_370 go_.2.2.2.1 mq0_ kq0_ (by decide) (by decide) hG_366
                          have g := g.more hF_375
                          subst hQ
                          exact W.thenQ (W.iret (v := r_370) hx hb hr (fun t ht hW => g_retE g hK ⟨_, rfl, ⟨hG_372, x_373, ⟨h_374, (by have h9_0 := h_20; unfold bd at h9_0; have h9_1 := b_8; unfold bd at h9_1; have h9_2 := bs; unfold bd at h9_2; have h9_3 := b_349; unfold bd at h9_3; have h9_4 := b_1; unfold bd at h9_4; have h9_5 := h_120; unfold bd at h9_5; have h9_6 := h_212; unfold bd at h9_6; have h9_7 := b_293; unfold bd at h9_7; have h9_8 := h_302; unfold bd at h9_8; have h9_9 := h_344; unfold bd at h9_9; have h9_10 := bx_369; unfold bd at h9_10; have h9_11 := h_374; unfold bd at h9_11; have h9_12 := b_114; unfold bd at h9_12; have h9_13 := b_206; unfold bd at h9_13; have h9_14 := b_296; unfold bd at h9_14; have h9_15 := b_351; unfold bd at h9_15; have h9_16 := b_353; unfold bd at h9_16; have h9_17 := b_359; unfold bd at h9_17; have h9_18 := b_364; unfold bd at h9_18; have h8_0 := kb_0; unfold bd at h8_0; have h8_1 := kb_1; unfold bd at h8_1; have h8_2 := kb_2; unfold bd at h8_2; have h8_3 := kb_20; unfold bd at h8_3; have h8_4 := kb_9; unfold bd at h8_4; omega)⟩, (g.fcts [0, 1] rfl)⟩⟩ ht hW) g.2.2.1.2.2 dX14_callOf_265) (fun _ => MQ.toE)
                      · have fc_348 := eq_f c_348
                        have b_377 : bd 20 20 w_ := eqX fc_348 bw kb_20 (by decide)
                        refine lv_aload_n hx hb dX14_callOf_204 rfl (lv_at hl 6 rfl) ?_
                        refine lv_iconst (v := 2) hx hb dX14_callOf_205 (by decide) ?_
                        have go_ := g
                        refine g_callEv (As := [.int 2]) (rest := []) ⟨hx, hb, hml, hown, hts⟩ (r_X14_ends l dC dI L kd tys fr_340 H.size g.2.2.2.1 a0_ ma0_ ka0_ 2) (cwV 1 hts (gV_ t_2651 t_2653 t_150 t_198 t_2654) rfl rfl rfl (by decide +kernel) ⟨(show 0 + 1 ≤ N + 1 + 5 by omega), (show 8 + (2 + 11) + 0 ≤ 40 * (N + 1) + 300 by omega)⟩) (pre3V g hK ma0_ ka0_ (by decide) (q := (RX14, TX14, 67)) rfl) rfl hl.1 rfl (lv_room (Nat.le_of_ble_eq_true rfl)) dX14_callOf_206 ⟨(Nat.le_of_ble_eq_true rfl), (Nat.le_of_ble_eq_true rfl)⟩ g hK (by decide) (by decide) (fx' := [(14, 34, a0_, .int x_343), (14, 35, a0_, .int w_), (12, 53, q0_, .ref a_112), (12, 52, q0_, .ref a_27), (12, 56, q0_, .ref a_14), (12, 55, q0_, .ref a_12), (12, 47, q0_, .ref a_9), (14, 1, a0_, .ref q0_)]) rfl (fun xr_378 fr_378 H locs mxr_378 kxr_378 hp hMr_378 g => ?_) (fun fr_378 H locs hp hMr_378 g => ?_)
                        · have hG_379 := isV.frame hMr_378 go_.2.2.2.1 mq0_ kq0_ (by decide) (by decide) hG_346
                          have hG_380 := RA.frame hMr_378 go_.2.2.2.1 ma0_ ka0_ (by decide) (by decide) hG_347
                          subst hQ
                          exact WX.leaves hempty hlocks (fun t ht hW => g_thrE g hK mxr_378 kxr_378 trivial ht hW) g.2.2.1.2.2
                        · exact hp.elim
  · have fc_11 := eq_f c_11
    have b_381 : bd 9 9 x_10 := eqX fc_11 (bdT x_10) kb_9 (by decide)
    refine lv_aload_n hx hb dX14_callOf_19 rfl (lv_at hl 1 rfl) ?_
    refine g_getk (C := RX14) (T := TX14) (N := 67) hx hb hts (mc_ inX14) hown hK g rfl 1 (by decide) rfl (hts _ (List.mem_cons_of_mem _ t_2147)) (fun _ h9 => h9) 1 rfl dX14_callOf_20 ?_
    refine lv_aload_n hx hb dX14_callOf_23 rfl (lv_at hl 1 rfl) ?_
    refine g_getk (C := RX14) (T := TX14) (N := 67) hx hb hts (mc_ inX14) hown hK g rfl 1 (by decide) rfl (hts _ (List.mem_cons_of_mem _ t_2147)) (fun _ h9 => h9) 1 rfl dX14_callOf_24 ?_
    refine g_getr (K := 159) (C := RX12) (T := TX12) (N := 60) hx hb hts (mc_ inX12) hown hK g mq0_ kq0_ (by decide) rfl 3 (by decide) rfl (hts _ (List.mem_cons_of_mem _ t_1912)) (fun _ h9 => h9) rfl dX14_callOf_27 (fun a_382 ma_382 ka_382 g => ?_)
    refine lv_aload_n hx hb dX14_callOf_30 rfl (lv_at hl 1 rfl) ?_
    refine g_getk (C := RX14) (T := TX14) (N := 67) hx hb hts (mc_ inX14) hown hK g rfl 1 (by decide) rfl (hts _ (List.mem_cons_of_mem _ t_2147)) (fun _ h9 => h9) 2 rfl dX14_callOf_31 ?_
    refine g_getr (K := 208) (C := RX12) (T := TX12) (N := 60) hx hb hts (mc_ inX12) hown hK g mq0_ kq0_ (by decide) rfl 54 (by decide) rfl (hts _ (List.mem_cons_of_mem _ t_2012)) (fun _ h9 => h9) rfl dX14_callOf_34 (fun a_383 ma_383 ka_383 g => ?_)
    refine lv_iload_n hx hb dX14_callOf_37 rfl (lv_at hl 2 rfl) ?_
    refine g_iald hx hb hK g ma_383 ka_383 (by decide) rfl (in_bd b_1 (by decide)) dX14_callOf_38 (fun x_384 bx_384 cx_384 => ?_)
    have vx_384 : x_384 = V_.i 54 x1_.toNatClampNeg := hG_5.at g 0 rfl rfl cx_384
    refine g_iald hx hb hK g ma_382 ka_382 (by decide) rfl (in_bd bx_384 (by decide)) dX14_callOf_39 (fun x_385 bx_385 cx_385 => ?_)
    have vx_385 : x_385 = V_.i 3 x_384.toNatClampNeg := hG_5.at g 1 rfl rfl cx_385
    have b_386 : bd 0 7 x_385 := ⟨(ev_u hW hE vx_10 (by have h9 := b_381; unfold bd at h9; omega) (vx_385.trans (by rw [vx_384, hE.2.2.2]) : x_385 = V_.i 3 d_)).1, bx_385.2⟩
    refine lv_aload_n hx hb dX14_callOf_40 rfl (lv_at hl 1 rfl) ?_
    refine g_getk (C := RX14) (T := TX14) (N := 67) hx hb hts (mc_ inX14) hown hK g rfl 1 (by decide) rfl (hts _ (List.mem_cons_of_mem _ t_2147)) (fun _ h9 => h9) 3 rfl dX14_callOf_41 ?_
    refine g_getr (K := 209) (C := RX12) (T := TX12) (N := 60) hx hb hts (mc_ inX12) hown hK g mq0_ kq0_ (by decide) rfl 55 (by decide) rfl (hts _ (List.mem_cons_of_mem _ t_2014)) (fun _ h9 => h9) rfl dX14_callOf_44 (fun a_387 ma_387 ka_387 g => ?_)
    refine lv_iload_n hx hb dX14_callOf_47 rfl (lv_at hl 2 rfl) ?_
    refine g_laldX hx hb hK g ma_387 ka_387 (by decide) rfl (in_bd b_1 (by decide)) dX14_callOf_48 (fun x_388 cx_388 => ?_)
    have vx_388 : x_388 = V_.l 55 x1_.toNatClampNeg := hG_5.atL g 0 rfl rfl cx_388
    refine lv_aload_n hx hb dX14_callOf_49 rfl (lv_at hl 1 rfl) ?_
    refine g_getk (C := RX14) (T := TX14) (N := 67) hx hb hts (mc_ inX14) hown hK g rfl 1 (by decide) rfl (hts _ (List.mem_cons_of_mem _ t_2147)) (fun _ h9 => h9) 4 rfl dX14_callOf_50 ?_
    refine g_getr (K := 210) (C := RX12) (T := TX12) (N := 60) hx hb hts (mc_ inX12) hown hK g mq0_ kq0_ (by decide) rfl 56 (by decide) rfl (hts _ (List.mem_cons_of_mem _ t_2016)) (fun _ h9 => h9) rfl dX14_callOf_53 (fun a_389 ma_389 ka_389 g => ?_)
    refine lv_iload_n hx hb dX14_callOf_56 rfl (lv_at hl 2 rfl) ?_
    refine g_laldX hx hb hK g ma_389 ka_389 (by decide) rfl (in_bd b_1 (by decide)) dX14_callOf_57 (fun x_390 cx_390 => ?_)
    have vx_390 : x_390 = V_.l 56 x1_.toNatClampNeg := hG_5.atL g 0 rfl rfl cx_390
    have go_ := g
    refine g_calli (va_runV (As := [.int x_385, .long x_388, .long x_390]) (rest := []) ⟨hx, hb, hml, hown, hts⟩ (r_X12_findN l dC dI L kd tys fr_2 H.size g.2.2.2.1 q0_ mq0_ kq0_ x_385 (bd_sub b_386 (by decide)) x_388 x_390 V_ hG_5) (cwV 3 hts (gV_ t_2500 t_2501 t_2502 t_203 t_2503) rfl rfl rfl (by decide +kernel) ⟨(show 0 + 1 ≤ N + 1 + 5 by omega), (show 8 + (7 + 11) + 0 ≤ 40 * (N + 1) + 300 by omega)⟩) (pre3V g hK mq0_ kq0_ (by decide) (q := (RX12, TX12, 60)) rfl) rfl rfl hl.1 rfl (lv_room (Nat.le_of_ble_eq_true rfl)) dX14_callOf_58 ⟨(Nat.le_of_ble_eq_true rfl), (Nat.le_of_ble_eq_true rfl)⟩) g hK (by decide) (by decide) (fx' := [(12, 56, q0_, .ref a_389), (12, 55, q0_, .ref a_387), (12, 54, q0_, .ref a_383), (12, 3, q0_, .ref a_382), (12, 47, q0_, .ref a_9), (14, 1, a0_, .ref q0_), (14, 35, a0_, .int w_), (14, 34, a0_, .int s_)]) rfl (fun r_391 fr_391 H locs hp hMr_391 g => ?_)
    rcases hp with ⟨hx_392, h_393, -⟩ | ⟨hx_394, h_395, -⟩
    · have hG_396 := isV.frame hMr_391 go_.2.2.2.1 mq0_ kq0_ (by decide) (by decide) hG_5
      have hG_397 := RA.frame hMr_391 go_.2.2.2.1 ma0_ ka0_ (by decide) (by decide) hG_6
      obtain rfl : r_391 = (-1) := h_393
      exact absurd (by rw [vx_388, vx_390]; exact (ev_u hW hE vx_10 (by have h9 := b_381; unfold bd at h9; omega) (vx_385.trans (by rw [vx_384, hE.2.2.2]) : x_385 = V_.i 3 d_)).2.1 : fnd V_ x_385.toNatClampNeg x_388 x_390) hx_392
    · have hG_398 := isV.frame hMr_391 go_.2.2.2.1 mq0_ kq0_ (by decide) (by decide) hG_5
      have hG_399 := RA.frame hMr_391 go_.2.2.2.1 ma0_ ka0_ (by decide) (by decide) hG_6
      have hu_402 := (ev_u hW hE vx_10 (by have h9 := b_381; unfold bd at h9; omega) (vx_385.trans (by rw [vx_384, hE.2.2.2]) : x_385 = V_.i 3 d_))
      have hm_400 := hx_394.mem hW ⟨hu_402.1, hu_402.2.2.2⟩
      have hz_401 : cAt V_ (O_ (Z_ w_.toNatClampNeg).toNatClampNeg) (V_.i 18 r_391.toNatClampNeg).toNatClampNeg := by rw [← hx_3]; exact ⟨hcA_7.1, hcA_7.2.1, (hcA_7.2.2.tr hu_402.2.2.1).tr hm_400.2⟩
      refine lv_goto (tgt := 90) hx hb dX14_callOf_61 (by decide) ?_
      refine lv_istore (lv' := [(4, .int r_391), (3, .int r_2), (0, .ref a0_), (1, .int x1_), (2, .int x2_)]) hx hb dX14_callOf_90 hl (by decide) rfl (fun ls hl => ?_)
      refine lv_aload_n hx hb dX14_callOf_92 rfl (lv_at hl 2 rfl) ?_
      refine g_getk (C := RX14) (T := TX14) (N := 67) hx hb hts (mc_ inX14) hown hK g rfl 1 (by decide) rfl (hts _ (List.mem_cons_of_mem _ t_2147)) (fun _ h9 => h9) 5 rfl dX14_callOf_93 ?_
      refine g_getr (K := 206) (C := RX12) (T := TX12) (N := 60) hx hb hts (mc_ inX12) hown hK g mq0_ kq0_ (by decide) rfl 52 (by decide) rfl (hts _ (List.mem_cons_of_mem _ t_2008)) (fun _ h9 => h9) rfl dX14_callOf_96 (fun a_403 ma_403 ka_403 g => ?_)
      refine lv_iload_n hx hb dX14_callOf_99 rfl (lv_at hl 3 rfl) ?_
      refine g_iald hx hb hK g ma_403 ka_403 (by decide) rfl (in_bd b_1 (by decide)) dX14_callOf_100 (fun x_404 bx_404 cx_404 => ?_)
      have vx_404 : x_404 = V_.i 52 x1_.toNatClampNeg := hG_398.at g 0 rfl rfl cx_404
      refine lv_istore (lv' := [(5, .int x_404), (4, .int r_391), (3, .int r_2), (0, .ref a0_), (1, .int x1_), (2, .int x2_)]) hx hb dX14_callOf_101 hl (by decide) rfl (fun ls hl => ?_)
      refine lv_iload hx hb dX14_callOf_103 (lv_at hl 0 rfl) ?_
      have kb_0 : bd 0 0 (0 : Int32) := ⟨by decide, by decide⟩
      refine lv_if_le (tgt := 126) hx hb dX14_callOf_105 (by decide) (fun c_405 => ?_) (fun c_405 => ?_)
      · have fc_405 := le_f c_405
        have b_406 : bd 0 0 x_404 := leL fc_405 bx_404 kb_0 (by decide)
        refine lv_iconst (v := 0) hx hb dX14_callOf_126 (by decide) ?_
        refine lv_istore (lv' := [(6, .int 0), (5, .int x_404), (4, .int r_391), (3, .int r_2), (0, .ref a0_), (1, .int x1_), (2, .int x2_)]) hx hb dX14_callOf_127 hl (by decide) rfl (fun ls hl => ?_)
        refine lv_iload hx hb dX14_callOf_129 (lv_at hl 1 rfl) ?_
        refine lv_iconst (v := 1) hx hb dX14_callOf_131 (by decide) ?_
        have kb_1 : bd 1 1 (1 : Int32) := ⟨by decide, by decide⟩
        refine lv_icmp_le (tgt := 155) hx hb dX14_callOf_132 (by decide) (fun c_407 => ?_) (fun c_407 => ?_)
        · have fc_407 := le_f c_407
          refine lv_iconst (v := 0) hx hb dX14_callOf_155 (by decide) ?_
          refine lv_istore (lv' := [(7, .int 0), (6, .int 0), (5, .int x_404), (4, .int r_391), (3, .int r_2), (0, .ref a0_), (1, .int x1_), (2, .int x2_)]) hx hb dX14_callOf_156 hl (by decide) rfl (fun ls hl => ?_)
          refine lv_iload hx hb dX14_callOf_158 (lv_at hl 2 rfl) ?_
          refine lv_iconst (v := 2) hx hb dX14_callOf_160 (by decide) ?_
          have kb_2 : bd 2 2 (2 : Int32) := ⟨by decide, by decide⟩
          refine lv_icmp_le (tgt := 184) hx hb dX14_callOf_161 (by decide) (fun c_408 => ?_) (fun c_408 => ?_)
          · have fc_408 := le_f c_408
            refine lv_iconst (v := 0) hx hb dX14_callOf_184 (by decide) ?_
            refine lv_istore (lv' := [(8, .int 0), (7, .int 0), (6, .int 0), (5, .int x_404), (4, .int r_391), (3, .int r_2), (0, .ref a0_), (1, .int x1_), (2, .int x2_)]) hx hb dX14_callOf_185 hl (by decide) rfl (fun ls hl => ?_)
            refine lv_iload_n hx hb dX14_callOf_187 rfl (lv_at hl 8 rfl) ?_
            refine lv_if_eq (tgt := 195) hx hb dX14_callOf_188 (by decide) (fun c_409 => ?_) (fun c_409 => ?_)
            · have fc_409 := eq_f c_409
              have b_410 : bd 0 0 x2_ := eqX fc_409 (bdT x2_) kb_0 (by decide)
              refine lv_aload_n hx hb dX14_callOf_195 rfl (lv_at hl 6 rfl) ?_
              refine g_getk (C := RX14) (T := TX14) (N := 67) hx hb hts (mc_ inX14) hown hK g rfl 35 (by decide) rfl (hts _ (List.mem_cons_of_mem _ t_2181)) (fun _ h9 => h9) 7 rfl dX14_callOf_196 ?_
              refine lv_bipush (v := 20) hx hb dX14_callOf_199 (by decide) ?_
              have kb_20 : bd 20 20 (20 : Int32) := ⟨by decide, by decide⟩
              refine lv_icmp_ne (tgt := 209) hx hb dX14_callOf_201 (by decide) (fun c_411 => ?_) (fun c_411 => ?_)
              · have fc_411 := neq_f c_411
                have b_412 : bd 0 19 w_ := neX fc_411 bw kb_20 (by decide)
                refine lv_iconst (v := 3) hx hb dX14_callOf_209 (by decide) ?_
                refine lv_aload_n hx hb dX14_callOf_210 rfl (lv_at hl 6 rfl) ?_
                refine g_getk (C := RX14) (T := TX14) (N := 67) hx hb hts (mc_ inX14) hown hK g rfl 35 (by decide) rfl (hts _ (List.mem_cons_of_mem _ t_2181)) (fun _ h9 => h9) 7 rfl dX14_callOf_211 ?_
                refine lv_iconst (v := 1) hx hb dX14_callOf_214 (by decide) ?_
                refine lv_iadd hx hb dX14_callOf_215 ?_
                refine lv_topi (fun y_413 ey_413 => ?_)
                have ty_413 := add_bd ey_413 b_412 kb_1 (by decide)
                have b_414 : bd 1 20 y_413 := add_rg ty_413 b_412 kb_1 (by decide)
                refine lv_imul hx hb dX14_callOf_216 ?_
                refine lv_topi (fun y_415 ey_415 => ?_)
                have ty_415 := cmul_bd ey_415 (c := 3) (by decide) b_414 (by decide)
                have b_416 : bd 3 60 y_415 := mulc_rg ty_415 b_414 (by decide)
                refine lv_istore (lv' := [(9, .int y_415), (8, .int 0), (7, .int 0), (6, .int 0), (5, .int x_404), (4, .int r_391), (3, .int r_2), (0, .ref a0_), (1, .int x1_), (2, .int x2_)]) hx hb dX14_callOf_217 hl (by decide) rfl (fun ls hl => ?_)
                refine lv_aload_n hx hb dX14_callOf_219 rfl (lv_at hl 7 rfl) ?_
                refine g_getr (K := 218) (C := RX14) (T := TX14) (N := 67) hx hb hts (mc_ inX14) hown hK g ma0_ ka0_ (by decide) rfl 41 (by decide) rfl (hts _ (List.mem_cons_of_mem _ t_2187)) (fun _ h9 => h9) rfl dX14_callOf_220 (fun a_417 ma_417 ka_417 g => ?_)
                refine lv_iload hx hb dX14_callOf_223 (lv_at hl 0 rfl) ?_
                refine lv_iload hx hb dX14_callOf_225 (lv_at hl 3 rfl) ?_
                have go_ := g
                refine g_iast hx hb hK g ma_417 ka_417 (by decide) rfl (in_bd b_416 (by decide)) (bd_sub kb_0 (by decide)) (by decide) dX14_callOf_227 (fun f H locs hM_418 g => ?_)
                have hG_419 := isV.frame hM_418 go_.2.2.2.1 mq0_ kq0_ (by decide) (by decide) hG_398
                have hG_420 := RA.frame hM_418 go_.2.2.2.1 ma0_ ka0_ (by decide) (by decide) hG_399
                refine lv_aload_n hx hb dX14_callOf_228 rfl (lv_at hl 7 rfl) ?_
                refine g_getk (C := RX14) (T := TX14) (N := 67) hx hb hts (mc_ inX14) hown hK g rfl 41 (by decide) rfl (hts _ (List.mem_cons_of_mem _ t_2187)) (fun _ h9 => h9) 0 rfl dX14_callOf_229 ?_
                refine lv_iload hx hb dX14_callOf_232 (lv_at hl 0 rfl) ?_
                refine lv_iconst (v := 1) hx hb dX14_callOf_234 (by decide) ?_
                refine lv_iadd hx hb dX14_callOf_235 ?_
                refine lv_topi (fun y_421 ey_421 => ?_)
                have ty_421 := add_bd ey_421 b_416 kb_1 (by decide)
                have b_422 : bd 4 61 y_421 := add_rg ty_421 b_416 kb_1 (by decide)
                refine lv_iload hx hb dX14_callOf_236 (lv_at hl 2 rfl) ?_
                have go_ := g
                refine g_iast hx hb hK g ma_417 ka_417 (by decide) rfl (in_bd b_422 (by decide)) (bd_sub kb_0 (by decide)) (by decide) dX14_callOf_238 (fun f H locs hM_423 g => ?_)
                have hG_424 := isV.frame hM_423 go_.2.2.2.1 mq0_ kq0_ (by decide) (by decide) hG_419
                have hG_425 := RA.frame hM_423 go_.2.2.2.1 ma0_ ka0_ (by decide) (by decide) hG_420
                refine lv_aload_n hx hb dX14_callOf_239 rfl (lv_at hl 7 rfl) ?_
                refine g_getk (C := RX14) (T := TX14) (N := 67) hx hb hts (mc_ inX14) hown hK g rfl 41 (by decide) rfl (hts _ (List.mem_cons_of_mem _ t_2187)) (fun _ h9 => h9) 0 rfl dX14_callOf_240 ?_
                refine lv_iload hx hb dX14_callOf_243 (lv_at hl 0 rfl) ?_
                refine lv_iconst (v := 2) hx hb dX14_callOf_245 (by decide) ?_
                refine lv_iadd hx hb dX14_callOf_246 ?_
                refine lv_topi (fun y_426 ey_426 => ?_)
                have ty_426 := add_bd ey_426 b_416 kb_2 (by decide)
                have b_427 : bd 5 62 y_426 := add_rg ty_426 b_416 kb_2 (by decide)
                refine lv_iload hx hb dX14_callOf_247 (lv_at hl 1 rfl) ?_
                have go_ := g
                refine g_iast hx hb hK g ma_417 ka_417 (by decide) rfl (in_bd b_427 (by decide)) (bd_sub kb_0 (by decide)) (by decide) dX14_callOf_249 (fun f H locs hM_428 g => ?_)
                have hG_429 := isV.frame hM_428 go_.2.2.2.1 mq0_ kq0_ (by decide) (by decide) hG_424
                have hG_430 := RA.frame hM_428 go_.2.2.2.1 ma0_ ka0_ (by decide) (by decide) hG_425
                refine lv_aload_n hx hb dX14_callOf_250 rfl (lv_at hl 7 rfl) ?_
                refine lv_iload hx hb dX14_callOf_251 (lv_at hl 5 rfl) ?_
                refine lv_aload_n hx hb dX14_callOf_253 rfl (lv_at hl 7 rfl) ?_
                refine g_getr (K := 220) (C := RX14) (T := TX14) (N := 67) hx hb hts (mc_ inX14) hown hK g ma0_ ka0_ (by decide) rfl 43 (by decide) rfl (hts _ (List.mem_cons_of_mem _ t_2189)) (fun _ h9 => h9) rfl dX14_callOf_254 (fun a_431 ma_431 ka_431 g => ?_)
                refine lv_aload_n hx hb dX14_callOf_257 rfl (lv_at hl 7 rfl) ?_
                refine g_getk (C := RX14) (T := TX14) (N := 67) hx hb hts (mc_ inX14) hown hK g rfl 35 (by decide) rfl (hts _ (List.mem_cons_of_mem _ t_2181)) (fun _ h9 => h9) 9 rfl dX14_callOf_258 ?_
                refine g_iald hx hb hK g ma_431 ka_431 (by decide) rfl (in_bd b_412 (by decide)) dX14_callOf_261 (fun x_432 bx_432 cx_432 => ?_)
                have vx_432 := hG_430.self g 0 rfl cx_432
                have go_ := g
                refine g_callEi (As := [.int r_391, .int x_432]) (rest := []) ⟨hx, hb, hml, hown, hts⟩ (ih.2.2.2.1 l dC dI L kd tys f H.size g.2.2.2.1 a0_ ma0_ ka0_ r_391 x_432 q0_ mq0_ kq0_ V_ δ_ hW w_ (bd_sub b_412 (by decide)) s_ bs Z_ O_ hG_429 hG_430 h_395 bx_432 hm_400.1 (by rw [vx_432]; exact hz_401) (by have hN9 := hN; have bw9 := bw; unfold bd at bw9; have h1_ := EV.hi hW hE; omega) (g.fcts [8, 9, 10] rfl)) (cwV 2 hts (gV_ t_2663 t_2665 t_153 t_198 t_2666) rfl rfl rfl (by decide +kernel) ⟨(show N + 5 + 1 ≤ N + 1 + 5 by omega), (show 8 + (4 + 11) + (40 * N + 300) ≤ 40 * (N + 1) + 300 by omega)⟩) (pre3V g hK ma0_ ka0_ (by decide) (q := (RX14, TX14, 67)) rfl) rfl hl.1 rfl (lv_room (Nat.le_of_ble_eq_true rfl)) dX14_callOf_262 ⟨(Nat.le_of_ble_eq_true rfl), (Nat.le_of_ble_eq_true rfl)⟩ g hK (by decide) (by decide) (fx' := [(14, 43, a0_, .ref a_431), (14, 41, a0_, .ref a_417), (12, 52, q0_, .ref a_403), (12, 56, q0_, .ref a_389), (12, 55, q0_, .ref a_387), (12, 54, q0_, .ref a_383), (12, 3, q0_, .ref a_382), (12, 47, q0_, .ref a_9), (14, 1, a0_, .ref q0_)]) rfl (fun xr_433 fr_433 H locs mxr_433 kxr_433 hp hMr_433 g => ?_) (fun r_433 fr_433 H locs hp hMr_433 g => ?_)
                · have hG_434 := isV.frame hMr_433 go_.2.2.2.1 mq0_ kq0_ (by decide) (by decide) hG_429
                  subst hQ
                  exact WX.leaves hempty hlocks (fun t ht hW => g_thrE g hK mxr_433 kxr_433 trivial ht hW) g.2.2.1.2.2
                · obtain ⟨hG_435, x_436, ⟨h_437, rh_437⟩, hF_438⟩ := hp
                  have hG_439 := isV.frame hMr_433 go_.2.2.2.1 mq0_ kq0_ (by decide) (by decide) hG_429
                  have g := g.more hF_438
                  subst hQ
                  exact W.thenQ (W.iret (v := r_433) hx hb hr (fun t ht hW => g_retE g hK ⟨_, rfl, ⟨hG_435, x_436, ⟨h_437, (by have h9_0 := b_8; unfold bd at h9_0; have h9_1 := h_395; unfold bd at h9_1; have h9_2 := bs; unfold bd at h9_2; have h9_3 := b_412; unfold bd at h9_3; have h9_4 := b_1; unfold bd at h9_4; have h9_5 := b_410; unfold bd at h9_5; have h9_6 := b_381; unfold bd at h9_6; have h9_7 := bx_384; unfold bd at h9_7; have h9_8 := b_386; unfold bd at h9_8; have h9_9 := b_406; unfold bd at h9_9; have h9_10 := bx_432; unfold bd at h9_10; have h9_11 := h_437; unfold bd at h9_11; have h9_12 := b_414; unfold bd at h9_12; have h9_13 := b_416; unfold bd at h9_13; have h9_14 := b_422; unfold bd at h9_14; have h9_15 := b_427; unfold bd at h9_15; have h8_0 := kb_0; unfold bd at h8_0; have h8_1 := kb_1; unfold bd at h8_1; have h8_2 := kb_2; unfold bd at h8_2; have h8_3 := kb_20; unfold bd at h8_3; have h8_4 := kb_9; unfold bd at h8_4; omega)⟩, (g.fcts [0, 1] rfl)⟩⟩ ht hW) g.2.2.1.2.2 dX14_callOf_265) (fun _ => MQ.toE)
              · have fc_411 := eq_f c_411
                have b_440 : bd 20 20 w_ := eqX fc_411 bw kb_20 (by decide)
                refine lv_aload_n hx hb dX14_callOf_204 rfl (lv_at hl 6 rfl) ?_
                refine lv_iconst (v := 2) hx hb dX14_callOf_205 (by decide) ?_
                have go_ := g
                refine g_callEv (As := [.int 2]) (rest := []) ⟨hx, hb, hml, hown, hts⟩ (r_X14_ends l dC dI L kd tys fr_391 H.size g.2.2.2.1 a0_ ma0_ ka0_ 2) (cwV 1 hts (gV_ t_2651 t_2653 t_150 t_198 t_2654) rfl rfl rfl (by decide +kernel) ⟨(show 0 + 1 ≤ N + 1 + 5 by omega), (show 8 + (2 + 11) + 0 ≤ 40 * (N + 1) + 300 by omega)⟩) (pre3V g hK ma0_ ka0_ (by decide) (q := (RX14, TX14, 67)) rfl) rfl hl.1 rfl (lv_room (Nat.le_of_ble_eq_true rfl)) dX14_callOf_206 ⟨(Nat.le_of_ble_eq_true rfl), (Nat.le_of_ble_eq_true rfl)⟩ g hK (by decide) (by decide) (fx' := [(12, 52, q0_, .ref a_403), (12, 56, q0_, .ref a_389), (12, 55, q0_, .ref a_387), (12, 54, q0_, .ref a_383), (12, 3, q0_, .ref a_382), (12, 47, q0_, .ref a_9), (14, 1, a0_, .ref q0_), (14, 35, a0_, .int w_), (14, 34, a0_, .int s_)]) rfl (fun xr_441 fr_441 H locs mxr_441 kxr_441 hp hMr_441 g => ?_) (fun fr_441 H locs hp hMr_441 g => ?_)
                · have hG_442 := isV.frame hMr_441 go_.2.2.2.1 mq0_ kq0_ (by decide) (by decide) hG_398
                  have hG_443 := RA.frame hMr_441 go_.2.2.2.1 ma0_ ka0_ (by decide) (by decide) hG_399
                  subst hQ
                  exact WX.leaves hempty hlocks (fun t ht hW => g_thrE g hK mxr_441 kxr_441 trivial ht hW) g.2.2.1.2.2
                · exact hp.elim
            · have fc_409 := neq_f c_409
              refine lv_aload_n hx hb dX14_callOf_191 rfl (lv_at hl 6 rfl) ?_
              have go_ := g
              refine g_callEv (As := []) (rest := []) ⟨hx, hb, hml, hown, hts⟩ (r_X14_stepN l dC dI L kd tys fr_391 H.size g.2.2.2.1 a0_ ma0_ ka0_ s_ bs (g.fcts [8] rfl)) (cwV 0 hts (gV_ t_2659 t_2661 t_152 t_198 t_2662) rfl rfl rfl (by decide +kernel) ⟨(show 1 + 1 ≤ N + 1 + 5 by omega), (show 8 + (1 + 11) + 21 ≤ 40 * (N + 1) + 300 by omega)⟩) (pre3V g hK ma0_ ka0_ (by decide) (q := (RX14, TX14, 67)) rfl) rfl hl.1 rfl (lv_room (Nat.le_of_ble_eq_true rfl)) dX14_callOf_192 ⟨(Nat.le_of_ble_eq_true rfl), (Nat.le_of_ble_eq_true rfl)⟩ g hK (by decide) (by decide) (fx' := [(12, 52, q0_, .ref a_403), (12, 56, q0_, .ref a_389), (12, 55, q0_, .ref a_387), (12, 54, q0_, .ref a_383), (12, 3, q0_, .ref a_382), (12, 47, q0_, .ref a_9), (14, 1, a0_, .ref q0_), (14, 35, a0_, .int w_)]) rfl (fun xr_444 fr_444 H locs mxr_444 kxr_444 hp hMr_444 g => ?_) (fun fr_444 H locs hp hMr_444 g => ?_)
              · have hG_445 := isV.frame hMr_444 go_.2.2.2.1 mq0_ kq0_ (by decide) (by decide) hG_398
                have hG_446 := RA.frame hMr_444 go_.2.2.2.1 ma0_ ka0_ (by decide) (by decide) hG_399
                subst hQ
                exact WX.leaves hempty hlocks (fun t ht hW => g_thrE g hK mxr_444 kxr_444 trivial ht hW) g.2.2.1.2.2
              · obtain ⟨x_447, ⟨h_448, rh_448⟩, hF_449⟩ := hp
                have hG_450 := isV.frame hMr_444 go_.2.2.2.1 mq0_ kq0_ (by decide) (by decide) hG_398
                have hG_451 := RA.frame hMr_444 go_.2.2.2.1 ma0_ ka0_ (by decide) (by decide) hG_399
                have g := g.more hF_449
                refine lv_aload_n hx hb dX14_callOf_195 rfl (lv_at hl 6 rfl) ?_
                refine g_getk (C := RX14) (T := TX14) (N := 67) hx hb hts (mc_ inX14) hown hK g rfl 35 (by decide) rfl (hts _ (List.mem_cons_of_mem _ t_2181)) (fun _ h9 => h9) 8 rfl dX14_callOf_196 ?_
                refine lv_bipush (v := 20) hx hb dX14_callOf_199 (by decide) ?_
                have kb_20 : bd 20 20 (20 : Int32) := ⟨by decide, by decide⟩
                refine lv_icmp_ne (tgt := 209) hx hb dX14_callOf_201 (by decide) (fun c_452 => ?_) (fun c_452 => ?_)
                · have fc_452 := neq_f c_452
                  have b_453 : bd 0 19 w_ := neX fc_452 bw kb_20 (by decide)
                  refine lv_iconst (v := 3) hx hb dX14_callOf_209 (by decide) ?_
                  refine lv_aload_n hx hb dX14_callOf_210 rfl (lv_at hl 6 rfl) ?_
                  refine g_getk (C := RX14) (T := TX14) (N := 67) hx hb hts (mc_ inX14) hown hK g rfl 35 (by decide) rfl (hts _ (List.mem_cons_of_mem _ t_2181)) (fun _ h9 => h9) 8 rfl dX14_callOf_211 ?_
                  refine lv_iconst (v := 1) hx hb dX14_callOf_214 (by decide) ?_
                  refine lv_iadd hx hb dX14_callOf_215 ?_
                  refine lv_topi (fun y_454 ey_454 => ?_)
                  have ty_454 := add_bd ey_454 b_453 kb_1 (by decide)
                  have b_455 : bd 1 20 y_454 := add_rg ty_454 b_453 kb_1 (by decide)
                  refine lv_imul hx hb dX14_callOf_216 ?_
                  refine lv_topi (fun y_456 ey_456 => ?_)
                  have ty_456 := cmul_bd ey_456 (c := 3) (by decide) b_455 (by decide)
                  have b_457 : bd 3 60 y_456 := mulc_rg ty_456 b_455 (by decide)
                  refine lv_istore (lv' := [(9, .int y_456), (8, .int 0), (7, .int 0), (6, .int 0), (5, .int x_404), (4, .int r_391), (3, .int r_2), (0, .ref a0_), (1, .int x1_), (2, .int x2_)]) hx hb dX14_callOf_217 hl (by decide) rfl (fun ls hl => ?_)
                  refine lv_aload_n hx hb dX14_callOf_219 rfl (lv_at hl 7 rfl) ?_
                  refine g_getr (K := 218) (C := RX14) (T := TX14) (N := 67) hx hb hts (mc_ inX14) hown hK g ma0_ ka0_ (by decide) rfl 41 (by decide) rfl (hts _ (List.mem_cons_of_mem _ t_2187)) (fun _ h9 => h9) rfl dX14_callOf_220 (fun a_458 ma_458 ka_458 g => ?_)
                  refine lv_iload hx hb dX14_callOf_223 (lv_at hl 0 rfl) ?_
                  refine lv_iload hx hb dX14_callOf_225 (lv_at hl 3 rfl) ?_
                  have go_ := g
                  refine g_iast hx hb hK g ma_458 ka_458 (by decide) rfl (in_bd b_457 (by decide)) (bd_sub kb_0 (by decide)) (by decide) dX14_callOf_227 (fun f H locs hM_459 g => ?_)
                  have hG_460 := isV.frame hM_459 go_.2.2.2.1 mq0_ kq0_ (by decide) (by decide) hG_450
                  have hG_461 := RA.frame hM_459 go_.2.2.2.1 ma0_ ka0_ (by decide) (by decide) hG_451
                  refine lv_aload_n hx hb dX14_callOf_228 rfl (lv_at hl 7 rfl) ?_
                  refine g_getk (C := RX14) (T := TX14) (N := 67) hx hb hts (mc_ inX14) hown hK g rfl 41 (by decide) rfl (hts _ (List.mem_cons_of_mem _ t_2187)) (fun _ h9 => h9) 0 rfl dX14_callOf_229 ?_
                  refine lv_iload hx hb dX14_callOf_232 (lv_at hl 0 rfl) ?_
                  refine lv_iconst (v := 1) hx hb dX14_callOf_234 (by decide) ?_
                  refine lv_iadd hx hb dX14_callOf_235 ?_
                  refine lv_topi (fun y_462 ey_462 => ?_)
                  have ty_462 := add_bd ey_462 b_457 kb_1 (by decide)
                  have b_463 : bd 4 61 y_462 := add_rg ty_462 b_457 kb_1 (by decide)
                  refine lv_iload hx hb dX14_callOf_236 (lv_at hl 2 rfl) ?_
                  have go_ := g
                  refine g_iast hx hb hK g ma_458 ka_458 (by decide) rfl (in_bd b_463 (by decide)) (bd_sub kb_0 (by decide)) (by decide) dX14_callOf_238 (fun f H locs hM_464 g => ?_)
                  have hG_465 := isV.frame hM_464 go_.2.2.2.1 mq0_ kq0_ (by decide) (by decide) hG_460
                  have hG_466 := RA.frame hM_464 go_.2.2.2.1 ma0_ ka0_ (by decide) (by decide) hG_461
                  refine lv_aload_n hx hb dX14_callOf_239 rfl (lv_at hl 7 rfl) ?_
                  refine g_getk (C := RX14) (T := TX14) (N := 67) hx hb hts (mc_ inX14) hown hK g rfl 41 (by decide) rfl (hts _ (List.mem_cons_of_mem _ t_2187)) (fun _ h9 => h9) 0 rfl dX14_callOf_240 ?_
                  refine lv_iload hx hb dX14_callOf_243 (lv_at hl 0 rfl) ?_
                  refine lv_iconst (v := 2) hx hb dX14_callOf_245 (by decide) ?_
                  refine lv_iadd hx hb dX14_callOf_246 ?_
                  refine lv_topi (fun y_467 ey_467 => ?_)
                  have ty_467 := add_bd ey_467 b_457 kb_2 (by decide)
                  have b_468 : bd 5 62 y_467 := add_rg ty_467 b_457 kb_2 (by decide)
                  refine lv_iload hx hb dX14_callOf_247 (lv_at hl 1 rfl) ?_
                  have go_ := g
                  refine g_iast hx hb hK g ma_458 ka_458 (by decide) rfl (in_bd b_468 (by decide)) (bd_sub kb_0 (by decide)) (by decide) dX14_callOf_249 (fun f H locs hM_469 g => ?_)
                  have hG_470 := isV.frame hM_469 go_.2.2.2.1 mq0_ kq0_ (by decide) (by decide) hG_465
                  have hG_471 := RA.frame hM_469 go_.2.2.2.1 ma0_ ka0_ (by decide) (by decide) hG_466
                  refine lv_aload_n hx hb dX14_callOf_250 rfl (lv_at hl 7 rfl) ?_
                  refine lv_iload hx hb dX14_callOf_251 (lv_at hl 5 rfl) ?_
                  refine lv_aload_n hx hb dX14_callOf_253 rfl (lv_at hl 7 rfl) ?_
                  refine g_getr (K := 220) (C := RX14) (T := TX14) (N := 67) hx hb hts (mc_ inX14) hown hK g ma0_ ka0_ (by decide) rfl 43 (by decide) rfl (hts _ (List.mem_cons_of_mem _ t_2189)) (fun _ h9 => h9) rfl dX14_callOf_254 (fun a_472 ma_472 ka_472 g => ?_)
                  refine lv_aload_n hx hb dX14_callOf_257 rfl (lv_at hl 7 rfl) ?_
                  refine g_getk (C := RX14) (T := TX14) (N := 67) hx hb hts (mc_ inX14) hown hK g rfl 35 (by decide) rfl (hts _ (List.mem_cons_of_mem _ t_2181)) (fun _ h9 => h9) 10 rfl dX14_callOf_258 ?_
                  refine g_iald hx hb hK g ma_472 ka_472 (by decide) rfl (in_bd b_453 (by decide)) dX14_callOf_261 (fun x_473 bx_473 cx_473 => ?_)
                  have vx_473 := hG_471.self g 0 rfl cx_473
                  have go_ := g
                  refine g_callEi (As := [.int r_391, .int x_473]) (rest := []) ⟨hx, hb, hml, hown, hts⟩ (ih.2.2.2.1 l dC dI L kd tys f H.size g.2.2.2.1 a0_ ma0_ ka0_ r_391 x_473 q0_ mq0_ kq0_ V_ δ_ hW w_ (bd_sub b_453 (by decide)) x_447 (bd_sub h_448 (by decide)) Z_ O_ hG_470 hG_471 h_395 bx_473 hm_400.1 (by rw [vx_473]; exact hz_401) (by have hN9 := hN; have bw9 := bw; unfold bd at bw9; have h1_ := EV.hi hW hE; omega) (g.fcts [9, 10, 2] rfl)) (cwV 2 hts (gV_ t_2663 t_2665 t_153 t_198 t_2666) rfl rfl rfl (by decide +kernel) ⟨(show N + 5 + 1 ≤ N + 1 + 5 by omega), (show 8 + (4 + 11) + (40 * N + 300) ≤ 40 * (N + 1) + 300 by omega)⟩) (pre3V g hK ma0_ ka0_ (by decide) (q := (RX14, TX14, 67)) rfl) rfl hl.1 rfl (lv_room (Nat.le_of_ble_eq_true rfl)) dX14_callOf_262 ⟨(Nat.le_of_ble_eq_true rfl), (Nat.le_of_ble_eq_true rfl)⟩ g hK (by decide) (by decide) (fx' := [(14, 43, a0_, .ref a_472), (14, 41, a0_, .ref a_458), (12, 52, q0_, .ref a_403), (12, 56, q0_, .ref a_389), (12, 55, q0_, .ref a_387), (12, 54, q0_, .ref a_383), (12, 3, q0_, .ref a_382), (12, 47, q0_, .ref a_9), (14, 1, a0_, .ref q0_)]) rfl (fun xr_474 fr_474 H locs mxr_474 kxr_474 hp hMr_474 g => ?_) (fun r_474 fr_474 H locs hp hMr_474 g => ?_)
                  · have hG_475 := isV.frame hMr_474 go_.2.2.2.1 mq0_ kq0_ (by decide) (by decide) hG_470
                    subst hQ
                    exact WX.leaves hempty hlocks (fun t ht hW => g_thrE g hK mxr_474 kxr_474 trivial ht hW) g.2.2.1.2.2
                  · obtain ⟨hG_476, x_477, ⟨h_478, rh_478⟩, hF_479⟩ := hp
                    have hG_480 := isV.frame hMr_474 go_.2.2.2.1 mq0_ kq0_ (by decide) (by decide) hG_470
                    have g := g.more hF_479
                    subst hQ
                    exact W.thenQ (W.iret (v := r_474) hx hb hr (fun t ht hW => g_retE g hK ⟨_, rfl, ⟨hG_476, x_477, ⟨h_478, (by have h9_0 := b_8; unfold bd at h9_0; have h9_1 := h_395; unfold bd at h9_1; have h9_2 := bs; unfold bd at h9_2; have h9_3 := b_453; unfold bd at h9_3; have h9_4 := b_1; unfold bd at h9_4; have h9_5 := b_381; unfold bd at h9_5; have h9_6 := bx_384; unfold bd at h9_6; have h9_7 := b_386; unfold bd at h9_7; have h9_8 := b_406; unfold bd at h9_8; have h9_9 := h_448; unfold bd at h9_9; have h9_10 := bx_473; unfold bd at h9_10; have h9_11 := h_478; unfold bd at h9_11; have h9_12 := b_455; unfold bd at h9_12; have h9_13 := b_457; unfold bd at h9_13; have h9_14 := b_463; unfold bd at h9_14; have h9_15 := b_468; unfold bd at h9_15; have h8_0 := kb_0; unfold bd at h8_0; have h8_1 := kb_1; unfold bd at h8_1; have h8_2 := kb_2; unfold bd at h8_2; have h8_3 := kb_20; unfold bd at h8_3; have h8_4 := kb_9; unfold bd at h8_4; omega)⟩, (g.fcts [0, 1] rfl)⟩⟩ ht hW) g.2.2.1.2.2 dX14_callOf_265) (fun _ => MQ.toE)
                · have fc_452 := eq_f c_452
                  have b_481 : bd 20 20 w_ := eqX fc_452 bw kb_20 (by decide)
                  refine lv_aload_n hx hb dX14_callOf_204 rfl (lv_at hl 6 rfl) ?_
                  refine lv_iconst (v := 2) hx hb dX14_callOf_205 (by decide) ?_
                  have go_ := g
                  refine g_callEv (As := [.int 2]) (rest := []) ⟨hx, hb, hml, hown, hts⟩ (r_X14_ends l dC dI L kd tys fr_444 H.size g.2.2.2.1 a0_ ma0_ ka0_ 2) (cwV 1 hts (gV_ t_2651 t_2653 t_150 t_198 t_2654) rfl rfl rfl (by decide +kernel) ⟨(show 0 + 1 ≤ N + 1 + 5 by omega), (show 8 + (2 + 11) + 0 ≤ 40 * (N + 1) + 300 by omega)⟩) (pre3V g hK ma0_ ka0_ (by decide) (q := (RX14, TX14, 67)) rfl) rfl hl.1 rfl (lv_room (Nat.le_of_ble_eq_true rfl)) dX14_callOf_206 ⟨(Nat.le_of_ble_eq_true rfl), (Nat.le_of_ble_eq_true rfl)⟩ g hK (by decide) (by decide) (fx' := [(14, 34, a0_, .int x_447), (12, 52, q0_, .ref a_403), (12, 56, q0_, .ref a_389), (12, 55, q0_, .ref a_387), (12, 54, q0_, .ref a_383), (12, 3, q0_, .ref a_382), (12, 47, q0_, .ref a_9), (14, 1, a0_, .ref q0_), (14, 35, a0_, .int w_)]) rfl (fun xr_482 fr_482 H locs mxr_482 kxr_482 hp hMr_482 g => ?_) (fun fr_482 H locs hp hMr_482 g => ?_)
                  · have hG_483 := isV.frame hMr_482 go_.2.2.2.1 mq0_ kq0_ (by decide) (by decide) hG_450
                    have hG_484 := RA.frame hMr_482 go_.2.2.2.1 ma0_ ka0_ (by decide) (by decide) hG_451
                    subst hQ
                    exact WX.leaves hempty hlocks (fun t ht hW => g_thrE g hK mxr_482 kxr_482 trivial ht hW) g.2.2.1.2.2
                  · exact hp.elim
          · have fc_408 := nle_f c_408
            have b_485 : bd 2 (-1) (2 : Int32) := ltL fc_408 kb_2 b_406 (by decide)
            exact bd_no (eqX rfl b_485 kb_2 (lo := 2) (hi := (-1)) (by decide)) (by decide)
        · have fc_407 := nle_f c_407
          have b_486 : bd 1 (-1) (1 : Int32) := ltL fc_407 kb_1 b_406 (by decide)
          exact bd_no (eqX rfl b_486 kb_1 (lo := 1) (hi := (-1)) (by decide)) (by decide)
      · have fc_405 := nle_f c_405
        have b_487 : bd 1 3 x_404 := ltR fc_405 kb_0 bx_404 (by decide)
        refine lv_aload_n hx hb dX14_callOf_108 rfl (lv_at hl 3 rfl) ?_
        refine lv_aload_n hx hb dX14_callOf_109 rfl (lv_at hl 3 rfl) ?_
        refine g_getk (C := RX14) (T := TX14) (N := 67) hx hb hts (mc_ inX14) hown hK g rfl 1 (by decide) rfl (hts _ (List.mem_cons_of_mem _ t_2147)) (fun _ h9 => h9) 6 rfl dX14_callOf_110 ?_
        refine g_getr (K := 207) (C := RX12) (T := TX12) (N := 60) hx hb hts (mc_ inX12) hown hK g mq0_ kq0_ (by decide) rfl 53 (by decide) rfl (hts _ (List.mem_cons_of_mem _ t_2010)) (fun _ h9 => h9) rfl dX14_callOf_113 (fun a_488 ma_488 ka_488 g => ?_)
        refine lv_iconst (v := 3) hx hb dX14_callOf_116 (by decide) ?_
        refine lv_iload_n hx hb dX14_callOf_117 rfl (lv_at hl 4 rfl) ?_
        refine lv_imul hx hb dX14_callOf_118 ?_
        refine lv_topi (fun y_489 ey_489 => ?_)
        have ty_489 := cmul_bd ey_489 (c := 3) (by decide) b_1 (by decide)
        have b_490 : bd 0 7497 y_489 := mulc_rg ty_489 b_1 (by decide)
        refine g_iald hx hb hK g ma_488 ka_488 (by decide) rfl (in_bd b_490 (by decide)) dX14_callOf_119 (fun x_491 bx_491 cx_491 => ?_)
        have vx_491 : x_491 = V_.i 53 y_489.toNatClampNeg := hG_398.at g 0 rfl rfl cx_491
        have go_ := g
        refine g_callEi (As := [.int x_491]) (rest := []) ⟨hx, hb, hml, hown, hts⟩ (ih.1 l dC dI L kd tys fr_391 H.size g.2.2.2.1 a0_ ma0_ ka0_ x_491 q0_ mq0_ kq0_ V_ δ_ hW w_ bw s_ bs Z_ O_ hG_398 hG_399 d_ hcl (h_ - 1) (ev_a hW hE hC (k := 0) vx_404 (by have h9_0 := b_8; unfold bd at h9_0; have h9_1 := h_395; unfold bd at h9_1; have h9_2 := bs; unfold bd at h9_2; have h9_3 := bw; unfold bd at h9_3; have h9_4 := b_1; unfold bd at h9_4; have h9_5 := b_381; unfold bd at h9_5; have h9_6 := bx_384; unfold bd at h9_6; have h9_7 := b_386; unfold bd at h9_7; have h9_8 := b_487; unfold bd at h9_8; have h9_9 := b_490; unfold bd at h9_9; have h8_0 := kb_0; unfold bd at h8_0; have h8_1 := kb_9; unfold bd at h8_1; have h7 := kb_0; unfold bd at h7; omega) (by decide) (by have h9_0 := b_8; unfold bd at h9_0; have h9_1 := h_395; unfold bd at h9_1; have h9_2 := bs; unfold bd at h9_2; have h9_3 := bw; unfold bd at h9_3; have h9_4 := b_1; unfold bd at h9_4; have h9_5 := b_381; unfold bd at h9_5; have h9_6 := bx_384; unfold bd at h9_6; have h9_7 := b_386; unfold bd at h9_7; have h9_8 := b_487; unfold bd at h9_8; have h9_9 := b_490; unfold bd at h9_9; have h8_0 := kb_0; unfold bd at h8_0; have h8_1 := kb_9; unfold bd at h8_1; have h7 := kb_0; unfold bd at h7; omega) vx_491) (by have hN9 := hN; have bw9 := bw; unfold bd at bw9; have h1_ := EV.hi hW hE; omega) (g.fcts [7, 8, 9] rfl)) (cwV 1 hts (gV_ t_2634 t_2636 t_146 t_198 t_2637) rfl rfl rfl (by decide +kernel) ⟨(show N + 5 + 1 ≤ N + 1 + 5 by omega), (show 8 + (5 + 11) + (40 * N + 300) ≤ 40 * (N + 1) + 300 by omega)⟩) (pre3V g hK ma0_ ka0_ (by decide) (q := (RX14, TX14, 67)) rfl) rfl hl.1 rfl (lv_room (Nat.le_of_ble_eq_true rfl)) dX14_callOf_120 ⟨(Nat.le_of_ble_eq_true rfl), (Nat.le_of_ble_eq_true rfl)⟩ g hK (by decide) (by decide) (fx' := [(12, 53, q0_, .ref a_488), (12, 52, q0_, .ref a_403), (12, 56, q0_, .ref a_389), (12, 55, q0_, .ref a_387), (12, 54, q0_, .ref a_383), (12, 3, q0_, .ref a_382), (12, 47, q0_, .ref a_9), (14, 1, a0_, .ref q0_)]) rfl (fun xr_492 fr_492 H locs mxr_492 kxr_492 hp hMr_492 g => ?_) (fun r_492 fr_492 H locs hp hMr_492 g => ?_)
        · have hG_493 := isV.frame hMr_492 go_.2.2.2.1 mq0_ kq0_ (by decide) (by decide) hG_398
          subst hQ
          exact WX.leaves hempty hlocks (fun t ht hW => g_thrE g hK mxr_492 kxr_492 trivial ht hW) g.2.2.1.2.2
        · obtain ⟨hG_494, x_495, ⟨h_496, rh_496⟩, hF_497⟩ := hp
          have hG_498 := isV.frame hMr_492 go_.2.2.2.1 mq0_ kq0_ (by decide) (by decide) hG_398
          have g := g.more hF_497
          refine lv_goto (tgt := 127) hx hb dX14_callOf_123 (by decide) ?_
          refine lv_istore (lv' := [(6, .int r_492), (5, .int x_404), (4, .int r_391), (3, .int r_2), (0, .ref a0_), (1, .int x1_), (2, .int x2_)]) hx hb dX14_callOf_127 hl (by decide) rfl (fun ls hl => ?_)
          refine lv_iload hx hb dX14_callOf_129 (lv_at hl 1 rfl) ?_
          refine lv_iconst (v := 1) hx hb dX14_callOf_131 (by decide) ?_
          have kb_1 : bd 1 1 (1 : Int32) := ⟨by decide, by decide⟩
          refine lv_icmp_le (tgt := 155) hx hb dX14_callOf_132 (by decide) (fun c_499 => ?_) (fun c_499 => ?_)
          · have fc_499 := le_f c_499
            have b_500 : bd 1 1 x_404 := leL fc_499 b_487 kb_1 (by decide)
            refine lv_iconst (v := 0) hx hb dX14_callOf_155 (by decide) ?_
            refine lv_istore (lv' := [(7, .int 0), (6, .int r_492), (5, .int x_404), (4, .int r_391), (3, .int r_2), (0, .ref a0_), (1, .int x1_), (2, .int x2_)]) hx hb dX14_callOf_156 hl (by decide) rfl (fun ls hl => ?_)
            refine lv_iload hx hb dX14_callOf_158 (lv_at hl 2 rfl) ?_
            refine lv_iconst (v := 2) hx hb dX14_callOf_160 (by decide) ?_
            have kb_2 : bd 2 2 (2 : Int32) := ⟨by decide, by decide⟩
            refine lv_icmp_le (tgt := 184) hx hb dX14_callOf_161 (by decide) (fun c_501 => ?_) (fun c_501 => ?_)
            · have fc_501 := le_f c_501
              refine lv_iconst (v := 0) hx hb dX14_callOf_184 (by decide) ?_
              refine lv_istore (lv' := [(8, .int 0), (7, .int 0), (6, .int r_492), (5, .int x_404), (4, .int r_391), (3, .int r_2), (0, .ref a0_), (1, .int x1_), (2, .int x2_)]) hx hb dX14_callOf_185 hl (by decide) rfl (fun ls hl => ?_)
              refine lv_iload_n hx hb dX14_callOf_187 rfl (lv_at hl 8 rfl) ?_
              refine lv_if_eq (tgt := 195) hx hb dX14_callOf_188 (by decide) (fun c_502 => ?_) (fun c_502 => ?_)
              · have fc_502 := eq_f c_502
                have b_503 : bd 0 0 x2_ := eqX fc_502 (bdT x2_) kb_0 (by decide)
                refine lv_aload_n hx hb dX14_callOf_195 rfl (lv_at hl 6 rfl) ?_
                refine g_getk (C := RX14) (T := TX14) (N := 67) hx hb hts (mc_ inX14) hown hK g rfl 35 (by decide) rfl (hts _ (List.mem_cons_of_mem _ t_2181)) (fun _ h9 => h9) 0 rfl dX14_callOf_196 ?_
                refine lv_bipush (v := 20) hx hb dX14_callOf_199 (by decide) ?_
                have kb_20 : bd 20 20 (20 : Int32) := ⟨by decide, by decide⟩
                refine lv_icmp_ne (tgt := 209) hx hb dX14_callOf_201 (by decide) (fun c_504 => ?_) (fun c_504 => ?_)
                · have fc_504 := neq_f c_504
                  have b_505 : bd 0 19 w_ := neX fc_504 bw kb_20 (by decide)
                  refine lv_iconst (v := 3) hx hb dX14_callOf_209 (by decide) ?_
                  refine lv_aload_n hx hb dX14_callOf_210 rfl (lv_at hl 6 rfl) ?_
                  refine g_getk (C := RX14) (T := TX14) (N := 67) hx hb hts (mc_ inX14) hown hK g rfl 35 (by decide) rfl (hts _ (List.mem_cons_of_mem _ t_2181)) (fun _ h9 => h9) 0 rfl dX14_callOf_211 ?_
                  refine lv_iconst (v := 1) hx hb dX14_callOf_214 (by decide) ?_
                  refine lv_iadd hx hb dX14_callOf_215 ?_
                  refine lv_topi (fun y_506 ey_506 => ?_)
                  have ty_506 := add_bd ey_506 b_505 kb_1 (by decide)
                  have b_507 : bd 1 20 y_506 := add_rg ty_506 b_505 kb_1 (by decide)
                  refine lv_imul hx hb dX14_callOf_216 ?_
                  refine lv_topi (fun y_508 ey_508 => ?_)
                  have ty_508 := cmul_bd ey_508 (c := 3) (by decide) b_507 (by decide)
                  have b_509 : bd 3 60 y_508 := mulc_rg ty_508 b_507 (by decide)
                  refine lv_istore (lv' := [(9, .int y_508), (8, .int 0), (7, .int 0), (6, .int r_492), (5, .int x_404), (4, .int r_391), (3, .int r_2), (0, .ref a0_), (1, .int x1_), (2, .int x2_)]) hx hb dX14_callOf_217 hl (by decide) rfl (fun ls hl => ?_)
                  refine lv_aload_n hx hb dX14_callOf_219 rfl (lv_at hl 7 rfl) ?_
                  refine g_getr (K := 218) (C := RX14) (T := TX14) (N := 67) hx hb hts (mc_ inX14) hown hK g ma0_ ka0_ (by decide) rfl 41 (by decide) rfl (hts _ (List.mem_cons_of_mem _ t_2187)) (fun _ h9 => h9) rfl dX14_callOf_220 (fun a_510 ma_510 ka_510 g => ?_)
                  refine lv_iload hx hb dX14_callOf_223 (lv_at hl 0 rfl) ?_
                  refine lv_iload hx hb dX14_callOf_225 (lv_at hl 3 rfl) ?_
                  have go_ := g
                  refine g_iast hx hb hK g ma_510 ka_510 (by decide) rfl (in_bd b_509 (by decide)) (bdT r_492) (by decide) dX14_callOf_227 (fun f H locs hM_511 g => ?_)
                  have hG_512 := isV.frame hM_511 go_.2.2.2.1 mq0_ kq0_ (by decide) (by decide) hG_498
                  have hG_513 := RA.frame hM_511 go_.2.2.2.1 ma0_ ka0_ (by decide) (by decide) hG_494
                  refine lv_aload_n hx hb dX14_callOf_228 rfl (lv_at hl 7 rfl) ?_
                  refine g_getk (C := RX14) (T := TX14) (N := 67) hx hb hts (mc_ inX14) hown hK g rfl 41 (by decide) rfl (hts _ (List.mem_cons_of_mem _ t_2187)) (fun _ h9 => h9) 0 rfl dX14_callOf_229 ?_
                  refine lv_iload hx hb dX14_callOf_232 (lv_at hl 0 rfl) ?_
                  refine lv_iconst (v := 1) hx hb dX14_callOf_234 (by decide) ?_
                  refine lv_iadd hx hb dX14_callOf_235 ?_
                  refine lv_topi (fun y_514 ey_514 => ?_)
                  have ty_514 := add_bd ey_514 b_509 kb_1 (by decide)
                  have b_515 : bd 4 61 y_514 := add_rg ty_514 b_509 kb_1 (by decide)
                  refine lv_iload hx hb dX14_callOf_236 (lv_at hl 2 rfl) ?_
                  have go_ := g
                  refine g_iast hx hb hK g ma_510 ka_510 (by decide) rfl (in_bd b_515 (by decide)) (bd_sub kb_0 (by decide)) (by decide) dX14_callOf_238 (fun f H locs hM_516 g => ?_)
                  have hG_517 := isV.frame hM_516 go_.2.2.2.1 mq0_ kq0_ (by decide) (by decide) hG_512
                  have hG_518 := RA.frame hM_516 go_.2.2.2.1 ma0_ ka0_ (by decide) (by decide) hG_513
                  refine lv_aload_n hx hb dX14_callOf_239 rfl (lv_at hl 7 rfl) ?_
                  refine g_getk (C := RX14) (T := TX14) (N := 67) hx hb hts (mc_ inX14) hown hK g rfl 41 (by decide) rfl (hts _ (List.mem_cons_of_mem _ t_2187)) (fun _ h9 => h9) 0 rfl dX14_callOf_240 ?_
                  refine lv_iload hx hb dX14_callOf_243 (lv_at hl 0 rfl) ?_
                  refine lv_iconst (v := 2) hx hb dX14_callOf_245 (by decide) ?_
                  refine lv_iadd hx hb dX14_callOf_246 ?_
                  refine lv_topi (fun y_519 ey_519 => ?_)
                  have ty_519 := add_bd ey_519 b_509 kb_2 (by decide)
                  have b_520 : bd 5 62 y_519 := add_rg ty_519 b_509 kb_2 (by decide)
                  refine lv_iload hx hb dX14_callOf_247 (lv_at hl 1 rfl) ?_
                  have go_ := g
                  refine g_iast hx hb hK g ma_510 ka_510 (by decide) rfl (in_bd b_520 (by decide)) (bd_sub kb_0 (by decide)) (by decide) dX14_callOf_249 (fun f H locs hM_521 g => ?_)
                  have hG_522 := isV.frame hM_521 go_.2.2.2.1 mq0_ kq0_ (by decide) (by decide) hG_517
                  have hG_523 := RA.frame hM_521 go_.2.2.2.1 ma0_ ka0_ (by decide) (by decide) hG_518
                  refine lv_aload_n hx hb dX14_callOf_250 rfl (lv_at hl 7 rfl) ?_
                  refine lv_iload hx hb dX14_callOf_251 (lv_at hl 5 rfl) ?_
                  refine lv_aload_n hx hb dX14_callOf_253 rfl (lv_at hl 7 rfl) ?_
                  refine g_getr (K := 220) (C := RX14) (T := TX14) (N := 67) hx hb hts (mc_ inX14) hown hK g ma0_ ka0_ (by decide) rfl 43 (by decide) rfl (hts _ (List.mem_cons_of_mem _ t_2189)) (fun _ h9 => h9) rfl dX14_callOf_254 (fun a_524 ma_524 ka_524 g => ?_)
                  refine lv_aload_n hx hb dX14_callOf_257 rfl (lv_at hl 7 rfl) ?_
                  refine g_getk (C := RX14) (T := TX14) (N := 67) hx hb hts (mc_ inX14) hown hK g rfl 35 (by decide) rfl (hts _ (List.mem_cons_of_mem _ t_2181)) (fun _ h9 => h9) 2 rfl dX14_callOf_258 ?_
                  refine g_iald hx hb hK g ma_524 ka_524 (by decide) rfl (in_bd b_505 (by decide)) dX14_callOf_261 (fun x_525 bx_525 cx_525 => ?_)
                  have vx_525 := hG_523.self g 0 rfl cx_525
                  have go_ := g
                  refine g_callEi (As := [.int r_391, .int x_525]) (rest := []) ⟨hx, hb, hml, hown, hts⟩ (ih.2.2.2.1 l dC dI L kd tys f H.size g.2.2.2.1 a0_ ma0_ ka0_ r_391 x_525 q0_ mq0_ kq0_ V_ δ_ hW w_ (bd_sub b_505 (by decide)) x_495 h_496 Z_ O_ hG_522 hG_523 h_395 bx_525 hm_400.1 (by rw [vx_525]; exact hz_401) (by have hN9 := hN; have bw9 := bw; unfold bd at bw9; have h1_ := EV.hi hW hE; omega) (g.fcts [11, 2, 3] rfl)) (cwV 2 hts (gV_ t_2663 t_2665 t_153 t_198 t_2666) rfl rfl rfl (by decide +kernel) ⟨(show N + 5 + 1 ≤ N + 1 + 5 by omega), (show 8 + (4 + 11) + (40 * N + 300) ≤ 40 * (N + 1) + 300 by omega)⟩) (pre3V g hK ma0_ ka0_ (by decide) (q := (RX14, TX14, 67)) rfl) rfl hl.1 rfl (lv_room (Nat.le_of_ble_eq_true rfl)) dX14_callOf_262 ⟨(Nat.le_of_ble_eq_true rfl), (Nat.le_of_ble_eq_true rfl)⟩ g hK (by decide) (by decide) (fx' := [(14, 43, a0_, .ref a_524), (14, 41, a0_, .ref a_510), (12, 53, q0_, .ref a_488), (12, 52, q0_, .ref a_403), (12, 56, q0_, .ref a_389), (12, 55, q0_, .ref a_387), (12, 54, q0_, .ref a_383), (12, 3, q0_, .ref a_382), (12, 47, q0_, .ref a_9), (14, 1, a0_, .ref q0_)]) rfl (fun xr_526 fr_526 H locs mxr_526 kxr_526 hp hMr_526 g => ?_) (fun r_526 fr_526 H locs hp hMr_526 g => ?_)
                  · have hG_527 := isV.frame hMr_526 go_.2.2.2.1 mq0_ kq0_ (by decide) (by decide) hG_522
                    subst hQ
                    exact WX.leaves hempty hlocks (fun t ht hW => g_thrE g hK mxr_526 kxr_526 trivial ht hW) g.2.2.1.2.2
                  · obtain ⟨hG_528, x_529, ⟨h_530, rh_530⟩, hF_531⟩ := hp
                    have hG_532 := isV.frame hMr_526 go_.2.2.2.1 mq0_ kq0_ (by decide) (by decide) hG_522
                    have g := g.more hF_531
                    subst hQ
                    exact W.thenQ (W.iret (v := r_526) hx hb hr (fun t ht hW => g_retE g hK ⟨_, rfl, ⟨hG_528, x_529, ⟨h_530, (by have h9_0 := b_8; unfold bd at h9_0; have h9_1 := h_395; unfold bd at h9_1; have h9_2 := bs; unfold bd at h9_2; have h9_3 := b_505; unfold bd at h9_3; have h9_4 := b_1; unfold bd at h9_4; have h9_5 := b_503; unfold bd at h9_5; have h9_6 := b_381; unfold bd at h9_6; have h9_7 := bx_384; unfold bd at h9_7; have h9_8 := b_386; unfold bd at h9_8; have h9_9 := b_500; unfold bd at h9_9; have h9_10 := h_496; unfold bd at h9_10; have h9_11 := bx_525; unfold bd at h9_11; have h9_12 := h_530; unfold bd at h9_12; have h9_13 := b_490; unfold bd at h9_13; have h9_14 := b_507; unfold bd at h9_14; have h9_15 := b_509; unfold bd at h9_15; have h9_16 := b_515; unfold bd at h9_16; have h9_17 := b_520; unfold bd at h9_17; have h8_0 := kb_0; unfold bd at h8_0; have h8_1 := kb_1; unfold bd at h8_1; have h8_2 := kb_2; unfold bd at h8_2; have h8_3 := kb_20; unfold bd at h8_3; have h8_4 := kb_9; unfold bd at h8_4; omega)⟩, (g.fcts [0, 1] rfl)⟩⟩ ht hW) g.2.2.1.2.2 dX14_callOf_265) (fun _ => MQ.toE)
                · have fc_504 := eq_f c_504
                  have b_533 : bd 20 20 w_ := eqX fc_504 bw kb_20 (by decide)
                  refine lv_aload_n hx hb dX14_callOf_204 rfl (lv_at hl 6 rfl) ?_
                  refine lv_iconst (v := 2) hx hb dX14_callOf_205 (by decide) ?_
                  have go_ := g
                  refine g_callEv (As := [.int 2]) (rest := []) ⟨hx, hb, hml, hown, hts⟩ (r_X14_ends l dC dI L kd tys fr_492 H.size g.2.2.2.1 a0_ ma0_ ka0_ 2) (cwV 1 hts (gV_ t_2651 t_2653 t_150 t_198 t_2654) rfl rfl rfl (by decide +kernel) ⟨(show 0 + 1 ≤ N + 1 + 5 by omega), (show 8 + (2 + 11) + 0 ≤ 40 * (N + 1) + 300 by omega)⟩) (pre3V g hK ma0_ ka0_ (by decide) (q := (RX14, TX14, 67)) rfl) rfl hl.1 rfl (lv_room (Nat.le_of_ble_eq_true rfl)) dX14_callOf_206 ⟨(Nat.le_of_ble_eq_true rfl), (Nat.le_of_ble_eq_true rfl)⟩ g hK (by decide) (by decide) (fx' := [(14, 35, a0_, .int w_), (14, 34, a0_, .int x_495), (12, 53, q0_, .ref a_488), (12, 52, q0_, .ref a_403), (12, 56, q0_, .ref a_389), (12, 55, q0_, .ref a_387), (12, 54, q0_, .ref a_383), (12, 3, q0_, .ref a_382), (12, 47, q0_, .ref a_9), (14, 1, a0_, .ref q0_)]) rfl (fun xr_534 fr_534 H locs mxr_534 kxr_534 hp hMr_534 g => ?_) (fun fr_534 H locs hp hMr_534 g => ?_)
                  · have hG_535 := isV.frame hMr_534 go_.2.2.2.1 mq0_ kq0_ (by decide) (by decide) hG_498
                    have hG_536 := RA.frame hMr_534 go_.2.2.2.1 ma0_ ka0_ (by decide) (by decide) hG_494
                    subst hQ
                    exact WX.leaves hempty hlocks (fun t ht hW => g_thrE g hK mxr_534 kxr_534 trivial ht hW) g.2.2.1.2.2
                  · exact hp.elim
              · have fc_502 := neq_f c_502
                refine lv_aload_n hx hb dX14_callOf_191 rfl (lv_at hl 6 rfl) ?_
                have go_ := g
                refine g_callEv (As := []) (rest := []) ⟨hx, hb, hml, hown, hts⟩ (r_X14_stepN l dC dI L kd tys fr_492 H.size g.2.2.2.1 a0_ ma0_ ka0_ x_495 h_496 (g.fcts [1] rfl)) (cwV 0 hts (gV_ t_2659 t_2661 t_152 t_198 t_2662) rfl rfl rfl (by decide +kernel) ⟨(show 1 + 1 ≤ N + 1 + 5 by omega), (show 8 + (1 + 11) + 21 ≤ 40 * (N + 1) + 300 by omega)⟩) (pre3V g hK ma0_ ka0_ (by decide) (q := (RX14, TX14, 67)) rfl) rfl hl.1 rfl (lv_room (Nat.le_of_ble_eq_true rfl)) dX14_callOf_192 ⟨(Nat.le_of_ble_eq_true rfl), (Nat.le_of_ble_eq_true rfl)⟩ g hK (by decide) (by decide) (fx' := [(14, 35, a0_, .int w_), (12, 53, q0_, .ref a_488), (12, 52, q0_, .ref a_403), (12, 56, q0_, .ref a_389), (12, 55, q0_, .ref a_387), (12, 54, q0_, .ref a_383), (12, 3, q0_, .ref a_382), (12, 47, q0_, .ref a_9), (14, 1, a0_, .ref q0_)]) rfl (fun xr_537 fr_537 H locs mxr_537 kxr_537 hp hMr_537 g => ?_) (fun fr_537 H locs hp hMr_537 g => ?_)
                · have hG_538 := isV.frame hMr_537 go_.2.2.2.1 mq0_ kq0_ (by decide) (by decide) hG_498
                  have hG_539 := RA.frame hMr_537 go_.2.2.2.1 ma0_ ka0_ (by decide) (by decide) hG_494
                  subst hQ
                  exact WX.leaves hempty hlocks (fun t ht hW => g_thrE g hK mxr_537 kxr_537 trivial ht hW) g.2.2.1.2.2
                · obtain ⟨x_540, ⟨h_541, rh_541⟩, hF_542⟩ := hp
                  have hG_543 := isV.frame hMr_537 go_.2.2.2.1 mq0_ kq0_ (by decide) (by decide) hG_498
                  have hG_544 := RA.frame hMr_537 go_.2.2.2.1 ma0_ ka0_ (by decide) (by decide) hG_494
                  have g := g.more hF_542
                  refine lv_aload_n hx hb dX14_callOf_195 rfl (lv_at hl 6 rfl) ?_
                  refine g_getk (C := RX14) (T := TX14) (N := 67) hx hb hts (mc_ inX14) hown hK g rfl 35 (by decide) rfl (hts _ (List.mem_cons_of_mem _ t_2181)) (fun _ h9 => h9) 1 rfl dX14_callOf_196 ?_
                  refine lv_bipush (v := 20) hx hb dX14_callOf_199 (by decide) ?_
                  have kb_20 : bd 20 20 (20 : Int32) := ⟨by decide, by decide⟩
                  refine lv_icmp_ne (tgt := 209) hx hb dX14_callOf_201 (by decide) (fun c_545 => ?_) (fun c_545 => ?_)
                  · have fc_545 := neq_f c_545
                    have b_546 : bd 0 19 w_ := neX fc_545 bw kb_20 (by decide)
                    refine lv_iconst (v := 3) hx hb dX14_callOf_209 (by decide) ?_
                    refine lv_aload_n hx hb dX14_callOf_210 rfl (lv_at hl 6 rfl) ?_
                    refine g_getk (C := RX14) (T := TX14) (N := 67) hx hb hts (mc_ inX14) hown hK g rfl 35 (by decide) rfl (hts _ (List.mem_cons_of_mem _ t_2181)) (fun _ h9 => h9) 1 rfl dX14_callOf_211 ?_
                    refine lv_iconst (v := 1) hx hb dX14_callOf_214 (by decide) ?_
                    refine lv_iadd hx hb dX14_callOf_215 ?_
                    refine lv_topi (fun y_547 ey_547 => ?_)
                    have ty_547 := add_bd ey_547 b_546 kb_1 (by decide)
                    have b_548 : bd 1 20 y_547 := add_rg ty_547 b_546 kb_1 (by decide)
                    refine lv_imul hx hb dX14_callOf_216 ?_
                    refine lv_topi (fun y_549 ey_549 => ?_)
                    have ty_549 := cmul_bd ey_549 (c := 3) (by decide) b_548 (by decide)
                    have b_550 : bd 3 60 y_549 := mulc_rg ty_549 b_548 (by decide)
                    refine lv_istore (lv' := [(9, .int y_549), (8, .int 0), (7, .int 0), (6, .int r_492), (5, .int x_404), (4, .int r_391), (3, .int r_2), (0, .ref a0_), (1, .int x1_), (2, .int x2_)]) hx hb dX14_callOf_217 hl (by decide) rfl (fun ls hl => ?_)
                    refine lv_aload_n hx hb dX14_callOf_219 rfl (lv_at hl 7 rfl) ?_
                    refine g_getr (K := 218) (C := RX14) (T := TX14) (N := 67) hx hb hts (mc_ inX14) hown hK g ma0_ ka0_ (by decide) rfl 41 (by decide) rfl (hts _ (List.mem_cons_of_mem _ t_2187)) (fun _ h9 => h9) rfl dX14_callOf_220 (fun a_551 ma_551 ka_551 g => ?_)
                    refine lv_iload hx hb dX14_callOf_223 (lv_at hl 0 rfl) ?_
                    refine lv_iload hx hb dX14_callOf_225 (lv_at hl 3 rfl) ?_
                    have go_ := g
                    refine g_iast hx hb hK g ma_551 ka_551 (by decide) rfl (in_bd b_550 (by decide)) (bdT r_492) (by decide) dX14_callOf_227 (fun f H locs hM_552 g => ?_)
                    have hG_553 := isV.frame hM_552 go_.2.2.2.1 mq0_ kq0_ (by decide) (by decide) hG_543
                    have hG_554 := RA.frame hM_552 go_.2.2.2.1 ma0_ ka0_ (by decide) (by decide) hG_544
                    refine lv_aload_n hx hb dX14_callOf_228 rfl (lv_at hl 7 rfl) ?_
                    refine g_getk (C := RX14) (T := TX14) (N := 67) hx hb hts (mc_ inX14) hown hK g rfl 41 (by decide) rfl (hts _ (List.mem_cons_of_mem _ t_2187)) (fun _ h9 => h9) 0 rfl dX14_callOf_229 ?_
                    refine lv_iload hx hb dX14_callOf_232 (lv_at hl 0 rfl) ?_
                    refine lv_iconst (v := 1) hx hb dX14_callOf_234 (by decide) ?_
                    refine lv_iadd hx hb dX14_callOf_235 ?_
                    refine lv_topi (fun y_555 ey_555 => ?_)
                    have ty_555 := add_bd ey_555 b_550 kb_1 (by decide)
                    have b_556 : bd 4 61 y_555 := add_rg ty_555 b_550 kb_1 (by decide)
                    refine lv_iload hx hb dX14_callOf_236 (lv_at hl 2 rfl) ?_
                    have go_ := g
                    refine g_iast hx hb hK g ma_551 ka_551 (by decide) rfl (in_bd b_556 (by decide)) (bd_sub kb_0 (by decide)) (by decide) dX14_callOf_238 (fun f H locs hM_557 g => ?_)
                    have hG_558 := isV.frame hM_557 go_.2.2.2.1 mq0_ kq0_ (by decide) (by decide) hG_553
                    have hG_559 := RA.frame hM_557 go_.2.2.2.1 ma0_ ka0_ (by decide) (by decide) hG_554
                    refine lv_aload_n hx hb dX14_callOf_239 rfl (lv_at hl 7 rfl) ?_
                    refine g_getk (C := RX14) (T := TX14) (N := 67) hx hb hts (mc_ inX14) hown hK g rfl 41 (by decide) rfl (hts _ (List.mem_cons_of_mem _ t_2187)) (fun _ h9 => h9) 0 rfl dX14_callOf_240 ?_
                    refine lv_iload hx hb dX14_callOf_243 (lv_at hl 0 rfl) ?_
                    refine lv_iconst (v := 2) hx hb dX14_callOf_245 (by decide) ?_
                    refine lv_iadd hx hb dX14_callOf_246 ?_
                    refine lv_topi (fun y_560 ey_560 => ?_)
                    have ty_560 := add_bd ey_560 b_550 kb_2 (by decide)
                    have b_561 : bd 5 62 y_560 := add_rg ty_560 b_550 kb_2 (by decide)
                    refine lv_iload hx hb dX14_callOf_247 (lv_at hl 1 rfl) ?_
                    have go_ := g
                    refine g_iast hx hb hK g ma_551 ka_551 (by decide) rfl (in_bd b_561 (by decide)) (bd_sub kb_0 (by decide)) (by decide) dX14_callOf_249 (fun f H locs hM_562 g => ?_)
                    have hG_563 := isV.frame hM_562 go_.2.2.2.1 mq0_ kq0_ (by decide) (by decide) hG_558
                    have hG_564 := RA.frame hM_562 go_.2.2.2.1 ma0_ ka0_ (by decide) (by decide) hG_559
                    refine lv_aload_n hx hb dX14_callOf_250 rfl (lv_at hl 7 rfl) ?_
                    refine lv_iload hx hb dX14_callOf_251 (lv_at hl 5 rfl) ?_
                    refine lv_aload_n hx hb dX14_callOf_253 rfl (lv_at hl 7 rfl) ?_
                    refine g_getr (K := 220) (C := RX14) (T := TX14) (N := 67) hx hb hts (mc_ inX14) hown hK g ma0_ ka0_ (by decide) rfl 43 (by decide) rfl (hts _ (List.mem_cons_of_mem _ t_2189)) (fun _ h9 => h9) rfl dX14_callOf_254 (fun a_565 ma_565 ka_565 g => ?_)
                    refine lv_aload_n hx hb dX14_callOf_257 rfl (lv_at hl 7 rfl) ?_
                    refine g_getk (C := RX14) (T := TX14) (N := 67) hx hb hts (mc_ inX14) hown hK g rfl 35 (by decide) rfl (hts _ (List.mem_cons_of_mem _ t_2181)) (fun _ h9 => h9) 3 rfl dX14_callOf_258 ?_
                    refine g_iald hx hb hK g ma_565 ka_565 (by decide) rfl (in_bd b_546 (by decide)) dX14_callOf_261 (fun x_566 bx_566 cx_566 => ?_)
                    have vx_566 := hG_564.self g 0 rfl cx_566
                    have go_ := g
                    refine g_callEi (As := [.int r_391, .int x_566]) (rest := []) ⟨hx, hb, hml, hown, hts⟩ (ih.2.2.2.1 l dC dI L kd tys f H.size g.2.2.2.1 a0_ ma0_ ka0_ r_391 x_566 q0_ mq0_ kq0_ V_ δ_ hW w_ (bd_sub b_546 (by decide)) x_540 (bd_sub h_541 (by decide)) Z_ O_ hG_563 hG_564 h_395 bx_566 hm_400.1 (by rw [vx_566]; exact hz_401) (by have hN9 := hN; have bw9 := bw; unfold bd at bw9; have h1_ := EV.hi hW hE; omega) (g.fcts [11, 3, 2] rfl)) (cwV 2 hts (gV_ t_2663 t_2665 t_153 t_198 t_2666) rfl rfl rfl (by decide +kernel) ⟨(show N + 5 + 1 ≤ N + 1 + 5 by omega), (show 8 + (4 + 11) + (40 * N + 300) ≤ 40 * (N + 1) + 300 by omega)⟩) (pre3V g hK ma0_ ka0_ (by decide) (q := (RX14, TX14, 67)) rfl) rfl hl.1 rfl (lv_room (Nat.le_of_ble_eq_true rfl)) dX14_callOf_262 ⟨(Nat.le_of_ble_eq_true rfl), (Nat.le_of_ble_eq_true rfl)⟩ g hK (by decide) (by decide) (fx' := [(14, 43, a0_, .ref a_565), (14, 41, a0_, .ref a_551), (12, 53, q0_, .ref a_488), (12, 52, q0_, .ref a_403), (12, 56, q0_, .ref a_389), (12, 55, q0_, .ref a_387), (12, 54, q0_, .ref a_383), (12, 3, q0_, .ref a_382), (12, 47, q0_, .ref a_9), (14, 1, a0_, .ref q0_)]) rfl (fun xr_567 fr_567 H locs mxr_567 kxr_567 hp hMr_567 g => ?_) (fun r_567 fr_567 H locs hp hMr_567 g => ?_)
                    · have hG_568 := isV.frame hMr_567 go_.2.2.2.1 mq0_ kq0_ (by decide) (by decide) hG_563
                      subst hQ
                      exact WX.leaves hempty hlocks (fun t ht hW => g_thrE g hK mxr_567 kxr_567 trivial ht hW) g.2.2.1.2.2
                    · obtain ⟨hG_569, x_570, ⟨h_571, rh_571⟩, hF_572⟩ := hp
                      have hG_573 := isV.frame hMr_567 go_.2.2.2.1 mq0_ kq0_ (by decide) (by decide) hG_563
                      have g := g.more hF_572
                      subst hQ
                      exact W.thenQ (W.iret (v := r_567) hx hb hr (fun t ht hW => g_retE g hK ⟨_, rfl, ⟨hG_569, x_570, ⟨h_571, (by have h9_0 := b_8; unfold bd at h9_0; have h9_1 := h_395; unfold bd at h9_1; have h9_2 := bs; unfold bd at h9_2; have h9_3 := b_546; unfold bd at h9_3; have h9_4 := b_1; unfold bd at h9_4; have h9_5 := b_381; unfold bd at h9_5; have h9_6 := bx_384; unfold bd at h9_6; have h9_7 := b_386; unfold bd at h9_7; have h9_8 := b_500; unfold bd at h9_8; have h9_9 := h_496; unfold bd at h9_9; have h9_10 := h_541; unfold bd at h9_10; have h9_11 := bx_566; unfold bd at h9_11; have h9_12 := h_571; unfold bd at h9_12; have h9_13 := b_490; unfold bd at h9_13; have h9_14 := b_548; unfold bd at h9_14; have h9_15 := b_550; unfold bd at h9_15; have h9_16 := b_556; unfold bd at h9_16; have h9_17 := b_561; unfold bd at h9_17; have h8_0 := kb_0; unfold bd at h8_0; have h8_1 := kb_1; unfold bd at h8_1; have h8_2 := kb_2; unfold bd at h8_2; have h8_3 := kb_20; unfold bd at h8_3; have h8_4 := kb_9; unfold bd at h8_4; omega)⟩, (g.fcts [0, 1] rfl)⟩⟩ ht hW) g.2.2.1.2.2 dX14_callOf_265) (fun _ => MQ.toE)
                  · have fc_545 := eq_f c_545
                    have b_574 : bd 20 20 w_ := eqX fc_545 bw kb_20 (by decide)
                    refine lv_aload_n hx hb dX14_callOf_204 rfl (lv_at hl 6 rfl) ?_
                    refine lv_iconst (v := 2) hx hb dX14_callOf_205 (by decide) ?_
                    have go_ := g
                    refine g_callEv (As := [.int 2]) (rest := []) ⟨hx, hb, hml, hown, hts⟩ (r_X14_ends l dC dI L kd tys fr_537 H.size g.2.2.2.1 a0_ ma0_ ka0_ 2) (cwV 1 hts (gV_ t_2651 t_2653 t_150 t_198 t_2654) rfl rfl rfl (by decide +kernel) ⟨(show 0 + 1 ≤ N + 1 + 5 by omega), (show 8 + (2 + 11) + 0 ≤ 40 * (N + 1) + 300 by omega)⟩) (pre3V g hK ma0_ ka0_ (by decide) (q := (RX14, TX14, 67)) rfl) rfl hl.1 rfl (lv_room (Nat.le_of_ble_eq_true rfl)) dX14_callOf_206 ⟨(Nat.le_of_ble_eq_true rfl), (Nat.le_of_ble_eq_true rfl)⟩ g hK (by decide) (by decide) (fx' := [(14, 34, a0_, .int x_540), (14, 35, a0_, .int w_), (12, 53, q0_, .ref a_488), (12, 52, q0_, .ref a_403), (12, 56, q0_, .ref a_389), (12, 55, q0_, .ref a_387), (12, 54, q0_, .ref a_383), (12, 3, q0_, .ref a_382), (12, 47, q0_, .ref a_9), (14, 1, a0_, .ref q0_)]) rfl (fun xr_575 fr_575 H locs mxr_575 kxr_575 hp hMr_575 g => ?_) (fun fr_575 H locs hp hMr_575 g => ?_)
                    · have hG_576 := isV.frame hMr_575 go_.2.2.2.1 mq0_ kq0_ (by decide) (by decide) hG_543
                      have hG_577 := RA.frame hMr_575 go_.2.2.2.1 ma0_ ka0_ (by decide) (by decide) hG_544
                      subst hQ
                      exact WX.leaves hempty hlocks (fun t ht hW => g_thrE g hK mxr_575 kxr_575 trivial ht hW) g.2.2.1.2.2
                    · exact hp.elim
            · have fc_501 := nle_f c_501
              have b_578 : bd 2 0 (2 : Int32) := ltL fc_501 kb_2 b_500 (by decide)
              exact bd_no (eqX rfl b_578 kb_2 (lo := 2) (hi := 0) (by decide)) (by decide)
          · have fc_499 := nle_f c_499
            have b_579 : bd 2 3 x_404 := ltR fc_499 kb_1 b_487 (by decide)
            refine lv_aload_n hx hb dX14_callOf_135 rfl (lv_at hl 4 rfl) ?_
            refine lv_aload_n hx hb dX14_callOf_136 rfl (lv_at hl 4 rfl) ?_
            refine g_getk (C := RX14) (T := TX14) (N := 67) hx hb hts (mc_ inX14) hown hK g rfl 1 (by decide) rfl (hts _ (List.mem_cons_of_mem _ t_2147)) (fun _ h9 => h9) 9 rfl dX14_callOf_137 ?_
            refine g_getk (C := RX12) (T := TX12) (N := 60) hx hb hts (mc_ inX12) hown hK g rfl 53 (by decide) rfl (hts _ (List.mem_cons_of_mem _ t_2010)) (fun _ h9 => h9) 2 rfl dX14_callOf_140 ?_
            refine lv_iconst (v := 3) hx hb dX14_callOf_143 (by decide) ?_
            refine lv_iload_n hx hb dX14_callOf_144 rfl (lv_at hl 5 rfl) ?_
            refine lv_imul hx hb dX14_callOf_145 ?_
            refine lv_topi (fun y_580 ey_580 => ?_)
            obtain rfl : y_489 = y_580 := ey_489.trans ey_580.symm
            refine lv_iconst (v := 1) hx hb dX14_callOf_146 (by decide) ?_
            refine lv_iadd hx hb dX14_callOf_147 ?_
            refine lv_topi (fun y_581 ey_581 => ?_)
            have ty_581 := add_bd ey_581 b_490 kb_1 (by decide)
            have b_582 : bd 1 7498 y_581 := add_rg ty_581 b_490 kb_1 (by decide)
            refine g_iald hx hb hK g ma_488 ka_488 (by decide) rfl (in_bd b_582 (by decide)) dX14_callOf_148 (fun x_583 bx_583 cx_583 => ?_)
            have vx_583 : x_583 = V_.i 53 y_581.toNatClampNeg := hG_498.at g 2 rfl rfl cx_583
            have go_ := g
            refine g_callEi (As := [.int x_583]) (rest := []) ⟨hx, hb, hml, hown, hts⟩ (ih.1 l dC dI L kd tys fr_492 H.size g.2.2.2.1 a0_ ma0_ ka0_ x_583 q0_ mq0_ kq0_ V_ δ_ hW w_ bw x_495 h_496 Z_ O_ hG_498 hG_494 d_ hcl (h_ - 1) (ev_a hW hE hC (k := 1) vx_404 (by have h9_0 := b_8; unfold bd at h9_0; have h9_1 := h_395; unfold bd at h9_1; have h9_2 := bs; unfold bd at h9_2; have h9_3 := bw; unfold bd at h9_3; have h9_4 := b_1; unfold bd at h9_4; have h9_5 := b_381; unfold bd at h9_5; have h9_6 := bx_384; unfold bd at h9_6; have h9_7 := b_386; unfold bd at h9_7; have h9_8 := b_579; unfold bd at h9_8; have h9_9 := h_496; unfold bd at h9_9; have h9_10 := b_490; unfold bd at h9_10; have h9_11 := b_582; unfold bd at h9_11; have h8_0 := kb_0; unfold bd at h8_0; have h8_1 := kb_1; unfold bd at h8_1; have h8_2 := kb_9; unfold bd at h8_2; have h7 := kb_1; unfold bd at h7; omega) (by decide) (by have h9_0 := b_8; unfold bd at h9_0; have h9_1 := h_395; unfold bd at h9_1; have h9_2 := bs; unfold bd at h9_2; have h9_3 := bw; unfold bd at h9_3; have h9_4 := b_1; unfold bd at h9_4; have h9_5 := b_381; unfold bd at h9_5; have h9_6 := bx_384; unfold bd at h9_6; have h9_7 := b_386; unfold bd at h9_7; have h9_8 := b_579; unfold bd at h9_8; have h9_9 := h_496; unfold bd at h9_9; have h9_10 := b_490; unfold bd at h9_10; have h9_11 := b_582; unfold bd at h9_11; have h8_0 := kb_0; unfold bd at h8_0; have h8_1 := kb_1; unfold bd at h8_1; have h8_2 := kb_9; unfold bd at h8_2; have h7 := kb_1; unfold bd at h7; omega) vx_583) (by have hN9 := hN; have bw9 := bw; unfold bd at bw9; have h1_ := EV.hi hW hE; omega) (g.fcts [9, 0, 1] rfl)) (cwV 1 hts (gV_ t_2634 t_2636 t_146 t_198 t_2637) rfl rfl rfl (by decide +kernel) ⟨(show N + 5 + 1 ≤ N + 1 + 5 by omega), (show 8 + (5 + 11) + (40 * N + 300) ≤ 40 * (N + 1) + 300 by omega)⟩) (pre3V g hK ma0_ ka0_ (by decide) (q := (RX14, TX14, 67)) rfl) rfl hl.1 rfl (lv_room (Nat.le_of_ble_eq_true rfl)) dX14_callOf_149 ⟨(Nat.le_of_ble_eq_true rfl), (Nat.le_of_ble_eq_true rfl)⟩ g hK (by decide) (by decide) (fx' := [(12, 53, q0_, .ref a_488), (12, 52, q0_, .ref a_403), (12, 56, q0_, .ref a_389), (12, 55, q0_, .ref a_387), (12, 54, q0_, .ref a_383), (12, 3, q0_, .ref a_382), (12, 47, q0_, .ref a_9), (14, 1, a0_, .ref q0_)]) rfl (fun xr_584 fr_584 H locs mxr_584 kxr_584 hp hMr_584 g => ?_) (fun r_584 fr_584 H locs hp hMr_584 g => ?_)
            · have hG_585 := isV.frame hMr_584 go_.2.2.2.1 mq0_ kq0_ (by decide) (by decide) hG_498
              subst hQ
              exact WX.leaves hempty hlocks (fun t ht hW => g_thrE g hK mxr_584 kxr_584 trivial ht hW) g.2.2.1.2.2
            · obtain ⟨hG_586, x_587, ⟨h_588, rh_588⟩, hF_589⟩ := hp
              have hG_590 := isV.frame hMr_584 go_.2.2.2.1 mq0_ kq0_ (by decide) (by decide) hG_498
              have g := g.more hF_589
              refine lv_goto (tgt := 156) hx hb dX14_callOf_152 (by decide) ?_
              refine lv_istore (lv' := [(7, .int r_584), (6, .int r_492), (5, .int x_404), (4, .int r_391), (3, .int r_2), (0, .ref a0_), (1, .int x1_), (2, .int x2_)]) hx hb dX14_callOf_156 hl (by decide) rfl (fun ls hl => ?_)
              refine lv_iload hx hb dX14_callOf_158 (lv_at hl 2 rfl) ?_
              refine lv_iconst (v := 2) hx hb dX14_callOf_160 (by decide) ?_
              have kb_2 : bd 2 2 (2 : Int32) := ⟨by decide, by decide⟩
              refine lv_icmp_le (tgt := 184) hx hb dX14_callOf_161 (by decide) (fun c_591 => ?_) (fun c_591 => ?_)
              · have fc_591 := le_f c_591
                have b_592 : bd 2 2 x_404 := leL fc_591 b_579 kb_2 (by decide)
                refine lv_iconst (v := 0) hx hb dX14_callOf_184 (by decide) ?_
                refine lv_istore (lv' := [(8, .int 0), (7, .int r_584), (6, .int r_492), (5, .int x_404), (4, .int r_391), (3, .int r_2), (0, .ref a0_), (1, .int x1_), (2, .int x2_)]) hx hb dX14_callOf_185 hl (by decide) rfl (fun ls hl => ?_)
                refine lv_iload_n hx hb dX14_callOf_187 rfl (lv_at hl 8 rfl) ?_
                refine lv_if_eq (tgt := 195) hx hb dX14_callOf_188 (by decide) (fun c_593 => ?_) (fun c_593 => ?_)
                · have fc_593 := eq_f c_593
                  have b_594 : bd 0 0 x2_ := eqX fc_593 (bdT x2_) kb_0 (by decide)
                  refine lv_aload_n hx hb dX14_callOf_195 rfl (lv_at hl 6 rfl) ?_
                  refine g_getk (C := RX14) (T := TX14) (N := 67) hx hb hts (mc_ inX14) hown hK g rfl 35 (by decide) rfl (hts _ (List.mem_cons_of_mem _ t_2181)) (fun _ h9 => h9) 0 rfl dX14_callOf_196 ?_
                  refine lv_bipush (v := 20) hx hb dX14_callOf_199 (by decide) ?_
                  have kb_20 : bd 20 20 (20 : Int32) := ⟨by decide, by decide⟩
                  refine lv_icmp_ne (tgt := 209) hx hb dX14_callOf_201 (by decide) (fun c_595 => ?_) (fun c_595 => ?_)
                  · have fc_595 := neq_f c_595
                    have b_596 : bd 0 19 w_ := neX fc_595 bw kb_20 (by decide)
                    refine lv_iconst (v := 3) hx hb dX14_callOf_209 (by decide) ?_
                    refine lv_aload_n hx hb dX14_callOf_210 rfl (lv_at hl 6 rfl) ?_
                    refine g_getk (C := RX14) (T := TX14) (N := 67) hx hb hts (mc_ inX14) hown hK g rfl 35 (by decide) rfl (hts _ (List.mem_cons_of_mem _ t_2181)) (fun _ h9 => h9) 0 rfl dX14_callOf_211 ?_
                    refine lv_iconst (v := 1) hx hb dX14_callOf_214 (by decide) ?_
                    refine lv_iadd hx hb dX14_callOf_215 ?_
                    refine lv_topi (fun y_597 ey_597 => ?_)
                    have ty_597 := add_bd ey_597 b_596 kb_1 (by decide)
                    have b_598 : bd 1 20 y_597 := add_rg ty_597 b_596 kb_1 (by decide)
                    refine lv_imul hx hb dX14_callOf_216 ?_
                    refine lv_topi (fun y_599 ey_599 => ?_)
                    have ty_599 := cmul_bd ey_599 (c := 3) (by decide) b_598 (by decide)
                    have b_600 : bd 3 60 y_599 := mulc_rg ty_599 b_598 (by decide)
                    refine lv_istore (lv' := [(9, .int y_599), (8, .int 0), (7, .int r_584), (6, .int r_492), (5, .int x_404), (4, .int r_391), (3, .int r_2), (0, .ref a0_), (1, .int x1_), (2, .int x2_)]) hx hb dX14_callOf_217 hl (by decide) rfl (fun ls hl => ?_)
                    refine lv_aload_n hx hb dX14_callOf_219 rfl (lv_at hl 7 rfl) ?_
                    refine g_getr (K := 218) (C := RX14) (T := TX14) (N := 67) hx hb hts (mc_ inX14) hown hK g ma0_ ka0_ (by decide) rfl 41 (by decide) rfl (hts _ (List.mem_cons_of_mem _ t_2187)) (fun _ h9 => h9) rfl dX14_callOf_220 (fun a_601 ma_601 ka_601 g => ?_)
                    refine lv_iload hx hb dX14_callOf_223 (lv_at hl 0 rfl) ?_
                    refine lv_iload hx hb dX14_callOf_225 (lv_at hl 3 rfl) ?_
                    have go_ := g
                    refine g_iast hx hb hK g ma_601 ka_601 (by decide) rfl (in_bd b_600 (by decide)) (bdT r_492) (by decide) dX14_callOf_227 (fun f H locs hM_602 g => ?_)
                    have hG_603 := isV.frame hM_602 go_.2.2.2.1 mq0_ kq0_ (by decide) (by decide) hG_590
                    have hG_604 := RA.frame hM_602 go_.2.2.2.1 ma0_ ka0_ (by decide) (by decide) hG_586
                    refine lv_aload_n hx hb dX14_callOf_228 rfl (lv_at hl 7 rfl) ?_
                    refine g_getk (C := RX14) (T := TX14) (N := 67) hx hb hts (mc_ inX14) hown hK g rfl 41 (by decide) rfl (hts _ (List.mem_cons_of_mem _ t_2187)) (fun _ h9 => h9) 0 rfl dX14_callOf_229 ?_
                    refine lv_iload hx hb dX14_callOf_232 (lv_at hl 0 rfl) ?_
                    refine lv_iconst (v := 1) hx hb dX14_callOf_234 (by decide) ?_
                    refine lv_iadd hx hb dX14_callOf_235 ?_
                    refine lv_topi (fun y_605 ey_605 => ?_)
                    have ty_605 := add_bd ey_605 b_600 kb_1 (by decide)
                    have b_606 : bd 4 61 y_605 := add_rg ty_605 b_600 kb_1 (by decide)
                    refine lv_iload hx hb dX14_callOf_236 (lv_at hl 2 rfl) ?_
                    have go_ := g
                    refine g_iast hx hb hK g ma_601 ka_601 (by decide) rfl (in_bd b_606 (by decide)) (bdT r_584) (by decide) dX14_callOf_238 (fun f H locs hM_607 g => ?_)
                    have hG_608 := isV.frame hM_607 go_.2.2.2.1 mq0_ kq0_ (by decide) (by decide) hG_603
                    have hG_609 := RA.frame hM_607 go_.2.2.2.1 ma0_ ka0_ (by decide) (by decide) hG_604
                    refine lv_aload_n hx hb dX14_callOf_239 rfl (lv_at hl 7 rfl) ?_
                    refine g_getk (C := RX14) (T := TX14) (N := 67) hx hb hts (mc_ inX14) hown hK g rfl 41 (by decide) rfl (hts _ (List.mem_cons_of_mem _ t_2187)) (fun _ h9 => h9) 0 rfl dX14_callOf_240 ?_
                    refine lv_iload hx hb dX14_callOf_243 (lv_at hl 0 rfl) ?_
                    refine lv_iconst (v := 2) hx hb dX14_callOf_245 (by decide) ?_
                    refine lv_iadd hx hb dX14_callOf_246 ?_
                    refine lv_topi (fun y_610 ey_610 => ?_)
                    have ty_610 := add_bd ey_610 b_600 kb_2 (by decide)
                    have b_611 : bd 5 62 y_610 := add_rg ty_610 b_600 kb_2 (by decide)
                    refine lv_iload hx hb dX14_callOf_247 (lv_at hl 1 rfl) ?_
                    have go_ := g
                    refine g_iast hx hb hK g ma_601 ka_601 (by decide) rfl (in_bd b_611 (by decide)) (bd_sub kb_0 (by decide)) (by decide) dX14_callOf_249 (fun f H locs hM_612 g => ?_)
                    have hG_613 := isV.frame hM_612 go_.2.2.2.1 mq0_ kq0_ (by decide) (by decide) hG_608
                    have hG_614 := RA.frame hM_612 go_.2.2.2.1 ma0_ ka0_ (by decide) (by decide) hG_609
                    refine lv_aload_n hx hb dX14_callOf_250 rfl (lv_at hl 7 rfl) ?_
                    refine lv_iload hx hb dX14_callOf_251 (lv_at hl 5 rfl) ?_
                    refine lv_aload_n hx hb dX14_callOf_253 rfl (lv_at hl 7 rfl) ?_
                    refine g_getr (K := 220) (C := RX14) (T := TX14) (N := 67) hx hb hts (mc_ inX14) hown hK g ma0_ ka0_ (by decide) rfl 43 (by decide) rfl (hts _ (List.mem_cons_of_mem _ t_2189)) (fun _ h9 => h9) rfl dX14_callOf_254 (fun a_615 ma_615 ka_615 g => ?_)
                    refine lv_aload_n hx hb dX14_callOf_257 rfl (lv_at hl 7 rfl) ?_
                    refine g_getk (C := RX14) (T := TX14) (N := 67) hx hb hts (mc_ inX14) hown hK g rfl 35 (by decide) rfl (hts _ (List.mem_cons_of_mem _ t_2181)) (fun _ h9 => h9) 2 rfl dX14_callOf_258 ?_
                    refine g_iald hx hb hK g ma_615 ka_615 (by decide) rfl (in_bd b_596 (by decide)) dX14_callOf_261 (fun x_616 bx_616 cx_616 => ?_)
                    have vx_616 := hG_614.self g 0 rfl cx_616
                    have go_ := g
                    refine g_callEi (As := [.int r_391, .int x_616]) (rest := []) ⟨hx, hb, hml, hown, hts⟩ (ih.2.2.2.1 l dC dI L kd tys f H.size g.2.2.2.1 a0_ ma0_ ka0_ r_391 x_616 q0_ mq0_ kq0_ V_ δ_ hW w_ (bd_sub b_596 (by decide)) x_587 h_588 Z_ O_ hG_613 hG_614 h_395 bx_616 hm_400.1 (by rw [vx_616]; exact hz_401) (by have hN9 := hN; have bw9 := bw; unfold bd at bw9; have h1_ := EV.hi hW hE; omega) (g.fcts [11, 2, 3] rfl)) (cwV 2 hts (gV_ t_2663 t_2665 t_153 t_198 t_2666) rfl rfl rfl (by decide +kernel) ⟨(show N + 5 + 1 ≤ N + 1 + 5 by omega), (show 8 + (4 + 11) + (40 * N + 300) ≤ 40 * (N + 1) + 300 by omega)⟩) (pre3V g hK ma0_ ka0_ (by decide) (q := (RX14, TX14, 67)) rfl) rfl hl.1 rfl (lv_room (Nat.le_of_ble_eq_true rfl)) dX14_callOf_262 ⟨(Nat.le_of_ble_eq_true rfl), (Nat.le_of_ble_eq_true rfl)⟩ g hK (by decide) (by decide) (fx' := [(14, 43, a0_, .ref a_615), (14, 41, a0_, .ref a_601), (12, 53, q0_, .ref a_488), (12, 52, q0_, .ref a_403), (12, 56, q0_, .ref a_389), (12, 55, q0_, .ref a_387), (12, 54, q0_, .ref a_383), (12, 3, q0_, .ref a_382), (12, 47, q0_, .ref a_9), (14, 1, a0_, .ref q0_)]) rfl (fun xr_617 fr_617 H locs mxr_617 kxr_617 hp hMr_617 g => ?_) (fun r_617 fr_617 H locs hp hMr_617 g => ?_)
                    · have hG_618 := isV.frame hMr_617 go_.2.2.2.1 mq0_ kq0_ (by decide) (by decide) hG_613
                      subst hQ
                      exact WX.leaves hempty hlocks (fun t ht hW => g_thrE g hK mxr_617 kxr_617 trivial ht hW) g.2.2.1.2.2
                    · obtain ⟨hG_619, x_620, ⟨h_621, rh_621⟩, hF_622⟩ := hp
                      have hG_623 := isV.frame hMr_617 go_.2.2.2.1 mq0_ kq0_ (by decide) (by decide) hG_613
                      have g := g.more hF_622
                      subst hQ
                      exact W.thenQ (W.iret (v := r_617) hx hb hr (fun t ht hW => g_retE g hK ⟨_, rfl, ⟨hG_619, x_620, ⟨h_621, (by have h9_0 := b_8; unfold bd at h9_0; have h9_1 := h_395; unfold bd at h9_1; have h9_2 := bs; unfold bd at h9_2; have h9_3 := b_596; unfold bd at h9_3; have h9_4 := b_1; unfold bd at h9_4; have h9_5 := b_594; unfold bd at h9_5; have h9_6 := b_381; unfold bd at h9_6; have h9_7 := bx_384; unfold bd at h9_7; have h9_8 := b_386; unfold bd at h9_8; have h9_9 := b_592; unfold bd at h9_9; have h9_10 := h_496; unfold bd at h9_10; have h9_11 := h_588; unfold bd at h9_11; have h9_12 := bx_616; unfold bd at h9_12; have h9_13 := h_621; unfold bd at h9_13; have h9_14 := b_490; unfold bd at h9_14; have h9_15 := b_582; unfold bd at h9_15; have h9_16 := b_598; unfold bd at h9_16; have h9_17 := b_600; unfold bd at h9_17; have h9_18 := b_606; unfold bd at h9_18; have h9_19 := b_611; unfold bd at h9_19; have h8_0 := kb_0; unfold bd at h8_0; have h8_1 := kb_1; unfold bd at h8_1; have h8_2 := kb_2; unfold bd at h8_2; have h8_3 := kb_20; unfold bd at h8_3; have h8_4 := kb_9; unfold bd at h8_4; omega)⟩, (g.fcts [0, 1] rfl)⟩⟩ ht hW) g.2.2.1.2.2 dX14_callOf_265) (fun _ => MQ.toE)
                  · have fc_595 := eq_f c_595
                    have b_624 : bd 20 20 w_ := eqX fc_595 bw kb_20 (by decide)
                    refine lv_aload_n hx hb dX14_callOf_204 rfl (lv_at hl 6 rfl) ?_
                    refine lv_iconst (v := 2) hx hb dX14_callOf_205 (by decide) ?_
                    have go_ := g
                    refine g_callEv (As := [.int 2]) (rest := []) ⟨hx, hb, hml, hown, hts⟩ (r_X14_ends l dC dI L kd tys fr_584 H.size g.2.2.2.1 a0_ ma0_ ka0_ 2) (cwV 1 hts (gV_ t_2651 t_2653 t_150 t_198 t_2654) rfl rfl rfl (by decide +kernel) ⟨(show 0 + 1 ≤ N + 1 + 5 by omega), (show 8 + (2 + 11) + 0 ≤ 40 * (N + 1) + 300 by omega)⟩) (pre3V g hK ma0_ ka0_ (by decide) (q := (RX14, TX14, 67)) rfl) rfl hl.1 rfl (lv_room (Nat.le_of_ble_eq_true rfl)) dX14_callOf_206 ⟨(Nat.le_of_ble_eq_true rfl), (Nat.le_of_ble_eq_true rfl)⟩ g hK (by decide) (by decide) (fx' := [(14, 35, a0_, .int w_), (14, 34, a0_, .int x_587), (12, 53, q0_, .ref a_488), (12, 52, q0_, .ref a_403), (12, 56, q0_, .ref a_389), (12, 55, q0_, .ref a_387), (12, 54, q0_, .ref a_383), (12, 3, q0_, .ref a_382), (12, 47, q0_, .ref a_9), (14, 1, a0_, .ref q0_)]) rfl (fun xr_625 fr_625 H locs mxr_625 kxr_625 hp hMr_625 g => ?_) (fun fr_625 H locs hp hMr_625 g => ?_)
                    · have hG_626 := isV.frame hMr_625 go_.2.2.2.1 mq0_ kq0_ (by decide) (by decide) hG_590
                      have hG_627 := RA.frame hMr_625 go_.2.2.2.1 ma0_ ka0_ (by decide) (by decide) hG_586
                      subst hQ
                      exact WX.leaves hempty hlocks (fun t ht hW => g_thrE g hK mxr_625 kxr_625 trivial ht hW) g.2.2.1.2.2
                    · exact hp.elim
                · have fc_593 := neq_f c_593
                  refine lv_aload_n hx hb dX14_callOf_191 rfl (lv_at hl 6 rfl) ?_
                  have go_ := g
                  refine g_callEv (As := []) (rest := []) ⟨hx, hb, hml, hown, hts⟩ (r_X14_stepN l dC dI L kd tys fr_584 H.size g.2.2.2.1 a0_ ma0_ ka0_ x_587 h_588 (g.fcts [1] rfl)) (cwV 0 hts (gV_ t_2659 t_2661 t_152 t_198 t_2662) rfl rfl rfl (by decide +kernel) ⟨(show 1 + 1 ≤ N + 1 + 5 by omega), (show 8 + (1 + 11) + 21 ≤ 40 * (N + 1) + 300 by omega)⟩) (pre3V g hK ma0_ ka0_ (by decide) (q := (RX14, TX14, 67)) rfl) rfl hl.1 rfl (lv_room (Nat.le_of_ble_eq_true rfl)) dX14_callOf_192 ⟨(Nat.le_of_ble_eq_true rfl), (Nat.le_of_ble_eq_true rfl)⟩ g hK (by decide) (by decide) (fx' := [(14, 35, a0_, .int w_), (12, 53, q0_, .ref a_488), (12, 52, q0_, .ref a_403), (12, 56, q0_, .ref a_389), (12, 55, q0_, .ref a_387), (12, 54, q0_, .ref a_383), (12, 3, q0_, .ref a_382), (12, 47, q0_, .ref a_9), (14, 1, a0_, .ref q0_)]) rfl (fun xr_628 fr_628 H locs mxr_628 kxr_628 hp hMr_628 g => ?_) (fun fr_628 H locs hp hMr_628 g => ?_)
                  · have hG_629 := isV.frame hMr_628 go_.2.2.2.1 mq0_ kq0_ (by decide) (by decide) hG_590
                    have hG_630 := RA.frame hMr_628 go_.2.2.2.1 ma0_ ka0_ (by decide) (by decide) hG_586
                    subst hQ
                    exact WX.leaves hempty hlocks (fun t ht hW => g_thrE g hK mxr_628 kxr_628 trivial ht hW) g.2.2.1.2.2
                  · obtain ⟨x_631, ⟨h_632, rh_632⟩, hF_633⟩ := hp
                    have hG_634 := isV.frame hMr_628 go_.2.2.2.1 mq0_ kq0_ (by decide) (by decide) hG_590
                    have hG_635 := RA.frame hMr_628 go_.2.2.2.1 ma0_ ka0_ (by decide) (by decide) hG_586
                    have g := g.more hF_633
                    refine lv_aload_n hx hb dX14_callOf_195 rfl (lv_at hl 6 rfl) ?_
                    refine g_getk (C := RX14) (T := TX14) (N := 67) hx hb hts (mc_ inX14) hown hK g rfl 35 (by decide) rfl (hts _ (List.mem_cons_of_mem _ t_2181)) (fun _ h9 => h9) 1 rfl dX14_callOf_196 ?_
                    refine lv_bipush (v := 20) hx hb dX14_callOf_199 (by decide) ?_
                    have kb_20 : bd 20 20 (20 : Int32) := ⟨by decide, by decide⟩
                    refine lv_icmp_ne (tgt := 209) hx hb dX14_callOf_201 (by decide) (fun c_636 => ?_) (fun c_636 => ?_)
                    · have fc_636 := neq_f c_636
                      have b_637 : bd 0 19 w_ := neX fc_636 bw kb_20 (by decide)
                      refine lv_iconst (v := 3) hx hb dX14_callOf_209 (by decide) ?_
                      refine lv_aload_n hx hb dX14_callOf_210 rfl (lv_at hl 6 rfl) ?_
                      refine g_getk (C := RX14) (T := TX14) (N := 67) hx hb hts (mc_ inX14) hown hK g rfl 35 (by decide) rfl (hts _ (List.mem_cons_of_mem _ t_2181)) (fun _ h9 => h9) 1 rfl dX14_callOf_211 ?_
                      refine lv_iconst (v := 1) hx hb dX14_callOf_214 (by decide) ?_
                      refine lv_iadd hx hb dX14_callOf_215 ?_
                      refine lv_topi (fun y_638 ey_638 => ?_)
                      have ty_638 := add_bd ey_638 b_637 kb_1 (by decide)
                      have b_639 : bd 1 20 y_638 := add_rg ty_638 b_637 kb_1 (by decide)
                      refine lv_imul hx hb dX14_callOf_216 ?_
                      refine lv_topi (fun y_640 ey_640 => ?_)
                      have ty_640 := cmul_bd ey_640 (c := 3) (by decide) b_639 (by decide)
                      have b_641 : bd 3 60 y_640 := mulc_rg ty_640 b_639 (by decide)
                      refine lv_istore (lv' := [(9, .int y_640), (8, .int 0), (7, .int r_584), (6, .int r_492), (5, .int x_404), (4, .int r_391), (3, .int r_2), (0, .ref a0_), (1, .int x1_), (2, .int x2_)]) hx hb dX14_callOf_217 hl (by decide) rfl (fun ls hl => ?_)
                      refine lv_aload_n hx hb dX14_callOf_219 rfl (lv_at hl 7 rfl) ?_
                      refine g_getr (K := 218) (C := RX14) (T := TX14) (N := 67) hx hb hts (mc_ inX14) hown hK g ma0_ ka0_ (by decide) rfl 41 (by decide) rfl (hts _ (List.mem_cons_of_mem _ t_2187)) (fun _ h9 => h9) rfl dX14_callOf_220 (fun a_642 ma_642 ka_642 g => ?_)
                      refine lv_iload hx hb dX14_callOf_223 (lv_at hl 0 rfl) ?_
                      refine lv_iload hx hb dX14_callOf_225 (lv_at hl 3 rfl) ?_
                      have go_ := g
                      refine g_iast hx hb hK g ma_642 ka_642 (by decide) rfl (in_bd b_641 (by decide)) (bdT r_492) (by decide) dX14_callOf_227 (fun f H locs hM_643 g => ?_)
                      have hG_644 := isV.frame hM_643 go_.2.2.2.1 mq0_ kq0_ (by decide) (by decide) hG_634
                      have hG_645 := RA.frame hM_643 go_.2.2.2.1 ma0_ ka0_ (by decide) (by decide) hG_635
                      refine lv_aload_n hx hb dX14_callOf_228 rfl (lv_at hl 7 rfl) ?_
                      refine g_getk (C := RX14) (T := TX14) (N := 67) hx hb hts (mc_ inX14) hown hK g rfl 41 (by decide) rfl (hts _ (List.mem_cons_of_mem _ t_2187)) (fun _ h9 => h9) 0 rfl dX14_callOf_229 ?_
                      refine lv_iload hx hb dX14_callOf_232 (lv_at hl 0 rfl) ?_
                      refine lv_iconst (v := 1) hx hb dX14_callOf_234 (by decide) ?_
                      refine lv_iadd hx hb dX14_callOf_235 ?_
                      refine lv_topi (fun y_646 ey_646 => ?_)
                      have ty_646 := add_bd ey_646 b_641 kb_1 (by decide)
                      have b_647 : bd 4 61 y_646 := add_rg ty_646 b_641 kb_1 (by decide)
                      refine lv_iload hx hb dX14_callOf_236 (lv_at hl 2 rfl) ?_
                      have go_ := g
                      refine g_iast hx hb hK g ma_642 ka_642 (by decide) rfl (in_bd b_647 (by decide)) (bdT r_584) (by decide) dX14_callOf_238 (fun f H locs hM_648 g => ?_)
                      have hG_649 := isV.frame hM_648 go_.2.2.2.1 mq0_ kq0_ (by decide) (by decide) hG_644
                      have hG_650 := RA.frame hM_648 go_.2.2.2.1 ma0_ ka0_ (by decide) (by decide) hG_645
                      refine lv_aload_n hx hb dX14_callOf_239 rfl (lv_at hl 7 rfl) ?_
                      refine g_getk (C := RX14) (T := TX14) (N := 67) hx hb hts (mc_ inX14) hown hK g rfl 41 (by decide) rfl (hts _ (List.mem_cons_of_mem _ t_2187)) (fun _ h9 => h9) 0 rfl dX14_callOf_240 ?_
                      refine lv_iload hx hb dX14_callOf_243 (lv_at hl 0 rfl) ?_
                      refine lv_iconst (v := 2) hx hb dX14_callOf_245 (by decide) ?_
                      refine lv_iadd hx hb dX14_callOf_246 ?_
                      refine lv_topi (fun y_651 ey_651 => ?_)
                      have ty_651 := add_bd ey_651 b_641 kb_2 (by decide)
                      have b_652 : bd 5 62 y_651 := add_rg ty_651 b_641 kb_2 (by decide)
                      refine lv_iload hx hb dX14_callOf_247 (lv_at hl 1 rfl) ?_
                      have go_ := g
                      refine g_iast hx hb hK g ma_642 ka_642 (by decide) rfl (in_bd b_652 (by decide)) (bd_sub kb_0 (by decide)) (by decide) dX14_callOf_249 (fun f H locs hM_653 g => ?_)
                      have hG_654 := isV.frame hM_653 go_.2.2.2.1 mq0_ kq0_ (by decide) (by decide) hG_649
                      have hG_655 := RA.frame hM_653 go_.2.2.2.1 ma0_ ka0_ (by decide) (by decide) hG_650
                      refine lv_aload_n hx hb dX14_callOf_250 rfl (lv_at hl 7 rfl) ?_
                      refine lv_iload hx hb dX14_callOf_251 (lv_at hl 5 rfl) ?_
                      refine lv_aload_n hx hb dX14_callOf_253 rfl (lv_at hl 7 rfl) ?_
                      refine g_getr (K := 220) (C := RX14) (T := TX14) (N := 67) hx hb hts (mc_ inX14) hown hK g ma0_ ka0_ (by decide) rfl 43 (by decide) rfl (hts _ (List.mem_cons_of_mem _ t_2189)) (fun _ h9 => h9) rfl dX14_callOf_254 (fun a_656 ma_656 ka_656 g => ?_)
                      refine lv_aload_n hx hb dX14_callOf_257 rfl (lv_at hl 7 rfl) ?_
                      refine g_getk (C := RX14) (T := TX14) (N := 67) hx hb hts (mc_ inX14) hown hK g rfl 35 (by decide) rfl (hts _ (List.mem_cons_of_mem _ t_2181)) (fun _ h9 => h9) 3 rfl dX14_callOf_258 ?_
                      refine g_iald hx hb hK g ma_656 ka_656 (by decide) rfl (in_bd b_637 (by decide)) dX14_callOf_261 (fun x_657 bx_657 cx_657 => ?_)
                      have vx_657 := hG_655.self g 0 rfl cx_657
                      have go_ := g
                      refine g_callEi (As := [.int r_391, .int x_657]) (rest := []) ⟨hx, hb, hml, hown, hts⟩ (ih.2.2.2.1 l dC dI L kd tys f H.size g.2.2.2.1 a0_ ma0_ ka0_ r_391 x_657 q0_ mq0_ kq0_ V_ δ_ hW w_ (bd_sub b_637 (by decide)) x_631 (bd_sub h_632 (by decide)) Z_ O_ hG_654 hG_655 h_395 bx_657 hm_400.1 (by rw [vx_657]; exact hz_401) (by have hN9 := hN; have bw9 := bw; unfold bd at bw9; have h1_ := EV.hi hW hE; omega) (g.fcts [11, 3, 2] rfl)) (cwV 2 hts (gV_ t_2663 t_2665 t_153 t_198 t_2666) rfl rfl rfl (by decide +kernel) ⟨(show N + 5 + 1 ≤ N + 1 + 5 by omega), (show 8 + (4 + 11) + (40 * N + 300) ≤ 40 * (N + 1) + 300 by omega)⟩) (pre3V g hK ma0_ ka0_ (by decide) (q := (RX14, TX14, 67)) rfl) rfl hl.1 rfl (lv_room (Nat.le_of_ble_eq_true rfl)) dX14_callOf_262 ⟨(Nat.le_of_ble_eq_true rfl), (Nat.le_of_ble_eq_true rfl)⟩ g hK (by decide) (by decide) (fx' := [(14, 43, a0_, .ref a_656), (14, 41, a0_, .ref a_642), (12, 53, q0_, .ref a_488), (12, 52, q0_, .ref a_403), (12, 56, q0_, .ref a_389), (12, 55, q0_, .ref a_387), (12, 54, q0_, .ref a_383), (12, 3, q0_, .ref a_382), (12, 47, q0_, .ref a_9), (14, 1, a0_, .ref q0_)]) rfl (fun xr_658 fr_658 H locs mxr_658 kxr_658 hp hMr_658 g => ?_) (fun r_658 fr_658 H locs hp hMr_658 g => ?_)
                      · have hG_659 := isV.frame hMr_658 go_.2.2.2.1 mq0_ kq0_ (by decide) (by decide) hG_654
                        subst hQ
                        exact WX.leaves hempty hlocks (fun t ht hW => g_thrE g hK mxr_658 kxr_658 trivial ht hW) g.2.2.1.2.2
                      · obtain ⟨hG_660, x_661, ⟨h_662, rh_662⟩, hF_663⟩ := hp
                        have hG_664 := isV.frame hMr_658 go_.2.2.2.1 mq0_ kq0_ (by decide) (by decide) hG_654
                        have g := g.more hF_663
                        subst hQ
                        exact W.thenQ (W.iret (v := r_658) hx hb hr (fun t ht hW => g_retE g hK ⟨_, rfl, ⟨hG_660, x_661, ⟨h_662, (by have h9_0 := b_8; unfold bd at h9_0; have h9_1 := h_395; unfold bd at h9_1; have h9_2 := bs; unfold bd at h9_2; have h9_3 := b_637; unfold bd at h9_3; have h9_4 := b_1; unfold bd at h9_4; have h9_5 := b_381; unfold bd at h9_5; have h9_6 := bx_384; unfold bd at h9_6; have h9_7 := b_386; unfold bd at h9_7; have h9_8 := b_592; unfold bd at h9_8; have h9_9 := h_496; unfold bd at h9_9; have h9_10 := h_588; unfold bd at h9_10; have h9_11 := h_632; unfold bd at h9_11; have h9_12 := bx_657; unfold bd at h9_12; have h9_13 := h_662; unfold bd at h9_13; have h9_14 := b_490; unfold bd at h9_14; have h9_15 := b_582; unfold bd at h9_15; have h9_16 := b_639; unfold bd at h9_16; have h9_17 := b_641; unfold bd at h9_17; have h9_18 := b_647; unfold bd at h9_18; have h9_19 := b_652; unfold bd at h9_19; have h8_0 := kb_0; unfold bd at h8_0; have h8_1 := kb_1; unfold bd at h8_1; have h8_2 := kb_2; unfold bd at h8_2; have h8_3 := kb_20; unfold bd at h8_3; have h8_4 := kb_9; unfold bd at h8_4; omega)⟩, (g.fcts [0, 1] rfl)⟩⟩ ht hW) g.2.2.1.2.2 dX14_callOf_265) (fun _ => MQ.toE)
                    · have fc_636 := eq_f c_636
                      have b_665 : bd 20 20 w_ := eqX fc_636 bw kb_20 (by decide)
                      refine lv_aload_n hx hb dX14_callOf_204 rfl (lv_at hl 6 rfl) ?_
                      refine lv_iconst (v := 2) hx hb dX14_callOf_205 (by decide) ?_
                      have go_ := g
                      refine g_callEv (As := [.int 2]) (rest := []) ⟨hx, hb, hml, hown, hts⟩ (r_X14_ends l dC dI L kd tys fr_628 H.size g.2.2.2.1 a0_ ma0_ ka0_ 2) (cwV 1 hts (gV_ t_2651 t_2653 t_150 t_198 t_2654) rfl rfl rfl (by decide +kernel) ⟨(show 0 + 1 ≤ N + 1 + 5 by omega), (show 8 + (2 + 11) + 0 ≤ 40 * (N + 1) + 300 by omega)⟩) (pre3V g hK ma0_ ka0_ (by decide) (q := (RX14, TX14, 67)) rfl) rfl hl.1 rfl (lv_room (Nat.le_of_ble_eq_true rfl)) dX14_callOf_206 ⟨(Nat.le_of_ble_eq_true rfl), (Nat.le_of_ble_eq_true rfl)⟩ g hK (by decide) (by decide) (fx' := [(14, 34, a0_, .int x_631), (14, 35, a0_, .int w_), (12, 53, q0_, .ref a_488), (12, 52, q0_, .ref a_403), (12, 56, q0_, .ref a_389), (12, 55, q0_, .ref a_387), (12, 54, q0_, .ref a_383), (12, 3, q0_, .ref a_382), (12, 47, q0_, .ref a_9), (14, 1, a0_, .ref q0_)]) rfl (fun xr_666 fr_666 H locs mxr_666 kxr_666 hp hMr_666 g => ?_) (fun fr_666 H locs hp hMr_666 g => ?_)
                      · have hG_667 := isV.frame hMr_666 go_.2.2.2.1 mq0_ kq0_ (by decide) (by decide) hG_634
                        have hG_668 := RA.frame hMr_666 go_.2.2.2.1 ma0_ ka0_ (by decide) (by decide) hG_635
                        subst hQ
                        exact WX.leaves hempty hlocks (fun t ht hW => g_thrE g hK mxr_666 kxr_666 trivial ht hW) g.2.2.1.2.2
                      · exact hp.elim
              · have fc_591 := nle_f c_591
                have b_669 : bd 3 3 x_404 := ltR fc_591 kb_2 b_579 (by decide)
                refine lv_aload_n hx hb dX14_callOf_164 rfl (lv_at hl 5 rfl) ?_
                refine lv_aload_n hx hb dX14_callOf_165 rfl (lv_at hl 5 rfl) ?_
                refine g_getk (C := RX14) (T := TX14) (N := 67) hx hb hts (mc_ inX14) hown hK g rfl 1 (by decide) rfl (hts _ (List.mem_cons_of_mem _ t_2147)) (fun _ h9 => h9) 9 rfl dX14_callOf_166 ?_
                refine g_getk (C := RX12) (T := TX12) (N := 60) hx hb hts (mc_ inX12) hown hK g rfl 53 (by decide) rfl (hts _ (List.mem_cons_of_mem _ t_2010)) (fun _ h9 => h9) 2 rfl dX14_callOf_169 ?_
                refine lv_iconst (v := 3) hx hb dX14_callOf_172 (by decide) ?_
                refine lv_iload_n hx hb dX14_callOf_173 rfl (lv_at hl 6 rfl) ?_
                refine lv_imul hx hb dX14_callOf_174 ?_
                refine lv_topi (fun y_670 ey_670 => ?_)
                obtain rfl : y_489 = y_670 := ey_489.trans ey_670.symm
                refine lv_iconst (v := 2) hx hb dX14_callOf_175 (by decide) ?_
                refine lv_iadd hx hb dX14_callOf_176 ?_
                refine lv_topi (fun y_671 ey_671 => ?_)
                have ty_671 := add_bd ey_671 b_490 kb_2 (by decide)
                have b_672 : bd 2 7499 y_671 := add_rg ty_671 b_490 kb_2 (by decide)
                refine g_iald hx hb hK g ma_488 ka_488 (by decide) rfl (in_bd b_672 (by decide)) dX14_callOf_177 (fun x_673 bx_673 cx_673 => ?_)
                have vx_673 : x_673 = V_.i 53 y_671.toNatClampNeg := hG_590.at g 2 rfl rfl cx_673
                have go_ := g
                refine g_callEi (As := [.int x_673]) (rest := []) ⟨hx, hb, hml, hown, hts⟩ (ih.1 l dC dI L kd tys fr_584 H.size g.2.2.2.1 a0_ ma0_ ka0_ x_673 q0_ mq0_ kq0_ V_ δ_ hW w_ bw x_587 h_588 Z_ O_ hG_590 hG_586 d_ hcl (h_ - 1) (ev_a hW hE hC (k := 2) vx_404 (by have h9_0 := b_8; unfold bd at h9_0; have h9_1 := h_395; unfold bd at h9_1; have h9_2 := bs; unfold bd at h9_2; have h9_3 := bw; unfold bd at h9_3; have h9_4 := b_1; unfold bd at h9_4; have h9_5 := b_381; unfold bd at h9_5; have h9_6 := bx_384; unfold bd at h9_6; have h9_7 := b_386; unfold bd at h9_7; have h9_8 := b_669; unfold bd at h9_8; have h9_9 := h_496; unfold bd at h9_9; have h9_10 := h_588; unfold bd at h9_10; have h9_11 := b_490; unfold bd at h9_11; have h9_12 := b_582; unfold bd at h9_12; have h9_13 := b_672; unfold bd at h9_13; have h8_0 := kb_0; unfold bd at h8_0; have h8_1 := kb_1; unfold bd at h8_1; have h8_2 := kb_2; unfold bd at h8_2; have h8_3 := kb_9; unfold bd at h8_3; have h7 := kb_2; unfold bd at h7; omega) (by decide) (by have h9_0 := b_8; unfold bd at h9_0; have h9_1 := h_395; unfold bd at h9_1; have h9_2 := bs; unfold bd at h9_2; have h9_3 := bw; unfold bd at h9_3; have h9_4 := b_1; unfold bd at h9_4; have h9_5 := b_381; unfold bd at h9_5; have h9_6 := bx_384; unfold bd at h9_6; have h9_7 := b_386; unfold bd at h9_7; have h9_8 := b_669; unfold bd at h9_8; have h9_9 := h_496; unfold bd at h9_9; have h9_10 := h_588; unfold bd at h9_10; have h9_11 := b_490; unfold bd at h9_11; have h9_12 := b_582; unfold bd at h9_12; have h9_13 := b_672; unfold bd at h9_13; have h8_0 := kb_0; unfold bd at h8_0; have h8_1 := kb_1; unfold bd at h8_1; have h8_2 := kb_2; unfold bd at h8_2; have h8_3 := kb_9; unfold bd at h8_3; have h7 := kb_2; unfold bd at h7; omega) vx_673) (by have hN9 := hN; have bw9 := bw; unfold bd at bw9; have h1_ := EV.hi hW hE; omega) (g.fcts [9, 0, 1] rfl)) (cwV 1 hts (gV_ t_2634 t_2636 t_146 t_198 t_2637) rfl rfl rfl (by decide +kernel) ⟨(show N + 5 + 1 ≤ N + 1 + 5 by omega), (show 8 + (5 + 11) + (40 * N + 300) ≤ 40 * (N + 1) + 300 by omega)⟩) (pre3V g hK ma0_ ka0_ (by decide) (q := (RX14, TX14, 67)) rfl) rfl hl.1 rfl (lv_room (Nat.le_of_ble_eq_true rfl)) dX14_callOf_178 ⟨(Nat.le_of_ble_eq_true rfl), (Nat.le_of_ble_eq_true rfl)⟩ g hK (by decide) (by decide) (fx' := [(12, 53, q0_, .ref a_488), (12, 52, q0_, .ref a_403), (12, 56, q0_, .ref a_389), (12, 55, q0_, .ref a_387), (12, 54, q0_, .ref a_383), (12, 3, q0_, .ref a_382), (12, 47, q0_, .ref a_9), (14, 1, a0_, .ref q0_)]) rfl (fun xr_674 fr_674 H locs mxr_674 kxr_674 hp hMr_674 g => ?_) (fun r_674 fr_674 H locs hp hMr_674 g => ?_)
                · have hG_675 := isV.frame hMr_674 go_.2.2.2.1 mq0_ kq0_ (by decide) (by decide) hG_590
                  subst hQ
                  exact WX.leaves hempty hlocks (fun t ht hW => g_thrE g hK mxr_674 kxr_674 trivial ht hW) g.2.2.1.2.2
                · obtain ⟨hG_676, x_677, ⟨h_678, rh_678⟩, hF_679⟩ := hp
                  have hG_680 := isV.frame hMr_674 go_.2.2.2.1 mq0_ kq0_ (by decide) (by decide) hG_590
                  have g := g.more hF_679
                  refine lv_goto (tgt := 185) hx hb dX14_callOf_181 (by decide) ?_
                  refine lv_istore (lv' := [(8, .int r_674), (7, .int r_584), (6, .int r_492), (5, .int x_404), (4, .int r_391), (3, .int r_2), (0, .ref a0_), (1, .int x1_), (2, .int x2_)]) hx hb dX14_callOf_185 hl (by decide) rfl (fun ls hl => ?_)
                  refine lv_iload_n hx hb dX14_callOf_187 rfl (lv_at hl 8 rfl) ?_
                  refine lv_if_eq (tgt := 195) hx hb dX14_callOf_188 (by decide) (fun c_681 => ?_) (fun c_681 => ?_)
                  · have fc_681 := eq_f c_681
                    have b_682 : bd 0 0 x2_ := eqX fc_681 (bdT x2_) kb_0 (by decide)
                    refine lv_aload_n hx hb dX14_callOf_195 rfl (lv_at hl 6 rfl) ?_
                    refine g_getk (C := RX14) (T := TX14) (N := 67) hx hb hts (mc_ inX14) hown hK g rfl 35 (by decide) rfl (hts _ (List.mem_cons_of_mem _ t_2181)) (fun _ h9 => h9) 0 rfl dX14_callOf_196 ?_
                    refine lv_bipush (v := 20) hx hb dX14_callOf_199 (by decide) ?_
                    have kb_20 : bd 20 20 (20 : Int32) := ⟨by decide, by decide⟩
                    refine lv_icmp_ne (tgt := 209) hx hb dX14_callOf_201 (by decide) (fun c_683 => ?_) (fun c_683 => ?_)
                    · have fc_683 := neq_f c_683
                      have b_684 : bd 0 19 w_ := neX fc_683 bw kb_20 (by decide)
                      refine lv_iconst (v := 3) hx hb dX14_callOf_209 (by decide) ?_
                      refine lv_aload_n hx hb dX14_callOf_210 rfl (lv_at hl 6 rfl) ?_
                      refine g_getk (C := RX14) (T := TX14) (N := 67) hx hb hts (mc_ inX14) hown hK g rfl 35 (by decide) rfl (hts _ (List.mem_cons_of_mem _ t_2181)) (fun _ h9 => h9) 0 rfl dX14_callOf_211 ?_
                      refine lv_iconst (v := 1) hx hb dX14_callOf_214 (by decide) ?_
                      refine lv_iadd hx hb dX14_callOf_215 ?_
                      refine lv_topi (fun y_685 ey_685 => ?_)
                      have ty_685 := add_bd ey_685 b_684 kb_1 (by decide)
                      have b_686 : bd 1 20 y_685 := add_rg ty_685 b_684 kb_1 (by decide)
                      refine lv_imul hx hb dX14_callOf_216 ?_
                      refine lv_topi (fun y_687 ey_687 => ?_)
                      have ty_687 := cmul_bd ey_687 (c := 3) (by decide) b_686 (by decide)
                      have b_688 : bd 3 60 y_687 := mulc_rg ty_687 b_686 (by decide)
                      refine lv_istore (lv' := [(9, .int y_687), (8, .int r_674), (7, .int r_584), (6, .int r_492), (5, .int x_404), (4, .int r_391), (3, .int r_2), (0, .ref a0_), (1, .int x1_), (2, .int x2_)]) hx hb dX14_callOf_217 hl (by decide) rfl (fun ls hl => ?_)
                      refine lv_aload_n hx hb dX14_callOf_219 rfl (lv_at hl 7 rfl) ?_
                      refine g_getr (K := 218) (C := RX14) (T := TX14) (N := 67) hx hb hts (mc_ inX14) hown hK g ma0_ ka0_ (by decide) rfl 41 (by decide) rfl (hts _ (List.mem_cons_of_mem _ t_2187)) (fun _ h9 => h9) rfl dX14_callOf_220 (fun a_689 ma_689 ka_689 g => ?_)
                      refine lv_iload hx hb dX14_callOf_223 (lv_at hl 0 rfl) ?_
                      refine lv_iload hx hb dX14_callOf_225 (lv_at hl 3 rfl) ?_
                      have go_ := g
                      refine g_iast hx hb hK g ma_689 ka_689 (by decide) rfl (in_bd b_688 (by decide)) (bdT r_492) (by decide) dX14_callOf_227 (fun f H locs hM_690 g => ?_)
                      have hG_691 := isV.frame hM_690 go_.2.2.2.1 mq0_ kq0_ (by decide) (by decide) hG_680
                      have hG_692 := RA.frame hM_690 go_.2.2.2.1 ma0_ ka0_ (by decide) (by decide) hG_676
                      refine lv_aload_n hx hb dX14_callOf_228 rfl (lv_at hl 7 rfl) ?_
                      refine g_getk (C := RX14) (T := TX14) (N := 67) hx hb hts (mc_ inX14) hown hK g rfl 41 (by decide) rfl (hts _ (List.mem_cons_of_mem _ t_2187)) (fun _ h9 => h9) 0 rfl dX14_callOf_229 ?_
                      refine lv_iload hx hb dX14_callOf_232 (lv_at hl 0 rfl) ?_
                      refine lv_iconst (v := 1) hx hb dX14_callOf_234 (by decide) ?_
                      refine lv_iadd hx hb dX14_callOf_235 ?_
                      refine lv_topi (fun y_693 ey_693 => ?_)
                      have ty_693 := add_bd ey_693 b_688 kb_1 (by decide)
                      have b_694 : bd 4 61 y_693 := add_rg ty_693 b_688 kb_1 (by decide)
                      refine lv_iload hx hb dX14_callOf_236 (lv_at hl 2 rfl) ?_
                      have go_ := g
                      refine g_iast hx hb hK g ma_689 ka_689 (by decide) rfl (in_bd b_694 (by decide)) (bdT r_584) (by decide) dX14_callOf_238 (fun f H locs hM_695 g => ?_)
                      have hG_696 := isV.frame hM_695 go_.2.2.2.1 mq0_ kq0_ (by decide) (by decide) hG_691
                      have hG_697 := RA.frame hM_695 go_.2.2.2.1 ma0_ ka0_ (by decide) (by decide) hG_692
                      refine lv_aload_n hx hb dX14_callOf_239 rfl (lv_at hl 7 rfl) ?_
                      refine g_getk (C := RX14) (T := TX14) (N := 67) hx hb hts (mc_ inX14) hown hK g rfl 41 (by decide) rfl (hts _ (List.mem_cons_of_mem _ t_2187)) (fun _ h9 => h9) 0 rfl dX14_callOf_240 ?_
                      refine lv_iload hx hb dX14_callOf_243 (lv_at hl 0 rfl) ?_
                      refine lv_iconst (v := 2) hx hb dX14_callOf_245 (by decide) ?_
                      refine lv_iadd hx hb dX14_callOf_246 ?_
                      refine lv_topi (fun y_698 ey_698 => ?_)
                      have ty_698 := add_bd ey_698 b_688 kb_2 (by decide)
                      have b_699 : bd 5 62 y_698 := add_rg ty_698 b_688 kb_2 (by decide)
                      refine lv_iload hx hb dX14_callOf_247 (lv_at hl 1 rfl) ?_
                      have go_ := g
                      refine g_iast hx hb hK g ma_689 ka_689 (by decide) rfl (in_bd b_699 (by decide)) (bdT r_674) (by decide) dX14_callOf_249 (fun f H locs hM_700 g => ?_)
                      have hG_701 := isV.frame hM_700 go_.2.2.2.1 mq0_ kq0_ (by decide) (by decide) hG_696
                      have hG_702 := RA.frame hM_700 go_.2.2.2.1 ma0_ ka0_ (by decide) (by decide) hG_697
                      refine lv_aload_n hx hb dX14_callOf_250 rfl (lv_at hl 7 rfl) ?_
                      refine lv_iload hx hb dX14_callOf_251 (lv_at hl 5 rfl) ?_
                      refine lv_aload_n hx hb dX14_callOf_253 rfl (lv_at hl 7 rfl) ?_
                      refine g_getr (K := 220) (C := RX14) (T := TX14) (N := 67) hx hb hts (mc_ inX14) hown hK g ma0_ ka0_ (by decide) rfl 43 (by decide) rfl (hts _ (List.mem_cons_of_mem _ t_2189)) (fun _ h9 => h9) rfl dX14_callOf_254 (fun a_703 ma_703 ka_703 g => ?_)
                      refine lv_aload_n hx hb dX14_callOf_257 rfl (lv_at hl 7 rfl) ?_
                      refine g_getk (C := RX14) (T := TX14) (N := 67) hx hb hts (mc_ inX14) hown hK g rfl 35 (by decide) rfl (hts _ (List.mem_cons_of_mem _ t_2181)) (fun _ h9 => h9) 2 rfl dX14_callOf_258 ?_
                      refine g_iald hx hb hK g ma_703 ka_703 (by decide) rfl (in_bd b_684 (by decide)) dX14_callOf_261 (fun x_704 bx_704 cx_704 => ?_)
                      have vx_704 := hG_702.self g 0 rfl cx_704
                      have go_ := g
                      refine g_callEi (As := [.int r_391, .int x_704]) (rest := []) ⟨hx, hb, hml, hown, hts⟩ (ih.2.2.2.1 l dC dI L kd tys f H.size g.2.2.2.1 a0_ ma0_ ka0_ r_391 x_704 q0_ mq0_ kq0_ V_ δ_ hW w_ (bd_sub b_684 (by decide)) x_677 h_678 Z_ O_ hG_701 hG_702 h_395 bx_704 hm_400.1 (by rw [vx_704]; exact hz_401) (by have hN9 := hN; have bw9 := bw; unfold bd at bw9; have h1_ := EV.hi hW hE; omega) (g.fcts [11, 2, 3] rfl)) (cwV 2 hts (gV_ t_2663 t_2665 t_153 t_198 t_2666) rfl rfl rfl (by decide +kernel) ⟨(show N + 5 + 1 ≤ N + 1 + 5 by omega), (show 8 + (4 + 11) + (40 * N + 300) ≤ 40 * (N + 1) + 300 by omega)⟩) (pre3V g hK ma0_ ka0_ (by decide) (q := (RX14, TX14, 67)) rfl) rfl hl.1 rfl (lv_room (Nat.le_of_ble_eq_true rfl)) dX14_callOf_262 ⟨(Nat.le_of_ble_eq_true rfl), (Nat.le_of_ble_eq_true rfl)⟩ g hK (by decide) (by decide) (fx' := [(14, 43, a0_, .ref a_703), (14, 41, a0_, .ref a_689), (12, 53, q0_, .ref a_488), (12, 52, q0_, .ref a_403), (12, 56, q0_, .ref a_389), (12, 55, q0_, .ref a_387), (12, 54, q0_, .ref a_383), (12, 3, q0_, .ref a_382), (12, 47, q0_, .ref a_9), (14, 1, a0_, .ref q0_)]) rfl (fun xr_705 fr_705 H locs mxr_705 kxr_705 hp hMr_705 g => ?_) (fun r_705 fr_705 H locs hp hMr_705 g => ?_)
                      · have hG_706 := isV.frame hMr_705 go_.2.2.2.1 mq0_ kq0_ (by decide) (by decide) hG_701
                        subst hQ
                        exact WX.leaves hempty hlocks (fun t ht hW => g_thrE g hK mxr_705 kxr_705 trivial ht hW) g.2.2.1.2.2
                      · obtain ⟨hG_707, x_708, ⟨h_709, rh_709⟩, hF_710⟩ := hp
                        have hG_711 := isV.frame hMr_705 go_.2.2.2.1 mq0_ kq0_ (by decide) (by decide) hG_701
                        have g := g.more hF_710
                        subst hQ
                        exact W.thenQ (W.iret (v := r_705) hx hb hr (fun t ht hW => g_retE g hK ⟨_, rfl, ⟨hG_707, x_708, ⟨h_709, (by have h9_0 := b_8; unfold bd at h9_0; have h9_1 := h_395; unfold bd at h9_1; have h9_2 := bs; unfold bd at h9_2; have h9_3 := b_684; unfold bd at h9_3; have h9_4 := b_1; unfold bd at h9_4; have h9_5 := b_682; unfold bd at h9_5; have h9_6 := b_381; unfold bd at h9_6; have h9_7 := bx_384; unfold bd at h9_7; have h9_8 := b_386; unfold bd at h9_8; have h9_9 := b_669; unfold bd at h9_9; have h9_10 := h_496; unfold bd at h9_10; have h9_11 := h_588; unfold bd at h9_11; have h9_12 := h_678; unfold bd at h9_12; have h9_13 := bx_704; unfold bd at h9_13; have h9_14 := h_709; unfold bd at h9_14; have h9_15 := b_490; unfold bd at h9_15; have h9_16 := b_582; unfold bd at h9_16; have h9_17 := b_672; unfold bd at h9_17; have h9_18 := b_686; unfold bd at h9_18; have h9_19 := b_688; unfold bd at h9_19; have h9_20 := b_694; unfold bd at h9_20; have h9_21 := b_699; unfold bd at h9_21; have h8_0 := kb_0; unfold bd at h8_0; have h8_1 := kb_1; unfold bd at h8_1; have h8_2 := kb_2; unfold bd at h8_2; have h8_3 := kb_20; unfold bd at h8_3; have h8_4 := kb_9; unfold bd at h8_4; omega)⟩, (g.fcts [0, 1] rfl)⟩⟩ ht hW) g.2.2.1.2.2 dX14_callOf_265) (fun _ => MQ.toE)
                    · have fc_683 := eq_f c_683
                      have b_712 : bd 20 20 w_ := eqX fc_683 bw kb_20 (by decide)
                      refine lv_aload_n hx hb dX14_callOf_204 rfl (lv_at hl 6 rfl) ?_
                      refine lv_iconst (v := 2) hx hb dX14_callOf_205 (by decide) ?_
                      have go_ := g
                      refine g_callEv (As := [.int 2]) (rest := []) ⟨hx, hb, hml, hown, hts⟩ (r_X14_ends l dC dI L kd tys fr_674 H.size g.2.2.2.1 a0_ ma0_ ka0_ 2) (cwV 1 hts (gV_ t_2651 t_2653 t_150 t_198 t_2654) rfl rfl rfl (by decide +kernel) ⟨(show 0 + 1 ≤ N + 1 + 5 by omega), (show 8 + (2 + 11) + 0 ≤ 40 * (N + 1) + 300 by omega)⟩) (pre3V g hK ma0_ ka0_ (by decide) (q := (RX14, TX14, 67)) rfl) rfl hl.1 rfl (lv_room (Nat.le_of_ble_eq_true rfl)) dX14_callOf_206 ⟨(Nat.le_of_ble_eq_true rfl), (Nat.le_of_ble_eq_true rfl)⟩ g hK (by decide) (by decide) (fx' := [(14, 35, a0_, .int w_), (14, 34, a0_, .int x_677), (12, 53, q0_, .ref a_488), (12, 52, q0_, .ref a_403), (12, 56, q0_, .ref a_389), (12, 55, q0_, .ref a_387), (12, 54, q0_, .ref a_383), (12, 3, q0_, .ref a_382), (12, 47, q0_, .ref a_9), (14, 1, a0_, .ref q0_)]) rfl (fun xr_713 fr_713 H locs mxr_713 kxr_713 hp hMr_713 g => ?_) (fun fr_713 H locs hp hMr_713 g => ?_)
                      · have hG_714 := isV.frame hMr_713 go_.2.2.2.1 mq0_ kq0_ (by decide) (by decide) hG_680
                        have hG_715 := RA.frame hMr_713 go_.2.2.2.1 ma0_ ka0_ (by decide) (by decide) hG_676
                        subst hQ
                        exact WX.leaves hempty hlocks (fun t ht hW => g_thrE g hK mxr_713 kxr_713 trivial ht hW) g.2.2.1.2.2
                      · exact hp.elim
                  · have fc_681 := neq_f c_681
                    refine lv_aload_n hx hb dX14_callOf_191 rfl (lv_at hl 6 rfl) ?_
                    have go_ := g
                    refine g_callEv (As := []) (rest := []) ⟨hx, hb, hml, hown, hts⟩ (r_X14_stepN l dC dI L kd tys fr_674 H.size g.2.2.2.1 a0_ ma0_ ka0_ x_677 h_678 (g.fcts [1] rfl)) (cwV 0 hts (gV_ t_2659 t_2661 t_152 t_198 t_2662) rfl rfl rfl (by decide +kernel) ⟨(show 1 + 1 ≤ N + 1 + 5 by omega), (show 8 + (1 + 11) + 21 ≤ 40 * (N + 1) + 300 by omega)⟩) (pre3V g hK ma0_ ka0_ (by decide) (q := (RX14, TX14, 67)) rfl) rfl hl.1 rfl (lv_room (Nat.le_of_ble_eq_true rfl)) dX14_callOf_192 ⟨(Nat.le_of_ble_eq_true rfl), (Nat.le_of_ble_eq_true rfl)⟩ g hK (by decide) (by decide) (fx' := [(14, 35, a0_, .int w_), (12, 53, q0_, .ref a_488), (12, 52, q0_, .ref a_403), (12, 56, q0_, .ref a_389), (12, 55, q0_, .ref a_387), (12, 54, q0_, .ref a_383), (12, 3, q0_, .ref a_382), (12, 47, q0_, .ref a_9), (14, 1, a0_, .ref q0_)]) rfl (fun xr_716 fr_716 H locs mxr_716 kxr_716 hp hMr_716 g => ?_) (fun fr_716 H locs hp hMr_716 g => ?_)
                    · have hG_717 := isV.frame hMr_716 go_.2.2.2.1 mq0_ kq0_ (by decide) (by decide) hG_680
                      have hG_718 := RA.frame hMr_716 go_.2.2.2.1 ma0_ ka0_ (by decide) (by decide) hG_676
                      subst hQ
                      exact WX.leaves hempty hlocks (fun t ht hW => g_thrE g hK mxr_716 kxr_716 trivial ht hW) g.2.2.1.2.2
                    · obtain ⟨x_719, ⟨h_720, rh_720⟩, hF_721⟩ := hp
                      have hG_722 := isV.frame hMr_716 go_.2.2.2.1 mq0_ kq0_ (by decide) (by decide) hG_680
                      have hG_723 := RA.frame hMr_716 go_.2.2.2.1 ma0_ ka0_ (by decide) (by decide) hG_676
                      have g := g.more hF_721
                      refine lv_aload_n hx hb dX14_callOf_195 rfl (lv_at hl 6 rfl) ?_
                      refine g_getk (C := RX14) (T := TX14) (N := 67) hx hb hts (mc_ inX14) hown hK g rfl 35 (by decide) rfl (hts _ (List.mem_cons_of_mem _ t_2181)) (fun _ h9 => h9) 1 rfl dX14_callOf_196 ?_
                      refine lv_bipush (v := 20) hx hb dX14_callOf_199 (by decide) ?_
                      have kb_20 : bd 20 20 (20 : Int32) := ⟨by decide, by decide⟩
                      refine lv_icmp_ne (tgt := 209) hx hb dX14_callOf_201 (by decide) (fun c_724 => ?_) (fun c_724 => ?_)
                      · have fc_724 := neq_f c_724
                        have b_725 : bd 0 19 w_ := neX fc_724 bw kb_20 (by decide)
                        refine lv_iconst (v := 3) hx hb dX14_callOf_209 (by decide) ?_
                        refine lv_aload_n hx hb dX14_callOf_210 rfl (lv_at hl 6 rfl) ?_
                        refine g_getk (C := RX14) (T := TX14) (N := 67) hx hb hts (mc_ inX14) hown hK g rfl 35 (by decide) rfl (hts _ (List.mem_cons_of_mem _ t_2181)) (fun _ h9 => h9) 1 rfl dX14_callOf_211 ?_
                        refine lv_iconst (v := 1) hx hb dX14_callOf_214 (by decide) ?_
                        refine lv_iadd hx hb dX14_callOf_215 ?_
                        refine lv_topi (fun y_726 ey_726 => ?_)
                        have ty_726 := add_bd ey_726 b_725 kb_1 (by decide)
                        have b_727 : bd 1 20 y_726 := add_rg ty_726 b_725 kb_1 (by decide)
                        refine lv_imul hx hb dX14_callOf_216 ?_
                        refine lv_topi (fun y_728 ey_728 => ?_)
                        have ty_728 := cmul_bd ey_728 (c := 3) (by decide) b_727 (by decide)
                        have b_729 : bd 3 60 y_728 := mulc_rg ty_728 b_727 (by decide)
                        refine lv_istore (lv' := [(9, .int y_728), (8, .int r_674), (7, .int r_584), (6, .int r_492), (5, .int x_404), (4, .int r_391), (3, .int r_2), (0, .ref a0_), (1, .int x1_), (2, .int x2_)]) hx hb dX14_callOf_217 hl (by decide) rfl (fun ls hl => ?_)
                        refine lv_aload_n hx hb dX14_callOf_219 rfl (lv_at hl 7 rfl) ?_
                        refine g_getr (K := 218) (C := RX14) (T := TX14) (N := 67) hx hb hts (mc_ inX14) hown hK g ma0_ ka0_ (by decide) rfl 41 (by decide) rfl (hts _ (List.mem_cons_of_mem _ t_2187)) (fun _ h9 => h9) rfl dX14_callOf_220 (fun a_730 ma_730 ka_730 g => ?_)
                        refine lv_iload hx hb dX14_callOf_223 (lv_at hl 0 rfl) ?_
                        refine lv_iload hx hb dX14_callOf_225 (lv_at hl 3 rfl) ?_
                        have go_ := g
                        refine g_iast hx hb hK g ma_730 ka_730 (by decide) rfl (in_bd b_729 (by decide)) (bdT r_492) (by decide) dX14_callOf_227 (fun f H locs hM_731 g => ?_)
                        have hG_732 := isV.frame hM_731 go_.2.2.2.1 mq0_ kq0_ (by decide) (by decide) hG_722
                        have hG_733 := RA.frame hM_731 go_.2.2.2.1 ma0_ ka0_ (by decide) (by decide) hG_723
                        refine lv_aload_n hx hb dX14_callOf_228 rfl (lv_at hl 7 rfl) ?_
                        refine g_getk (C := RX14) (T := TX14) (N := 67) hx hb hts (mc_ inX14) hown hK g rfl 41 (by decide) rfl (hts _ (List.mem_cons_of_mem _ t_2187)) (fun _ h9 => h9) 0 rfl dX14_callOf_229 ?_
                        refine lv_iload hx hb dX14_callOf_232 (lv_at hl 0 rfl) ?_
                        refine lv_iconst (v := 1) hx hb dX14_callOf_234 (by decide) ?_
                        refine lv_iadd hx hb dX14_callOf_235 ?_
                        refine lv_topi (fun y_734 ey_734 => ?_)
                        have ty_734 := add_bd ey_734 b_729 kb_1 (by decide)
                        have b_735 : bd 4 61 y_734 := add_rg ty_734 b_729 kb_1 (by decide)
                        refine lv_iload hx hb dX14_callOf_236 (lv_at hl 2 rfl) ?_
                        have go_ := g
                        refine g_iast hx hb hK g ma_730 ka_730 (by decide) rfl (in_bd b_735 (by decide)) (bdT r_584) (by decide) dX14_callOf_238 (fun f H locs hM_736 g => ?_)
                        have hG_737 := isV.frame hM_736 go_.2.2.2.1 mq0_ kq0_ (by decide) (by decide) hG_732
                        have hG_738 := RA.frame hM_736 go_.2.2.2.1 ma0_ ka0_ (by decide) (by decide) hG_733
                        refine lv_aload_n hx hb dX14_callOf_239 rfl (lv_at hl 7 rfl) ?_
                        refine g_getk (C := RX14) (T := TX14) (N := 67) hx hb hts (mc_ inX14) hown hK g rfl 41 (by decide) rfl (hts _ (List.mem_cons_of_mem _ t_2187)) (fun _ h9 => h9) 0 rfl dX14_callOf_240 ?_
                        refine lv_iload hx hb dX14_callOf_243 (lv_at hl 0 rfl) ?_
                        refine lv_iconst (v := 2) hx hb dX14_callOf_245 (by decide) ?_
                        refine lv_iadd hx hb dX14_callOf_246 ?_
                        refine lv_topi (fun y_739 ey_739 => ?_)
                        have ty_739 := add_bd ey_739 b_729 kb_2 (by decide)
                        have b_740 : bd 5 62 y_739 := add_rg ty_739 b_729 kb_2 (by decide)
                        refine lv_iload hx hb dX14_callOf_247 (lv_at hl 1 rfl) ?_
                        have go_ := g
                        refine g_iast hx hb hK g ma_730 ka_730 (by decide) rfl (in_bd b_740 (by decide)) (bdT r_674) (by decide) dX14_callOf_249 (fun f H locs hM_741 g => ?_)
                        have hG_742 := isV.frame hM_741 go_.2.2.2.1 mq0_ kq0_ (by decide) (by decide) hG_737
                        have hG_743 := RA.frame hM_741 go_.2.2.2.1 ma0_ ka0_ (by decide) (by decide) hG_738
                        refine lv_aload_n hx hb dX14_callOf_250 rfl (lv_at hl 7 rfl) ?_
                        refine lv_iload hx hb dX14_callOf_251 (lv_at hl 5 rfl) ?_
                        refine lv_aload_n hx hb dX14_callOf_253 rfl (lv_at hl 7 rfl) ?_
                        refine g_getr (K := 220) (C := RX14) (T := TX14) (N := 67) hx hb hts (mc_ inX14) hown hK g ma0_ ka0_ (by decide) rfl 43 (by decide) rfl (hts _ (List.mem_cons_of_mem _ t_2189)) (fun _ h9 => h9) rfl dX14_callOf_254 (fun a_744 ma_744 ka_744 g => ?_)
                        refine lv_aload_n hx hb dX14_callOf_257 rfl (lv_at hl 7 rfl) ?_
                        refine g_getk (C := RX14) (T := TX14) (N := 67) hx hb hts (mc_ inX14) hown hK g rfl 35 (by decide) rfl (hts _ (List.mem_cons_of_mem _ t_2181)) (fun _ h9 => h9) 3 rfl dX14_callOf_258 ?_
                        refine g_iald hx hb hK g ma_744 ka_744 (by decide) rfl (in_bd b_725 (by decide)) dX14_callOf_261 (fun x_745 bx_745 cx_745 => ?_)
                        have vx_745 := hG_743.self g 0 rfl cx_745
                        have go_ := g
                        refine g_callEi (As := [.int r_391, .int x_745]) (rest := []) ⟨hx, hb, hml, hown, hts⟩ (ih.2.2.2.1 l dC dI L kd tys f H.size g.2.2.2.1 a0_ ma0_ ka0_ r_391 x_745 q0_ mq0_ kq0_ V_ δ_ hW w_ (bd_sub b_725 (by decide)) x_719 (bd_sub h_720 (by decide)) Z_ O_ hG_742 hG_743 h_395 bx_745 hm_400.1 (by rw [vx_745]; exact hz_401) (by have hN9 := hN; have bw9 := bw; unfold bd at bw9; have h1_ := EV.hi hW hE; omega) (g.fcts [11, 3, 2] rfl)) (cwV 2 hts (gV_ t_2663 t_2665 t_153 t_198 t_2666) rfl rfl rfl (by decide +kernel) ⟨(show N + 5 + 1 ≤ N + 1 + 5 by omega), (show 8 + (4 + 11) + (40 * N + 300) ≤ 40 * (N + 1) + 300 by omega)⟩) (pre3V g hK ma0_ ka0_ (by decide) (q := (RX14, TX14, 67)) rfl) rfl hl.1 rfl (lv_room (Nat.le_of_ble_eq_true rfl)) dX14_callOf_262 ⟨(Nat.le_of_ble_eq_true rfl), (Nat.le_of_ble_eq_true rfl)⟩ g hK (by decide) (by decide) (fx' := [(14, 43, a0_, .ref a_744), (14, 41, a0_, .ref a_730), (12, 53, q0_, .ref a_488), (12, 52, q0_, .ref a_403), (12, 56, q0_, .ref a_389), (12, 55, q0_, .ref a_387), (12, 54, q0_, .ref a_383), (12, 3, q0_, .ref a_382), (12, 47, q0_, .ref a_9), (14, 1, a0_, .ref q0_)]) rfl (fun xr_746 fr_746 H locs mxr_746 kxr_746 hp hMr_746 g => ?_) (fun r_746 fr_746 H locs hp hMr_746 g => ?_)
                        · have hG_747 := isV.frame hMr_746 go_.2.2.2.1 mq0_ kq0_ (by decide) (by decide) hG_742
                          subst hQ
                          exact WX.leaves hempty hlocks (fun t ht hW => g_thrE g hK mxr_746 kxr_746 trivial ht hW) g.2.2.1.2.2
                        · obtain ⟨hG_748, x_749, ⟨h_750, rh_750⟩, hF_751⟩ := hp
                          have hG_752 := isV.frame hMr_746 go_.2.2.2.1 mq0_ kq0_ (by decide) (by decide) hG_742
                          have g := g.more hF_751
                          subst hQ
                          exact W.thenQ (W.iret (v := r_746) hx hb hr (fun t ht hW => g_retE g hK ⟨_, rfl, ⟨hG_748, x_749, ⟨h_750, (by have h9_0 := b_8; unfold bd at h9_0; have h9_1 := h_395; unfold bd at h9_1; have h9_2 := bs; unfold bd at h9_2; have h9_3 := b_725; unfold bd at h9_3; have h9_4 := b_1; unfold bd at h9_4; have h9_5 := b_381; unfold bd at h9_5; have h9_6 := bx_384; unfold bd at h9_6; have h9_7 := b_386; unfold bd at h9_7; have h9_8 := b_669; unfold bd at h9_8; have h9_9 := h_496; unfold bd at h9_9; have h9_10 := h_588; unfold bd at h9_10; have h9_11 := h_678; unfold bd at h9_11; have h9_12 := h_720; unfold bd at h9_12; have h9_13 := bx_745; unfold bd at h9_13; have h9_14 := h_750; unfold bd at h9_14; have h9_15 := b_490; unfold bd at h9_15; have h9_16 := b_582; unfold bd at h9_16; have h9_17 := b_672; unfold bd at h9_17; have h9_18 := b_727; unfold bd at h9_18; have h9_19 := b_729; unfold bd at h9_19; have h9_20 := b_735; unfold bd at h9_20; have h9_21 := b_740; unfold bd at h9_21; have h8_0 := kb_0; unfold bd at h8_0; have h8_1 := kb_1; unfold bd at h8_1; have h8_2 := kb_2; unfold bd at h8_2; have h8_3 := kb_20; unfold bd at h8_3; have h8_4 := kb_9; unfold bd at h8_4; omega)⟩, (g.fcts [0, 1] rfl)⟩⟩ ht hW) g.2.2.1.2.2 dX14_callOf_265) (fun _ => MQ.toE)
                      · have fc_724 := eq_f c_724
                        have b_753 : bd 20 20 w_ := eqX fc_724 bw kb_20 (by decide)
                        refine lv_aload_n hx hb dX14_callOf_204 rfl (lv_at hl 6 rfl) ?_
                        refine lv_iconst (v := 2) hx hb dX14_callOf_205 (by decide) ?_
                        have go_ := g
                        refine g_callEv (As := [.int 2]) (rest := []) ⟨hx, hb, hml, hown, hts⟩ (r_X14_ends l dC dI L kd tys fr_716 H.size g.2.2.2.1 a0_ ma0_ ka0_ 2) (cwV 1 hts (gV_ t_2651 t_2653 t_150 t_198 t_2654) rfl rfl rfl (by decide +kernel) ⟨(show 0 + 1 ≤ N + 1 + 5 by omega), (show 8 + (2 + 11) + 0 ≤ 40 * (N + 1) + 300 by omega)⟩) (pre3V g hK ma0_ ka0_ (by decide) (q := (RX14, TX14, 67)) rfl) rfl hl.1 rfl (lv_room (Nat.le_of_ble_eq_true rfl)) dX14_callOf_206 ⟨(Nat.le_of_ble_eq_true rfl), (Nat.le_of_ble_eq_true rfl)⟩ g hK (by decide) (by decide) (fx' := [(14, 34, a0_, .int x_719), (14, 35, a0_, .int w_), (12, 53, q0_, .ref a_488), (12, 52, q0_, .ref a_403), (12, 56, q0_, .ref a_389), (12, 55, q0_, .ref a_387), (12, 54, q0_, .ref a_383), (12, 3, q0_, .ref a_382), (12, 47, q0_, .ref a_9), (14, 1, a0_, .ref q0_)]) rfl (fun xr_754 fr_754 H locs mxr_754 kxr_754 hp hMr_754 g => ?_) (fun fr_754 H locs hp hMr_754 g => ?_)
                        · have hG_755 := isV.frame hMr_754 go_.2.2.2.1 mq0_ kq0_ (by decide) (by decide) hG_722
                          have hG_756 := RA.frame hMr_754 go_.2.2.2.1 ma0_ ka0_ (by decide) (by decide) hG_723
                          subst hQ
                          exact WX.leaves hempty hlocks (fun t ht hW => g_thrE g hK mxr_754 kxr_754 trivial ht hW) g.2.2.1.2.2
                        · exact hp.elim
