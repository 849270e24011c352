set_option maxHeartbeats 4000000 in
set_option maxRecDepth 100000 in
theorem r_X14_mayThrow (l : Launch) (dC : Nat → ClassId) (dI : Nat → Nat → Nat) (L : List Nat) (kd : Nat → Nat) (tys : List (ClassId × FieldType)) (f0 : Nat → va_E) (sz : Nat) (hWT : WT L kd tys f0) (adK adV : Nat → Nat) (a0_ : Nat) (ma0_ : a0_ ∈ L) (ka0_ : kd a0_ = 14) (x1_ : Int32) (bx1_ : bd 0 109 x1_) (x2_ : Int32) (bx2_ : bd 0 2 x2_) (x3_ : Int32) (bx3_ : bd 0 9 x3_) (x4_ : Int64) (x5_ : Int64) (q0_ : Nat) (mq0_ : q0_ ∈ L) (kq0_ : kd q0_ = 12) (V_ : PV) (δ_ : Nat → Nat) (hW : wfP V_ δ_) (O_ : Nat → Int32) (hGOa0_ : OA f0 a0_ O_) (hGVq0_ : isV f0 q0_ V_) (ho : okc V_ (O_ x2_.toNatClampNeg)) (hfx : Fs L kd f0 [(14, 1, a0_, .ref q0_)]) : Met l yX14_mayThrow (.code yX14_mayThrow cX14_mayThrow 12 (some .int) :: lw_g) ({ frames := 974, cells := 0, slots := 0, locals := 39032 }) (va_Pc [.ref a0_, .int x1_, .int x2_, .int x3_, .long x4_, .long x5_] (P3A (dC, dI) L tys f0 sz adK adV)) (va_Qi (fun (r : Int32) (f : Nat → va_E) => (bd (-1) 1 r ∧ True)) (Q3 (dC, dI) L kd tys [(14, 31), (14, 32), (14, 33), (14, 34), (14, 35), (14, 36), (14, 37), (14, 39), (14, 40), (14, 45), (14, 55)] [200, 216, 218, 219, 220, 221, 228] f0 sz) (pA L sz)) 0 0 (pA L sz) := by
  refine Met.ofW (cc := cX14_mayThrow) (maxL := 12) (ret := (some .int)) (by decide) rfl ?_
  intro p e s m args below meth c s₁ B hml hv
  obtain ⟨rfl, ⟨hsz, hP, hK, hD0⟩, hAm⟩ := hv
  have hx := B.exec
  have hb := B.bytes
  have hr := B.returns
  have hts := atoms_spec (ws := (.code yX14_mayThrow cX14_mayThrow 12 (some .int) :: lw_g)) B.pre
  have hown : s.vm.findClass RX14 = some m.cls := findClass_of_methodNamed B.named
  have hlocks := B.notSynchronized
  subst hsz
  have g : G3 (dC, dI) L kd tys s f0 [(14, 31), (14, 32), (14, 33), (14, 34), (14, 35), (14, 36), (14, 37), (14, 39), (14, 40), (14, 45), (14, 55)] [200, 216, 218, 219, 220, 221, 228] f0 s.heap [] [(14, 1, a0_, .ref q0_)] := G3.start hP hD0 hWT hfx
  have hl := lv_entry ([.ref a0_, .int x1_, .int x2_, .int x3_, .long x4_, .long x5_]) (n := 12) (Nat.le_of_ble_eq_true rfl)
  rw [lg_entry_eq]
  generalize (lg_sl ([.ref a0_, .int x1_, .int x2_, .int x3_, .long x4_, .long x5_]) ++ List.replicate (12 - (lg_sl ([.ref a0_, .int x1_, .int x2_, .int x3_, .long x4_, .long x5_])).length) Slot.unset).toArray = ls at hl ⊢
  have hl : lv_has ls 12 [(0, .ref a0_), (1, .int x1_), (2, .int x2_), (3, .int x3_), (4, .long x4_), (6, .long x5_)] := hl
  refine W_q (fun Q hQ => ?_)
  refine lv_aload_n hx hb dX14_mayThrow_0 rfl (lv_at hl 0 rfl) ?_
  refine g_getr (K := 215) (C := RX14) (T := TX14) (N := 67) hx hb hts (mc_ inX14) hown hK g ma0_ ka0_ (by decide) rfl 27 (by decide) rfl (hts _ (List.mem_cons_of_mem _ t_2173)) (fun _ h9 => h9) rfl dX14_mayThrow_1 (fun a_1 ma_1 ka_1 g => ?_)
  refine lv_iload_n hx hb dX14_mayThrow_4 rfl (lv_at hl 2 rfl) ?_
  refine g_iald hx hb hK g ma_1 ka_1 (by decide) rfl (in_bd bx2_ (by decide)) dX14_mayThrow_5 (fun x_2 bx_2 cx_2 => ?_)
  have vx_2 := hGOa0_.cls g 0 rfl cx_2
  refine lv_istore (lv' := [(8, .int x_2), (0, .ref a0_), (1, .int x1_), (2, .int x2_), (3, .int x3_), (4, .long x4_), (6, .long x5_)]) hx hb dX14_mayThrow_6 hl (by decide) rfl (fun ls hl => ?_)
  have loop_3 : ∀ (n : Nat) (v8_8 : Int32), bd (-1) 7 v8_8 → (v8_8.toInt + 1 < (n : Int)) → ∀ (f : Nat → va_E) (H : Heap) (locs : List Loc) (ls : Array Slot), G3 (dC, dI) L kd tys s f0 [(14, 31), (14, 32), (14, 33), (14, 34), (14, 35), (14, 36), (14, 37), (14, 39), (14, 40), (14, 45), (14, 55)] [200, 216, 218, 219, 220, 221, 228] f H locs [(14, 27, a0_, .ref a_1), (14, 1, a0_, .ref q0_)] → OA f a0_ O_ → isV f q0_ V_ → (cN V_ (O_ x2_.toNatClampNeg) v8_8) → lv_has ls 12 [(8, .int v8_8), (0, .ref a0_), (1, .int x1_), (2, .int x2_), (3, .int x3_), (4, .long x4_), (6, .long x5_)] → W p l e ({ frames := 974, cells := 0, slots := 0, locals := 39032 } : Room) s m [.ref a0_, .int x1_, .int x2_, .int x3_, .long x4_, .long x5_].toArray below meth c H locs 0 0 Q (F0 m 8 ls []) := by
    intro n8
    induction n8 with
    | zero =>
      intro v8_8 bv8_8 hm8 f H locs ls g hG8_O_a0_ hG8_V_q0_ hI8 hl
      exact absurd hm8 (by have h9_v8_8 := bv8_8; unfold bd at h9_v8_8; omega)
    | succ n8 ih8 =>
      intro v8_8 bv8_8 hm8 f H locs ls g hG8_O_a0_ hG8_V_q0_ hI8 hl
      refine lv_iload hx hb dX14_mayThrow_8 (lv_at hl 0 rfl) ?_
      refine lv_iconst (v := (-1)) hx hb dX14_mayThrow_10 (by decide) ?_
      have kb_m1 : bd (-1) (-1) ((-1) : Int32) := ⟨by decide, by decide⟩
      refine lv_icmp_eq (tgt := 187) hx hb dX14_mayThrow_11 (by decide) (fun c_4 => ?_) (fun c_4 => ?_)
      · have fc_4 := eq_f c_4
        have b_5 : bd (-1) (-1) v8_8 := eqX fc_4 bv8_8 kb_m1 (by decide)
        refine lv_iconst (v := 0) hx hb dX14_mayThrow_187 (by decide) ?_
        have kb_0 : bd 0 0 (0 : Int32) := ⟨by decide, by decide⟩
        subst hQ
        exact W.iret (v := 0) hx hb hr (fun t ht hW => ⟨⟨_, _, rfl, ⟨(bd_sub kb_0 (by decide)), trivial⟩, q3_of g hK ht hW⟩, g.2.2.1.F ht⟩) g.2.2.1.2.2 dX14_mayThrow_188
      · have fc_4 := neq_f c_4
        have b_6 : bd 0 7 v8_8 := neX fc_4 bv8_8 kb_m1 (by decide)
        refine lv_aload_n hx hb dX14_mayThrow_14 rfl (lv_at hl 1 rfl) ?_
        refine lv_iload hx hb dX14_mayThrow_15 (lv_at hl 0 rfl) ?_
        refine lv_iload_n hx hb dX14_mayThrow_17 rfl (lv_at hl 2 rfl) ?_
        have go_ := g
        refine g_calli (va_runV (As := [.int v8_8, .int x1_]) (rest := []) ⟨hx, hb, hml, hown, hts⟩ (r_X14_toldBy l dC dI L kd tys f H.size g.2.2.2.1 a0_ ma0_ ka0_ v8_8 (bd_sub b_6 (by decide)) x1_ bx1_ q0_ mq0_ kq0_ V_ δ_ hW hG8_V_q0_ (g.fcts [1] rfl)) (cwV 2 hts (gV_ t_2692 t_2694 t_160 t_198 t_2695) rfl rfl rfl (by decide +kernel) ⟨(Nat.le_of_ble_eq_true rfl), (Nat.le_of_ble_eq_true rfl)⟩) (pre3V g hK ma0_ ka0_ (by decide) (q := (RX14, TX14, 67)) rfl) rfl rfl hl.1 rfl (lv_room (Nat.le_of_ble_eq_true rfl)) dX14_mayThrow_18 ⟨(Nat.le_of_ble_eq_true rfl), (Nat.le_of_ble_eq_true rfl)⟩) g hK (by decide) (by decide) (fx' := [(14, 27, a0_, .ref a_1), (14, 1, a0_, .ref q0_)]) rfl (fun r_7 fr_7 H locs hp hMr_7 g => ?_)
        rcases hp with ⟨h_8, -⟩ | ⟨hx_9, h_10, h_11, x_12, h_13, hF_14⟩
        · have hG_15 := OA.frame hMr_7 go_.2.2.2.1 ma0_ ka0_ (by decide) (by decide) hG8_O_a0_
          have hG_16 := isV.frame hMr_7 go_.2.2.2.1 mq0_ kq0_ (by decide) (by decide) hG8_V_q0_
          obtain rfl : r_7 = (-1) := h_8
          refine lv_istore (lv' := [(9, .int (-1)), (8, .int v8_8), (0, .ref a0_), (1, .int x1_), (2, .int x2_), (3, .int x3_), (4, .long x4_), (6, .long x5_)]) hx hb dX14_mayThrow_21 hl (by decide) rfl (fun ls hl => ?_)
          refine lv_iload hx hb dX14_mayThrow_23 (lv_at hl 0 rfl) ?_
          refine lv_iconst (v := (-1)) hx hb dX14_mayThrow_25 (by decide) ?_
          refine lv_icmp_ne (tgt := 32) hx hb dX14_mayThrow_26 (by decide) (fun c_ => absurd c_ (by decide)) (fun c_ => ?_)
          refine lv_goto (tgt := 172) hx hb dX14_mayThrow_29 (by decide) ?_
          refine lv_aload_n hx hb dX14_mayThrow_172 rfl (lv_at hl 2 rfl) ?_
          refine g_getk (C := RX14) (T := TX14) (N := 67) hx hb hts (mc_ inX14) hown hK g rfl 1 (by decide) rfl (hts _ (List.mem_cons_of_mem _ t_2147)) (fun _ h9 => h9) 1 rfl dX14_mayThrow_173 ?_
          refine g_getr (K := 159) (C := RX12) (T := TX12) (N := 60) hx hb hts (mc_ inX12) hown hK g mq0_ kq0_ (by decide) rfl 3 (by decide) rfl (hts _ (List.mem_cons_of_mem _ t_1912)) (fun _ h9 => h9) rfl dX14_mayThrow_176 (fun a_17 ma_17 ka_17 g => ?_)
          refine lv_iload hx hb dX14_mayThrow_179 (lv_at hl 1 rfl) ?_
          refine g_iald hx hb hK g ma_17 ka_17 (by decide) rfl (in_bd b_6 (by decide)) dX14_mayThrow_181 (fun x_18 bx_18 cx_18 => ?_)
          have vx_18 : x_18 = V_.i 3 v8_8.toNatClampNeg := hG_16.at g 0 rfl rfl cx_18
          have hltx_18 := (cN.above (x := x_18) hW (hI8.is fc_4).1 vx_18).2
          refine lv_istore (lv' := [(8, .int x_18), (9, .int (-1)), (0, .ref a0_), (1, .int x1_), (2, .int x2_), (3, .int x3_), (4, .long x4_), (6, .long x5_)]) hx hb dX14_mayThrow_182 hl (by decide) rfl (fun ls hl => ?_)
          refine lv_goto (tgt := 8) hx hb dX14_mayThrow_184 (by decide) ?_
          have hl9 := lv_sub hl [0, 2, 3, 4, 5, 6, 7] (by rfl : lv_pick [(8, .int x_18), (9, .int (-1)), (0, .ref a0_), (1, .int x1_), (2, .int x2_), (3, .int x3_), (4, .long x4_), (6, .long x5_)] [0, 2, 3, 4, 5, 6, 7] = [(8, .int x_18), (0, .ref a0_), (1, .int x1_), (2, .int x2_), (3, .int x3_), (4, .long x4_), (6, .long x5_)])
          have g9 := g.sub (fx' := [(14, 27, a0_, .ref a_1), (14, 1, a0_, .ref q0_)]) [1, 2] rfl
          exact ih8  x_18 bx_18 (by have h9_0 := bv8_8; unfold bd at h9_0; have h9_1 := bx_18; unfold bd at h9_1; have h9_2 := kb_m1; unfold bd at h9_2; omega) _ _ _ _ g9 hG_15 hG_16 (cN.step hW hI8 fc_4 vx_18) hl9
        · have hG_19 := OA.frame hMr_7 go_.2.2.2.1 ma0_ ka0_ (by decide) (by decide) hG8_O_a0_
          have hG_20 := isV.frame hMr_7 go_.2.2.2.1 mq0_ kq0_ (by decide) (by decide) hG8_V_q0_
          have g := g.more hF_14
          refine lv_istore (lv' := [(9, .int r_7), (8, .int v8_8), (0, .ref a0_), (1, .int x1_), (2, .int x2_), (3, .int x3_), (4, .long x4_), (6, .long x5_)]) hx hb dX14_mayThrow_21 hl (by decide) rfl (fun ls hl => ?_)
          refine lv_iload hx hb dX14_mayThrow_23 (lv_at hl 0 rfl) ?_
          refine lv_iconst (v := (-1)) hx hb dX14_mayThrow_25 (by decide) ?_
          refine lv_icmp_ne (tgt := 32) hx hb dX14_mayThrow_26 (by decide) (fun c_21 => ?_) (fun c_21 => ?_)
          · have fc_21 := neq_f c_21
            refine lv_bipush (v := 8) hx hb dX14_mayThrow_32 (by decide) ?_
            refine lv_iload hx hb dX14_mayThrow_34 (lv_at hl 0 rfl) ?_
            refine lv_imul hx hb dX14_mayThrow_36 ?_
            refine lv_topi (fun y_22 ey_22 => ?_)
            have ty_22 := cmul_bd ey_22 (c := 8) (by decide) h_10 (by decide)
            have b_23 : bd 0 872 y_22 := mulc_rg ty_22 h_10 (by decide)
            refine lv_istore (lv' := [(10, .int y_22), (9, .int r_7), (8, .int v8_8), (0, .ref a0_), (1, .int x1_), (2, .int x2_), (3, .int x3_), (4, .long x4_), (6, .long x5_)]) hx hb dX14_mayThrow_37 hl (by decide) rfl (fun ls hl => ?_)
            have loop_24 : ∀ (n : Nat) (v39_10 : Int32), bd 0 880 v39_10 → (880 - v39_10.toInt < (n : Int)) → ∀ (f : Nat → va_E) (H : Heap) (locs : List Loc) (ls : Array Slot), G3 (dC, dI) L kd tys s f0 [(14, 31), (14, 32), (14, 33), (14, 34), (14, 35), (14, 36), (14, 37), (14, 39), (14, 40), (14, 45), (14, 55)] [200, 216, 218, 219, 220, 221, 228] f H locs [(12, 27, q0_, .int x_12), (14, 27, a0_, .ref a_1), (14, 1, a0_, .ref q0_)] → OA f a0_ O_ → isV f q0_ V_ → (8 * r_7.toInt ≤ v39_10.toInt) → lv_has ls 12 [(10, .int v39_10), (9, .int r_7), (8, .int v8_8), (0, .ref a0_), (1, .int x1_), (2, .int x2_), (3, .int x3_), (4, .long x4_), (6, .long x5_)] → W p l e ({ frames := 974, cells := 0, slots := 0, locals := 39032 } : Room) s m [.ref a0_, .int x1_, .int x2_, .int x3_, .long x4_, .long x5_].toArray below meth c H locs 0 0 Q (F0 m 39 ls []) := by
              intro n39
              induction n39 with
              | zero =>
                intro v39_10 bv39_10 hm39 f H locs ls g hG39_O_a0_ hG39_V_q0_ hI39 hl
                exact absurd hm39 (by have h9_v39_10 := bv39_10; unfold bd at h9_v39_10; omega)
              | succ n39 ih39 =>
                intro v39_10 bv39_10 hm39 f H locs ls g hG39_O_a0_ hG39_V_q0_ hI39 hl
                refine lv_iload hx hb dX14_mayThrow_39 (lv_at hl 0 rfl) ?_
                refine lv_bipush (v := 8) hx hb dX14_mayThrow_41 (by decide) ?_
                refine lv_iload hx hb dX14_mayThrow_43 (lv_at hl 1 rfl) ?_
                refine lv_imul hx hb dX14_mayThrow_45 ?_
                refine lv_topi (fun y_25 ey_25 => ?_)
                obtain rfl : y_22 = y_25 := ey_22.trans ey_25.symm
                refine lv_aload_n hx hb dX14_mayThrow_46 rfl (lv_at hl 3 rfl) ?_
                refine g_getk (C := RX14) (T := TX14) (N := 67) hx hb hts (mc_ inX14) hown hK g rfl 1 (by decide) rfl (hts _ (List.mem_cons_of_mem _ t_2147)) (fun _ h9 => h9) 2 rfl dX14_mayThrow_47 ?_
                refine g_getr (K := 178) (C := RX12) (T := TX12) (N := 60) hx hb hts (mc_ inX12) hown hK g mq0_ kq0_ (by decide) rfl 22 (by decide) rfl (hts _ (List.mem_cons_of_mem _ t_1950)) (fun _ h9 => h9) rfl dX14_mayThrow_50 (fun a_26 ma_26 ka_26 g => ?_)
                refine lv_iload hx hb dX14_mayThrow_53 (lv_at hl 1 rfl) ?_
                refine g_iald hx hb hK g ma_26 ka_26 (by decide) rfl (in_bd h_10 (by decide)) dX14_mayThrow_55 (fun x_27 bx_27 cx_27 => ?_)
                have vx_27 : x_27 = V_.i 22 r_7.toNatClampNeg := hG39_V_q0_.at g 0 rfl rfl cx_27
                refine lv_iadd hx hb dX14_mayThrow_56 ?_
                refine lv_topi (fun y_28 ey_28 => ?_)
                have ty_28 := add_bd ey_28 b_23 bx_27 (by decide)
                have b_29 : bd 0 880 y_28 := add_rg ty_28 b_23 bx_27 (by decide)
                refine lv_icmp_ge (tgt := 172) hx hb dX14_mayThrow_57 (by decide) (fun c_30 => ?_) (fun c_30 => ?_)
                · have fc_30 := le_f c_30
                  refine lv_aload_n hx hb dX14_mayThrow_172 rfl (lv_at hl 3 rfl) ?_
                  refine g_getk (C := RX14) (T := TX14) (N := 67) hx hb hts (mc_ inX14) hown hK g rfl 1 (by decide) rfl (hts _ (List.mem_cons_of_mem _ t_2147)) (fun _ h9 => h9) 3 rfl dX14_mayThrow_173 ?_
                  refine g_getr (K := 159) (C := RX12) (T := TX12) (N := 60) hx hb hts (mc_ inX12) hown hK g mq0_ kq0_ (by decide) rfl 3 (by decide) rfl (hts _ (List.mem_cons_of_mem _ t_1912)) (fun _ h9 => h9) rfl dX14_mayThrow_176 (fun a_31 ma_31 ka_31 g => ?_)
                  refine lv_iload hx hb dX14_mayThrow_179 (lv_at hl 2 rfl) ?_
                  refine g_iald hx hb hK g ma_31 ka_31 (by decide) rfl (in_bd b_6 (by decide)) dX14_mayThrow_181 (fun x_32 bx_32 cx_32 => ?_)
                  have vx_32 : x_32 = V_.i 3 v8_8.toNatClampNeg := hG39_V_q0_.at g 0 rfl rfl cx_32
                  have hltx_32 := (cN.above (x := x_32) hW (hI8.is fc_4).1 vx_32).2
                  refine lv_istore (lv' := [(8, .int x_32), (10, .int v39_10), (9, .int r_7), (0, .ref a0_), (1, .int x1_), (2, .int x2_), (3, .int x3_), (4, .long x4_), (6, .long x5_)]) hx hb dX14_mayThrow_182 hl (by decide) rfl (fun ls hl => ?_)
                  refine lv_goto (tgt := 8) hx hb dX14_mayThrow_184 (by decide) ?_
                  have hl9 := lv_sub hl [0, 3, 4, 5, 6, 7, 8] (by rfl : lv_pick [(8, .int x_32), (10, .int v39_10), (9, .int r_7), (0, .ref a0_), (1, .int x1_), (2, .int x2_), (3, .int x3_), (4, .long x4_), (6, .long x5_)] [0, 3, 4, 5, 6, 7, 8] = [(8, .int x_32), (0, .ref a0_), (1, .int x1_), (2, .int x2_), (3, .int x3_), (4, .long x4_), (6, .long x5_)])
                  have g9 := g.sub (fx' := [(14, 27, a0_, .ref a_1), (14, 1, a0_, .ref q0_)]) [3, 4] rfl
                  exact ih8  x_32 bx_32 (by have h9_0 := bv8_8; unfold bd at h9_0; have h9_1 := bx_32; unfold bd at h9_1; have h9_2 := kb_m1; unfold bd at h9_2; omega) _ _ _ _ g9 hG39_O_a0_ hG39_V_q0_ (cN.step hW hI8 fc_4 vx_32) hl9
                · have fc_30 := nle_f c_30
                  have b_33 : bd 0 879 v39_10 := ltL fc_30 bv39_10 b_29 (by decide)
                  have b_34 : bd 1 880 y_28 := ltR fc_30 bv39_10 b_29 (by decide)
                  refine lv_aload_n hx hb dX14_mayThrow_60 rfl (lv_at hl 3 rfl) ?_
                  refine g_getk (C := RX14) (T := TX14) (N := 67) hx hb hts (mc_ inX14) hown hK g rfl 1 (by decide) rfl (hts _ (List.mem_cons_of_mem _ t_2147)) (fun _ h9 => h9) 3 rfl dX14_mayThrow_61 ?_
                  refine g_getr (K := 183) (C := RX12) (T := TX12) (N := 60) hx hb hts (mc_ inX12) hown hK g mq0_ kq0_ (by decide) rfl 28 (by decide) rfl (hts _ (List.mem_cons_of_mem _ t_1961)) (fun _ h9 => h9) rfl dX14_mayThrow_64 (fun a_35 ma_35 ka_35 g => ?_)
                  refine lv_iload hx hb dX14_mayThrow_67 (lv_at hl 0 rfl) ?_
                  refine g_iald hx hb hK g ma_35 ka_35 (by decide) rfl (in_bd b_33 (by decide)) dX14_mayThrow_69 (fun x_36 bx_36 cx_36 => ?_)
                  have vx_36 : x_36 = V_.i 28 v39_10.toNatClampNeg := hG39_V_q0_.at g 0 rfl rfl cx_36
                  refine lv_iconst (v := 5) hx hb dX14_mayThrow_70 (by decide) ?_
                  have kb_5 : bd 5 5 (5 : Int32) := ⟨by decide, by decide⟩
                  refine lv_icmp_ne (tgt := 166) hx hb dX14_mayThrow_71 (by decide) (fun c_37 => ?_) (fun c_37 => ?_)
                  · have fc_37 := neq_f c_37
                    have kb_1 : bd 1 1 (1 : Int32) := ⟨by decide, by decide⟩
                    obtain ⟨y_38, ey_38⟩ : ∃ z : Int32, z = v39_10 + 1 := ⟨_, rfl⟩
                    refine lv_iinc (v := y_38) (lv' := [(10, .int y_38), (9, .int r_7), (8, .int v8_8), (0, .ref a0_), (1, .int x1_), (2, .int x2_), (3, .int x3_), (4, .long x4_), (6, .long x5_)]) hx hb dX14_mayThrow_166 hl (k := 0) rfl (by rw [ey_38]; rfl) (by decide) rfl (fun ls hl => ?_)
                    have ty_38 := add_bd ey_38 b_33 kb_1 (by decide)
                    have b_39 : bd 1 880 y_38 := add_rg ty_38 b_33 kb_1 (by decide)
                    refine lv_goto (tgt := 39) hx hb dX14_mayThrow_169 (by decide) ?_
                    have hl9 := lv_sub hl [0, 1, 2, 3, 4, 5, 6, 7, 8] (by rfl : lv_pick [(10, .int y_38), (9, .int r_7), (8, .int v8_8), (0, .ref a0_), (1, .int x1_), (2, .int x2_), (3, .int x3_), (4, .long x4_), (6, .long x5_)] [0, 1, 2, 3, 4, 5, 6, 7, 8] = [(10, .int y_38), (9, .int r_7), (8, .int v8_8), (0, .ref a0_), (1, .int x1_), (2, .int x2_), (3, .int x3_), (4, .long x4_), (6, .long x5_)])
                    have g9 := g.sub (fx' := [(12, 27, q0_, .int x_12), (14, 27, a0_, .ref a_1), (14, 1, a0_, .ref q0_)]) [2, 3, 4] rfl
                    exact ih39  y_38 (bd_sub b_39 (by decide)) (by have h9_0 := b_39; unfold bd at h9_0; have h9_1 := bv39_10; unfold bd at h9_1; have h9_2 := kb_1; unfold bd at h9_2; have h9_3 := kb_5; unfold bd at h9_3; have h9_4 := kb_m1; unfold bd at h9_4; omega) _ _ _ _ g9 hG39_O_a0_ hG39_V_q0_ (by have h9_0 := h_10; unfold bd at h9_0; have h9_1 := b_33; unfold bd at h9_1; have h9_2 := b_6; unfold bd at h9_2; have h9_3 := bx1_; unfold bd at h9_3; have h9_4 := bx2_; unfold bd at h9_4; have h9_5 := bx3_; unfold bd at h9_5; have h9_6 := h_13; unfold bd at h9_6; have h9_7 := bx_2; unfold bd at h9_7; have h9_8 := bx_27; unfold bd at h9_8; have h9_9 := b_23; unfold bd at h9_9; have h9_10 := b_34; unfold bd at h9_10; have h9_11 := b_39; unfold bd at h9_11; have h8_0 := kb_1; unfold bd at h8_0; have h8_1 := kb_5; unfold bd at h8_1; have h8_2 := kb_m1; unfold bd at h8_2; omega) hl9
                  · have fc_37 := eq_f c_37
                    have b_40 : bd 5 5 x_36 := eqX fc_37 (bdT x_36) kb_5 (by decide)
                    refine lv_aload_n hx hb dX14_mayThrow_74 rfl (lv_at hl 3 rfl) ?_
                    refine g_getk (C := RX14) (T := TX14) (N := 67) hx hb hts (mc_ inX14) hown hK g rfl 1 (by decide) rfl (hts _ (List.mem_cons_of_mem _ t_2147)) (fun _ h9 => h9) 4 rfl dX14_mayThrow_75 ?_
                    refine g_getr (K := 187) (C := RX12) (T := TX12) (N := 60) hx hb hts (mc_ inX12) hown hK g mq0_ kq0_ (by decide) rfl 32 (by decide) rfl (hts _ (List.mem_cons_of_mem _ t_1969)) (fun _ h9 => h9) rfl dX14_mayThrow_78 (fun a_41 ma_41 ka_41 g => ?_)
                    refine lv_iload hx hb dX14_mayThrow_81 (lv_at hl 0 rfl) ?_
                    refine g_laldX hx hb hK g ma_41 ka_41 (by decide) rfl (in_bd b_33 (by decide)) dX14_mayThrow_83 (fun x_42 cx_42 => ?_)
                    have vx_42 : x_42 = V_.l 32 v39_10.toNatClampNeg := hG39_V_q0_.atL g 0 rfl rfl cx_42
                    refine lv_lload hx hb dX14_mayThrow_84 (lv_at hl 7 rfl) ?_
                    refine W.lcmp hx hb dX14_mayThrow_86 ?_
                    refine lv_if_ne (tgt := 166) hx hb dX14_mayThrow_87 (by decide) (fun c_43 => ?_) (fun c_43 => ?_)
                    · have kb_1 : bd 1 1 (1 : Int32) := ⟨by decide, by decide⟩
                      obtain ⟨y_44, ey_44⟩ : ∃ z : Int32, z = v39_10 + 1 := ⟨_, rfl⟩
                      refine lv_iinc (v := y_44) (lv' := [(10, .int y_44), (9, .int r_7), (8, .int v8_8), (0, .ref a0_), (1, .int x1_), (2, .int x2_), (3, .int x3_), (4, .long x4_), (6, .long x5_)]) hx hb dX14_mayThrow_166 hl (k := 0) rfl (by rw [ey_44]; rfl) (by decide) rfl (fun ls hl => ?_)
                      have ty_44 := add_bd ey_44 b_33 kb_1 (by decide)
                      have b_45 : bd 1 880 y_44 := add_rg ty_44 b_33 kb_1 (by decide)
                      refine lv_goto (tgt := 39) hx hb dX14_mayThrow_169 (by decide) ?_
                      have hl9 := lv_sub hl [0, 1, 2, 3, 4, 5, 6, 7, 8] (by rfl : lv_pick [(10, .int y_44), (9, .int r_7), (8, .int v8_8), (0, .ref a0_), (1, .int x1_), (2, .int x2_), (3, .int x3_), (4, .long x4_), (6, .long x5_)] [0, 1, 2, 3, 4, 5, 6, 7, 8] = [(10, .int y_44), (9, .int r_7), (8, .int v8_8), (0, .ref a0_), (1, .int x1_), (2, .int x2_), (3, .int x3_), (4, .long x4_), (6, .long x5_)])
                      have g9 := g.sub (fx' := [(12, 27, q0_, .int x_12), (14, 27, a0_, .ref a_1), (14, 1, a0_, .ref q0_)]) [3, 4, 5] rfl
                      exact ih39  y_44 (bd_sub b_45 (by decide)) (by have h9_0 := b_45; unfold bd at h9_0; have h9_1 := bv39_10; unfold bd at h9_1; have h9_2 := kb_1; unfold bd at h9_2; have h9_3 := kb_5; unfold bd at h9_3; have h9_4 := kb_m1; unfold bd at h9_4; omega) _ _ _ _ g9 hG39_O_a0_ hG39_V_q0_ (by have h9_0 := h_10; unfold bd at h9_0; have h9_1 := b_33; unfold bd at h9_1; have h9_2 := b_6; unfold bd at h9_2; have h9_3 := bx1_; unfold bd at h9_3; have h9_4 := bx2_; unfold bd at h9_4; have h9_5 := bx3_; unfold bd at h9_5; have h9_6 := h_13; unfold bd at h9_6; have h9_7 := bx_2; unfold bd at h9_7; have h9_8 := bx_27; unfold bd at h9_8; have h9_9 := b_40; unfold bd at h9_9; have h9_10 := b_23; unfold bd at h9_10; have h9_11 := b_34; unfold bd at h9_11; have h9_12 := b_45; unfold bd at h9_12; have h8_0 := kb_1; unfold bd at h8_0; have h8_1 := kb_5; unfold bd at h8_1; have h8_2 := kb_m1; unfold bd at h8_2; omega) hl9
                    · refine lv_aload_n hx hb dX14_mayThrow_90 rfl (lv_at hl 3 rfl) ?_
                      refine g_getk (C := RX14) (T := TX14) (N := 67) hx hb hts (mc_ inX14) hown hK g rfl 1 (by decide) rfl (hts _ (List.mem_cons_of_mem _ t_2147)) (fun _ h9 => h9) 5 rfl dX14_mayThrow_91 ?_
                      refine g_getr (K := 188) (C := RX12) (T := TX12) (N := 60) hx hb hts (mc_ inX12) hown hK g mq0_ kq0_ (by decide) rfl 33 (by decide) rfl (hts _ (List.mem_cons_of_mem _ t_1971)) (fun _ h9 => h9) rfl dX14_mayThrow_94 (fun a_46 ma_46 ka_46 g => ?_)
                      refine lv_iload hx hb dX14_mayThrow_97 (lv_at hl 0 rfl) ?_
                      refine g_laldX hx hb hK g ma_46 ka_46 (by decide) rfl (in_bd b_33 (by decide)) dX14_mayThrow_99 (fun x_47 cx_47 => ?_)
                      have vx_47 : x_47 = V_.l 33 v39_10.toNatClampNeg := hG39_V_q0_.atL g 0 rfl rfl cx_47
                      refine lv_lload hx hb dX14_mayThrow_100 (lv_at hl 8 rfl) ?_
                      refine W.lcmp hx hb dX14_mayThrow_102 ?_
                      refine lv_if_eq (tgt := 109) hx hb dX14_mayThrow_103 (by decide) (fun c_48 => ?_) (fun c_48 => ?_)
                      · refine lv_aload_n hx hb dX14_mayThrow_109 rfl (lv_at hl 3 rfl) ?_
                        refine g_getk (C := RX14) (T := TX14) (N := 67) hx hb hts (mc_ inX14) hown hK g rfl 1 (by decide) rfl (hts _ (List.mem_cons_of_mem _ t_2147)) (fun _ h9 => h9) 6 rfl dX14_mayThrow_110 ?_
                        refine g_getr (K := 184) (C := RX12) (T := TX12) (N := 60) hx hb hts (mc_ inX12) hown hK g mq0_ kq0_ (by decide) rfl 29 (by decide) rfl (hts _ (List.mem_cons_of_mem _ t_1963)) (fun _ h9 => h9) rfl dX14_mayThrow_113 (fun a_49 ma_49 ka_49 g => ?_)
                        refine lv_iload hx hb dX14_mayThrow_116 (lv_at hl 0 rfl) ?_
                        refine g_iald hx hb hK g ma_49 ka_49 (by decide) rfl (in_bd b_33 (by decide)) dX14_mayThrow_118 (fun x_50 bx_50 cx_50 => ?_)
                        have vx_50 : x_50 = V_.i 29 v39_10.toNatClampNeg := hG39_V_q0_.at g 0 rfl rfl cx_50
                        refine lv_iconst (v := (-1)) hx hb dX14_mayThrow_119 (by decide) ?_
                        refine lv_icmp_ne (tgt := 127) hx hb dX14_mayThrow_120 (by decide) (fun c_51 => ?_) (fun c_51 => ?_)
                        · have fc_51 := neq_f c_51
                          refine lv_aload_n hx hb dX14_mayThrow_127 rfl (lv_at hl 3 rfl) ?_
                          refine lv_aload_n hx hb dX14_mayThrow_128 rfl (lv_at hl 3 rfl) ?_
                          refine g_getk (C := RX14) (T := TX14) (N := 67) hx hb hts (mc_ inX14) hown hK g rfl 1 (by decide) rfl (hts _ (List.mem_cons_of_mem _ t_2147)) (fun _ h9 => h9) 7 rfl dX14_mayThrow_129 ?_
                          refine g_getk (C := RX12) (T := TX12) (N := 60) hx hb hts (mc_ inX12) hown hK g rfl 29 (by decide) rfl (hts _ (List.mem_cons_of_mem _ t_1963)) (fun _ h9 => h9) 0 rfl dX14_mayThrow_132 ?_
                          refine lv_iload hx hb dX14_mayThrow_135 (lv_at hl 0 rfl) ?_
                          refine g_iald hx hb hK g ma_49 ka_49 (by decide) rfl (in_bd b_33 (by decide)) dX14_mayThrow_137 (fun x_52 bx_52 cx_52 => ?_)
                          obtain rfl : x_50 = x_52 := el_same cx_50 cx_52 rfl
                          refine lv_aload_n hx hb dX14_mayThrow_138 rfl (lv_at hl 3 rfl) ?_
                          refine g_getk (C := RX14) (T := TX14) (N := 67) hx hb hts (mc_ inX14) hown hK g rfl 1 (by decide) rfl (hts _ (List.mem_cons_of_mem _ t_2147)) (fun _ h9 => h9) 7 rfl dX14_mayThrow_139 ?_
                          refine g_getr (K := 185) (C := RX12) (T := TX12) (N := 60) hx hb hts (mc_ inX12) hown hK g mq0_ kq0_ (by decide) rfl 30 (by decide) rfl (hts _ (List.mem_cons_of_mem _ t_1965)) (fun _ h9 => h9) rfl dX14_mayThrow_142 (fun a_53 ma_53 ka_53 g => ?_)
                          refine lv_iload hx hb dX14_mayThrow_145 (lv_at hl 0 rfl) ?_
                          refine g_iald hx hb hK g ma_53 ka_53 (by decide) rfl (in_bd b_33 (by decide)) dX14_mayThrow_147 (fun x_54 bx_54 cx_54 => ?_)
                          have vx_54 : x_54 = V_.i 30 v39_10.toNatClampNeg := hG39_V_q0_.at g 0 rfl rfl cx_54
                          refine lv_iload hx hb dX14_mayThrow_148 (lv_at hl 2 rfl) ?_
                          refine lv_iload_n hx hb dX14_mayThrow_150 rfl (lv_at hl 5 rfl) ?_
                          refine lv_iconst (v := 4) hx hb dX14_mayThrow_151 (by decide) ?_
                          refine lv_iload_n hx hb dX14_mayThrow_152 rfl (lv_at hl 6 rfl) ?_
                          have go_ := g
                          refine g_calli (va_runVH (n := 6) (As := [.int x_50, .int x_54, .int v8_8, .int x2_, .int 4, .int x3_]) (rest := []) ⟨hx, hb, hml, hown, hts⟩ (r_X14_holds l dC dI L kd tys f H.size g.2.2.2.1 adK adV a0_ ma0_ ka0_ x_50 x_54 v8_8 x2_ (bd_sub bx2_ (by decide)) 4 x3_ (bd_sub bx3_ (by decide)) q0_ mq0_ kq0_ V_ δ_ hW O_ hG39_O_a0_ hG39_V_q0_ v8_8.toNatClampNeg (mark_w hW hx_9 vx_27 hI39 (by have h9_0 := h_10; unfold bd at h9_0; have h9_1 := b_33; unfold bd at h9_1; have h9_2 := b_6; unfold bd at h9_2; have h9_3 := bx1_; unfold bd at h9_3; have h9_4 := bx2_; unfold bd at h9_4; have h9_5 := bx3_; unfold bd at h9_5; have h9_6 := h_13; unfold bd at h9_6; have h9_7 := bx_2; unfold bd at h9_7; have h9_8 := bx_27; unfold bd at h9_8; have h9_9 := b_40; unfold bd at h9_9; have h9_10 := b_23; unfold bd at h9_10; have h9_11 := b_34; unfold bd at h9_11; have h8_0 := kb_5; unfold bd at h8_0; have h8_1 := kb_m1; unfold bd at h8_1; omega) vx_36 (by have h9 := b_40; unfold bd at h9; omega) vx_50 fc_51) (hI8.is fc_4).2 (g.fcts [8] rfl)) (gI_ t_2633) List.mem_cons_self rfl rfl (Nat.le_of_ble_eq_true rfl) (Nat.le_of_ble_eq_true rfl) (hts _ (List.mem_cons_of_mem _ t_198)) (hts _ (List.mem_cons_of_mem _ t_2630)) (hts _ (List.mem_cons_of_mem _ t_2632)) (hts _ (List.mem_cons_of_mem _ t_145)) (by decide +kernel) (pre3VA g hK hAm ma0_ ka0_ (by decide) (q := (RX14, TX14, 67)) rfl) rfl rfl hl.1 rfl (lv_room (Nat.le_of_ble_eq_true rfl)) dX14_mayThrow_153 ⟨(Nat.le_of_ble_eq_true rfl), (Nat.le_of_ble_eq_true rfl)⟩) g hK (by decide) (by decide) (fx' := [(12, 30, q0_, .ref a_53), (12, 29, q0_, .ref a_49), (12, 33, q0_, .ref a_46), (12, 32, q0_, .ref a_41), (12, 28, q0_, .ref a_35), (12, 22, q0_, .ref a_26), (12, 27, q0_, .int x_12), (14, 27, a0_, .ref a_1), (14, 1, a0_, .ref q0_)]) rfl (fun r_55 fr_55 H locs hp hMr_55 g => ?_)
                          obtain ⟨h_56, hF_57⟩ := hp
                          have hG_58 := OA.frame hMr_55 go_.2.2.2.1 ma0_ ka0_ (by decide) (by decide) hG39_O_a0_
                          have hG_59 := isV.frame hMr_55 go_.2.2.2.1 mq0_ kq0_ (by decide) (by decide) hG39_V_q0_
                          have g := g.more hF_57
                          refine lv_istore (lv' := [(11, .int r_55), (10, .int v39_10), (9, .int r_7), (8, .int v8_8), (0, .ref a0_), (1, .int x1_), (2, .int x2_), (3, .int x3_), (4, .long x4_), (6, .long x5_)]) hx hb dX14_mayThrow_156 hl (by decide) rfl (fun ls hl => ?_)
                          refine lv_iload hx hb dX14_mayThrow_158 (lv_at hl 0 rfl) ?_
                          have kb_0 : bd 0 0 (0 : Int32) := ⟨by decide, by decide⟩
                          refine lv_if_eq (tgt := 166) hx hb dX14_mayThrow_160 (by decide) (fun c_60 => ?_) (fun c_60 => ?_)
                          · have fc_60 := eq_f c_60
                            have b_61 : bd 0 0 r_55 := eqX fc_60 h_56 kb_0 (by decide)
                            have kb_1 : bd 1 1 (1 : Int32) := ⟨by decide, by decide⟩
                            obtain ⟨y_62, ey_62⟩ : ∃ z : Int32, z = v39_10 + 1 := ⟨_, rfl⟩
                            refine lv_iinc (v := y_62) (lv' := [(10, .int y_62), (11, .int r_55), (9, .int r_7), (8, .int v8_8), (0, .ref a0_), (1, .int x1_), (2, .int x2_), (3, .int x3_), (4, .long x4_), (6, .long x5_)]) hx hb dX14_mayThrow_166 hl (k := 1) rfl (by rw [ey_62]; rfl) (by decide) rfl (fun ls hl => ?_)
                            have ty_62 := add_bd ey_62 b_33 kb_1 (by decide)
                            have b_63 : bd 1 880 y_62 := add_rg ty_62 b_33 kb_1 (by decide)
                            refine lv_goto (tgt := 39) hx hb dX14_mayThrow_169 (by decide) ?_
                            have hl9 := lv_sub hl [0, 2, 3, 4, 5, 6, 7, 8, 9] (by rfl : lv_pick [(10, .int y_62), (11, .int r_55), (9, .int r_7), (8, .int v8_8), (0, .ref a0_), (1, .int x1_), (2, .int x2_), (3, .int x3_), (4, .long x4_), (6, .long x5_)] [0, 2, 3, 4, 5, 6, 7, 8, 9] = [(10, .int y_62), (9, .int r_7), (8, .int v8_8), (0, .ref a0_), (1, .int x1_), (2, .int x2_), (3, .int x3_), (4, .long x4_), (6, .long x5_)])
                            have g9 := g.sub (fx' := [(12, 27, q0_, .int x_12), (14, 27, a0_, .ref a_1), (14, 1, a0_, .ref q0_)]) [8, 9, 10] rfl
                            exact ih39  y_62 (bd_sub b_63 (by decide)) (by have h9_0 := b_63; unfold bd at h9_0; have h9_1 := bv39_10; unfold bd at h9_1; have h9_2 := kb_0; unfold bd at h9_2; have h9_3 := kb_1; unfold bd at h9_3; have h9_4 := kb_5; unfold bd at h9_4; have h9_5 := kb_m1; unfold bd at h9_5; omega) _ _ _ _ g9 hG_58 hG_59 (by have h9_0 := b_61; unfold bd at h9_0; have h9_1 := h_10; unfold bd at h9_1; have h9_2 := b_33; unfold bd at h9_2; have h9_3 := b_6; unfold bd at h9_3; have h9_4 := bx1_; unfold bd at h9_4; have h9_5 := bx2_; unfold bd at h9_5; have h9_6 := bx3_; unfold bd at h9_6; have h9_7 := h_13; unfold bd at h9_7; have h9_8 := bx_2; unfold bd at h9_8; have h9_9 := bx_27; unfold bd at h9_9; have h9_10 := b_40; unfold bd at h9_10; have h9_11 := b_23; unfold bd at h9_11; have h9_12 := b_34; unfold bd at h9_12; have h9_13 := b_63; unfold bd at h9_13; have h8_0 := kb_0; unfold bd at h8_0; have h8_1 := kb_1; unfold bd at h8_1; have h8_2 := kb_5; unfold bd at h8_2; have h8_3 := kb_m1; unfold bd at h8_3; omega) hl9
                          · have fc_60 := neq_f c_60
                            refine lv_iload hx hb dX14_mayThrow_163 (lv_at hl 0 rfl) ?_
                            subst hQ
                            exact W.iret (v := r_55) hx hb hr (fun t ht hW => ⟨⟨_, _, rfl, ⟨h_56, trivial⟩, q3_of g hK ht hW⟩, g.2.2.1.F ht⟩) g.2.2.1.2.2 dX14_mayThrow_165
                        · have fc_51 := eq_f c_51
                          have b_64 : bd (-1) (-1) x_50 := eqX fc_51 (bdT x_50) kb_m1 (by decide)
                          refine lv_iconst (v := 1) hx hb dX14_mayThrow_123 (by decide) ?_
                          refine lv_goto (tgt := 156) hx hb dX14_mayThrow_124 (by decide) ?_
                          refine lv_istore (lv' := [(11, .int 1), (10, .int v39_10), (9, .int r_7), (8, .int v8_8), (0, .ref a0_), (1, .int x1_), (2, .int x2_), (3, .int x3_), (4, .long x4_), (6, .long x5_)]) hx hb dX14_mayThrow_156 hl (by decide) rfl (fun ls hl => ?_)
                          refine lv_iload hx hb dX14_mayThrow_158 (lv_at hl 0 rfl) ?_
                          refine lv_if_eq (tgt := 166) hx hb dX14_mayThrow_160 (by decide) (fun c_ => absurd c_ (by decide)) (fun c_ => ?_)
                          refine lv_iload hx hb dX14_mayThrow_163 (lv_at hl 0 rfl) ?_
                          have kb_1 : bd 1 1 (1 : Int32) := ⟨by decide, by decide⟩
                          subst hQ
                          exact W.iret (v := 1) hx hb hr (fun t ht hW => ⟨⟨_, _, rfl, ⟨(bd_sub kb_1 (by decide)), trivial⟩, q3_of g hK ht hW⟩, g.2.2.1.F ht⟩) g.2.2.1.2.2 dX14_mayThrow_165
                      · refine lv_goto (tgt := 166) hx hb dX14_mayThrow_106 (by decide) ?_
                        have kb_1 : bd 1 1 (1 : Int32) := ⟨by decide, by decide⟩
                        obtain ⟨y_65, ey_65⟩ : ∃ z : Int32, z = v39_10 + 1 := ⟨_, rfl⟩
                        refine lv_iinc (v := y_65) (lv' := [(10, .int y_65), (9, .int r_7), (8, .int v8_8), (0, .ref a0_), (1, .int x1_), (2, .int x2_), (3, .int x3_), (4, .long x4_), (6, .long x5_)]) hx hb dX14_mayThrow_166 hl (k := 0) rfl (by rw [ey_65]; rfl) (by decide) rfl (fun ls hl => ?_)
                        have ty_65 := add_bd ey_65 b_33 kb_1 (by decide)
                        have b_66 : bd 1 880 y_65 := add_rg ty_65 b_33 kb_1 (by decide)
                        refine lv_goto (tgt := 39) hx hb dX14_mayThrow_169 (by decide) ?_
                        have hl9 := lv_sub hl [0, 1, 2, 3, 4, 5, 6, 7, 8] (by rfl : lv_pick [(10, .int y_65), (9, .int r_7), (8, .int v8_8), (0, .ref a0_), (1, .int x1_), (2, .int x2_), (3, .int x3_), (4, .long x4_), (6, .long x5_)] [0, 1, 2, 3, 4, 5, 6, 7, 8] = [(10, .int y_65), (9, .int r_7), (8, .int v8_8), (0, .ref a0_), (1, .int x1_), (2, .int x2_), (3, .int x3_), (4, .long x4_), (6, .long x5_)])
                        have g9 := g.sub (fx' := [(12, 27, q0_, .int x_12), (14, 27, a0_, .ref a_1), (14, 1, a0_, .ref q0_)]) [4, 5, 6] rfl
                        exact ih39  y_65 (bd_sub b_66 (by decide)) (by have h9_0 := b_66; unfold bd at h9_0; have h9_1 := bv39_10; unfold bd at h9_1; have h9_2 := kb_1; unfold bd at h9_2; have h9_3 := kb_5; unfold bd at h9_3; have h9_4 := kb_m1; unfold bd at h9_4; omega) _ _ _ _ g9 hG39_O_a0_ hG39_V_q0_ (by have h9_0 := h_10; unfold bd at h9_0; have h9_1 := b_33; unfold bd at h9_1; have h9_2 := b_6; unfold bd at h9_2; have h9_3 := bx1_; unfold bd at h9_3; have h9_4 := bx2_; unfold bd at h9_4; have h9_5 := bx3_; unfold bd at h9_5; have h9_6 := h_13; unfold bd at h9_6; have h9_7 := bx_2; unfold bd at h9_7; have h9_8 := bx_27; unfold bd at h9_8; have h9_9 := b_40; unfold bd at h9_9; have h9_10 := b_23; unfold bd at h9_10; have h9_11 := b_34; unfold bd at h9_11; have h9_12 := b_66; unfold bd at h9_12; have h8_0 := kb_1; unfold bd at h8_0; have h8_1 := kb_5; unfold bd at h8_1; have h8_2 := kb_m1; unfold bd at h8_2; omega) hl9
            have hl9 := lv_sub hl [0, 1, 2, 3, 4, 5, 6, 7, 8] (by rfl : lv_pick [(10, .int y_22), (9, .int r_7), (8, .int v8_8), (0, .ref a0_), (1, .int x1_), (2, .int x2_), (3, .int x3_), (4, .long x4_), (6, .long x5_)] [0, 1, 2, 3, 4, 5, 6, 7, 8] = [(10, .int y_22), (9, .int r_7), (8, .int v8_8), (0, .ref a0_), (1, .int x1_), (2, .int x2_), (3, .int x3_), (4, .long x4_), (6, .long x5_)])
            have g9 := g.sub (fx' := [(12, 27, q0_, .int x_12), (14, 27, a0_, .ref a_1), (14, 1, a0_, .ref q0_)]) [0, 1, 2] rfl
            exact loop_24 (1763) y_22 (bd_sub b_23 (by decide)) (by have h9_0 := b_23; unfold bd at h9_0; have h9_1 := kb_m1; unfold bd at h9_1; omega) _ _ _ _ g9 hG_19 hG_20 (by have h9_0 := h_10; unfold bd at h9_0; have h9_1 := b_6; unfold bd at h9_1; have h9_2 := bx1_; unfold bd at h9_2; have h9_3 := bx2_; unfold bd at h9_3; have h9_4 := bx3_; unfold bd at h9_4; have h9_5 := h_13; unfold bd at h9_5; have h9_6 := bx_2; unfold bd at h9_6; have h9_7 := b_23; unfold bd at h9_7; have h8_0 := kb_m1; unfold bd at h8_0; omega) hl9
          · have fc_21 := eq_f c_21
            have b_67 : bd 0 (-1) r_7 := eqX fc_21 h_10 kb_m1 (by decide)
            exact bd_no b_67 (by decide)
  have hl9 := lv_sub hl [0, 1, 2, 3, 4, 5, 6] (by rfl : lv_pick [(8, .int x_2), (0, .ref a0_), (1, .int x1_), (2, .int x2_), (3, .int x3_), (4, .long x4_), (6, .long x5_)] [0, 1, 2, 3, 4, 5, 6] = [(8, .int x_2), (0, .ref a0_), (1, .int x1_), (2, .int x2_), (3, .int x3_), (4, .long x4_), (6, .long x5_)])
  have g9 := g.sub (fx' := [(14, 27, a0_, .ref a_1), (14, 1, a0_, .ref q0_)]) [0, 1] rfl
  exact loop_3 (20) x_2 bx_2 (by have h9_0 := bx_2; unfold bd at h9_0; omega) _ _ _ _ g9 hGOa0_ hGVq0_ (cN.of ho vx_2) hl9
set_option maxHeartbeats 4000000 in
set_option maxRecDepth 100000 in
theorem r_X14_fieldAt (l : Launch) (dC : Nat → ClassId) (dI : Nat → Nat → Nat) (L : List Nat) (kd : Nat → Nat) (tys : List (ClassId × FieldType)) (f0 : Nat → va_E) (sz : Nat) (hWT : WT L kd tys f0) (a0_ : Nat) (ma0_ : a0_ ∈ L) (ka0_ : kd a0_ = 14) (x1_ : Int32) (bx1_ : bd 0 7 x1_) (x2_ : Int32) : Met l yX14_fieldAt (.code yX14_fieldAt cX14_fieldAt 4 (some .int) :: lw_g) ({ frames := 0, cells := 0, slots := 0, locals := 0 }) (va_Pc [.ref a0_, .int x1_, .int x2_] (P3 (dC, dI) L tys f0 sz)) (va_Qi (fun (r : Int32) (f : Nat → va_E) => (bd 0 9 r ∧ True)) (Q3 (dC, dI) L kd tys [] [] f0 sz) (pA L sz)) 0 0 (pA L sz) := by
  refine Met.ofW (cc := cX14_fieldAt) (maxL := 4) (ret := (some .int)) (by decide) rfl ?_
  intro p e s m args below meth c s₁ B hml hv
  obtain ⟨rfl, hsz, hP, hK, hD0⟩ := hv
  have hx := B.exec
  have hb := B.bytes
  have hr := B.returns
  have hts := atoms_spec (ws := (.code yX14_fieldAt cX14_fieldAt 4 (some .int) :: lw_g)) B.pre
  have hown : s.vm.findClass RX14 = some m.cls := findClass_of_methodNamed B.named
  have hlocks := B.notSynchronized
  subst hsz
  have g : G3 (dC, dI) L kd tys s f0 [] [] f0 s.heap [] [] := G3.start hP hD0 hWT Fs.nil
  have hl := lv_entry ([.ref a0_, .int x1_, .int x2_]) (n := 4) (Nat.le_of_ble_eq_true rfl)
  rw [lg_entry_eq]
  generalize (lg_sl ([.ref a0_, .int x1_, .int x2_]) ++ List.replicate (4 - (lg_sl ([.ref a0_, .int x1_, .int x2_])).length) Slot.unset).toArray = ls at hl ⊢
  have hl : lv_has ls 4 [(0, .ref a0_), (1, .int x1_), (2, .int x2_)] := hl
  refine W_q (fun Q hQ => ?_)
  refine lv_iconst (v := 0) hx hb dX14_fieldAt_0 (by decide) ?_
  refine lv_istore_n (lv' := [(3, .int 0), (0, .ref a0_), (1, .int x1_), (2, .int x2_)]) hx hb dX14_fieldAt_1 rfl hl (by decide) rfl (fun ls hl => ?_)
  have loop_1 : ∀ (n : Nat) (v2_3 : Int32), bd 0 9 v2_3 → (9 - v2_3.toInt < (n : Int)) → ∀ (f : Nat → va_E) (H : Heap) (locs : List Loc) (ls : Array Slot), G3 (dC, dI) L kd tys s f0 [] [] f H locs [] → lv_has ls 4 [(3, .int v2_3), (0, .ref a0_), (1, .int x1_), (2, .int x2_)] → W p l e ({ frames := 0, cells := 0, slots := 0, locals := 0 } : Room) s m [.ref a0_, .int x1_, .int x2_].toArray below meth c H locs 0 0 Q (F0 m 2 ls []) := by
    intro n2
    induction n2 with
    | zero =>
      intro v2_3 bv2_3 hm2 f H locs ls g  hl
      exact absurd hm2 (by have h9_v2_3 := bv2_3; unfold bd at h9_v2_3; omega)
    | succ n2 ih2 =>
      intro v2_3 bv2_3 hm2 f H locs ls g  hl
      refine lv_iload_n hx hb dX14_fieldAt_2 rfl (lv_at hl 0 rfl) ?_
      refine lv_iconst (v := 1) hx hb dX14_fieldAt_3 (by decide) ?_
      have kb_1 : bd 1 1 (1 : Int32) := ⟨by decide, by decide⟩
      refine lv_iadd hx hb dX14_fieldAt_4 ?_
      refine lv_topi (fun y_2 ey_2 => ?_)
      have ty_2 := add_bd ey_2 bv2_3 kb_1 (by decide)
      have b_3 : bd 1 10 y_2 := add_rg ty_2 bv2_3 kb_1 (by decide)
      refine lv_aload_n hx hb dX14_fieldAt_5 rfl (lv_at hl 1 rfl) ?_
      refine g_getr (K := 12) (C := RX14) (T := TX14) (N := 67) hx hb hts (mc_ inX14) hown hK g ma0_ ka0_ (by decide) rfl 1 (by decide) rfl (hts _ (List.mem_cons_of_mem _ t_2147)) (fun _ h9 => h9) rfl dX14_fieldAt_6 (fun a_4 ma_4 ka_4 g => ?_)
      refine g_getr (K := 160) (C := RX12) (T := TX12) (N := 60) hx hb hts (mc_ inX12) hown hK g ma_4 ka_4 (by decide) rfl 4 (by decide) rfl (hts _ (List.mem_cons_of_mem _ t_1914)) (fun _ h9 => h9) rfl dX14_fieldAt_9 (fun a_5 ma_5 ka_5 g => ?_)
      refine lv_iload_n hx hb dX14_fieldAt_12 rfl (lv_at hl 2 rfl) ?_
      refine g_iald hx hb hK g ma_5 ka_5 (by decide) rfl (in_bd bx1_ (by decide)) dX14_fieldAt_13 (fun x_6 bx_6 cx_6 => ?_)
      refine lv_icmp_ge (tgt := 43) hx hb dX14_fieldAt_14 (by decide) (fun c_7 => ?_) (fun c_7 => ?_)
      · have fc_7 := le_f c_7
        refine lv_iload_n hx hb dX14_fieldAt_43 rfl (lv_at hl 0 rfl) ?_
        subst hQ
        exact W.iret (v := v2_3) hx hb hr (fun t ht hW => ⟨⟨_, _, rfl, ⟨bv2_3, trivial⟩, q3_of g hK ht hW⟩, g.2.2.1.F ht⟩) g.2.2.1.2.2 dX14_fieldAt_44
      · have fc_7 := nle_f c_7
        have b_8 : bd 1 9 y_2 := ltL fc_7 b_3 bx_6 (by decide)
        have b_9 : bd 0 8 v2_3 := add_inv ty_2 b_8 bv2_3 kb_1 (by decide)
        have b_10 : bd 2 10 x_6 := ltR fc_7 b_3 bx_6 (by decide)
        refine lv_aload_n hx hb dX14_fieldAt_17 rfl (lv_at hl 1 rfl) ?_
        refine g_getk (C := RX14) (T := TX14) (N := 67) hx hb hts (mc_ inX14) hown hK g rfl 1 (by decide) rfl (hts _ (List.mem_cons_of_mem _ t_2147)) (fun _ h9 => h9) 1 rfl dX14_fieldAt_18 ?_
        refine g_getr (K := 165) (C := RX12) (T := TX12) (N := 60) hx hb hts (mc_ inX12) hown hK g ma_4 ka_4 (by decide) rfl 9 (by decide) rfl (hts _ (List.mem_cons_of_mem _ t_1924)) (fun _ h9 => h9) rfl dX14_fieldAt_21 (fun a_11 ma_11 ka_11 g => ?_)
        refine lv_bipush (v := 10) hx hb dX14_fieldAt_24 (by decide) ?_
        refine lv_iload_n hx hb dX14_fieldAt_26 rfl (lv_at hl 2 rfl) ?_
        refine lv_imul hx hb dX14_fieldAt_27 ?_
        refine lv_topi (fun y_12 ey_12 => ?_)
        have ty_12 := cmul_bd ey_12 (c := 10) (by decide) bx1_ (by decide)
        have b_13 : bd 0 70 y_12 := mulc_rg ty_12 bx1_ (by decide)
        refine lv_iload_n hx hb dX14_fieldAt_28 rfl (lv_at hl 0 rfl) ?_
        refine lv_iadd hx hb dX14_fieldAt_29 ?_
        refine lv_topi (fun y_14 ey_14 => ?_)
        have ty_14 := add_bd ey_14 b_13 b_9 (by decide)
        have b_15 : bd 0 78 y_14 := add_rg ty_14 b_13 b_9 (by decide)
        refine lv_iconst (v := 1) hx hb dX14_fieldAt_30 (by decide) ?_
        refine lv_iadd hx hb dX14_fieldAt_31 ?_
        refine lv_topi (fun y_16 ey_16 => ?_)
        have ty_16 := add_bd ey_16 b_15 kb_1 (by decide)
        have b_17 : bd 1 79 y_16 := add_rg ty_16 b_15 kb_1 (by decide)
        refine g_iald hx hb hK g ma_11 ka_11 (by decide) rfl (in_bd b_17 (by decide)) dX14_fieldAt_32 (fun x_18 bx_18 cx_18 => ?_)
        refine lv_iload_n hx hb dX14_fieldAt_33 rfl (lv_at hl 3 rfl) ?_
        refine lv_icmp_gt (tgt := 43) hx hb dX14_fieldAt_34 (by decide) (fun c_19 => ?_) (fun c_19 => ?_)
        · have fc_19 := lt_f c_19
          have b_20 : bd (-2147483648) 23 x2_ := ltL fc_19 (bdT x2_) bx_18 (by decide)
          refine lv_iload_n hx hb dX14_fieldAt_43 rfl (lv_at hl 0 rfl) ?_
          subst hQ
          exact W.iret (v := v2_3) hx hb hr (fun t ht hW => ⟨⟨_, _, rfl, ⟨(bd_sub b_9 (by decide)), trivial⟩, q3_of g hK ht hW⟩, g.2.2.1.F ht⟩) g.2.2.1.2.2 dX14_fieldAt_44
        · have fc_19 := nlt_f c_19
          have b_21 : bd 0 2147483647 x2_ := leR fc_19 bx_18 (bdT x2_) (by decide)
          obtain ⟨y_22, ey_22⟩ : ∃ z : Int32, z = v2_3 + 1 := ⟨_, rfl⟩
          refine lv_iinc (v := y_22) (lv' := [(3, .int y_22), (0, .ref a0_), (1, .int x1_), (2, .int x2_)]) hx hb dX14_fieldAt_37 hl (k := 0) rfl (by rw [ey_22]; rfl) (by decide) rfl (fun ls hl => ?_)
          have ty_22 := add_bd ey_22 b_9 kb_1 (by decide)
          have b_23 : bd 1 9 y_22 := add_rg ty_22 b_9 kb_1 (by decide)
          refine lv_goto (tgt := 2) hx hb dX14_fieldAt_40 (by decide) ?_
          have hl9 := lv_sub hl [0, 1, 2, 3] (by rfl : lv_pick [(3, .int y_22), (0, .ref a0_), (1, .int x1_), (2, .int x2_)] [0, 1, 2, 3] = [(3, .int y_22), (0, .ref a0_), (1, .int x1_), (2, .int x2_)])
          have g9 := g.sub (fx' := []) [] rfl
          exact ih2  y_22 (bd_sub b_23 (by decide)) (by have h9_0 := b_23; unfold bd at h9_0; have h9_1 := bv2_3; unfold bd at h9_1; have h9_2 := kb_1; unfold bd at h9_2; omega) _ _ _ _ g9  hl9
  have kb_0 : bd 0 0 (0 : Int32) := ⟨by decide, by decide⟩
  have hl9 := lv_sub hl [0, 1, 2, 3] (by rfl : lv_pick [(3, .int 0), (0, .ref a0_), (1, .int x1_), (2, .int x2_)] [0, 1, 2, 3] = [(3, .int 0), (0, .ref a0_), (1, .int x1_), (2, .int x2_)])
  have g9 := g.sub (fx' := []) [] rfl
  exact loop_1 (21) 0 (bd_sub kb_0 (by decide)) (by have h9_0 := kb_0; unfold bd at h9_0; omega) _ _ _ _ g9  hl9
set_option maxHeartbeats 4000000 in
set_option maxRecDepth 100000 in
theorem r_X14_mayChange (l : Launch) (dC : Nat → ClassId) (dI : Nat → Nat → Nat) (L : List Nat) (kd : Nat → Nat) (tys : List (ClassId × FieldType)) (f0 : Nat → va_E) (sz : Nat) (hWT : WT L kd tys f0) (a0_ : Nat) (ma0_ : a0_ ∈ L) (ka0_ : kd a0_ = 14) (x1_ : Int32) (bx1_ : bd 0 109 x1_) (x2_ : Int32) (bx2_ : bd 0 7 x2_) (x3_ : Int32) (q0_ : Nat) (mq0_ : q0_ ∈ L) (kq0_ : kd q0_ = 12) (V_ : PV) (δ_ : Nat → Nat) (hW : wfP V_ δ_) (hGVq0_ : isV f0 q0_ V_) (ho : okc V_ x2_) (hfx : Fs L kd f0 [(14, 1, a0_, .ref q0_)]) : Met l yX14_mayChange (.code yX14_mayChange cX14_mayChange 7 (some .boolean) :: lw_g) ({ frames := 1, cells := 0, slots := 0, locals := 23 }) (va_Pc [.ref a0_, .int x1_, .int x2_, .int x3_] (P3 (dC, dI) L tys f0 sz)) (va_Qi (fun (r : Int32) (f : Nat → va_E) => (r = 0 ∧ ∃ z0_ : Int32, bd 1 110 z0_ ∧ Fs L kd f [(12, 27, q0_, .int z0_)]) ∨ (r = 1 ∧ True)) (Q3 (dC, dI) L kd tys [] [] f0 sz) (pA L sz)) 0 0 (pA L sz) := by
  refine Met.ofW (cc := cX14_mayChange) (maxL := 7) (ret := (some .boolean)) (by decide) rfl ?_
  intro p e s m args below meth c s₁ B hml hv
  obtain ⟨rfl, hsz, hP, hK, hD0⟩ := hv
  have hx := B.exec
  have hb := B.bytes
  have hr := B.returns
  have hts := atoms_spec (ws := (.code yX14_mayChange cX14_mayChange 7 (some .boolean) :: lw_g)) B.pre
  have hown : s.vm.findClass RX14 = some m.cls := findClass_of_methodNamed B.named
  have hlocks := B.notSynchronized
  subst hsz
  have g : G3 (dC, dI) L kd tys s f0 [] [] f0 s.heap [] [(14, 1, a0_, .ref q0_)] := G3.start hP hD0 hWT hfx
  have hl := lv_entry ([.ref a0_, .int x1_, .int x2_, .int x3_]) (n := 7) (Nat.le_of_ble_eq_true rfl)
  rw [lg_entry_eq]
  generalize (lg_sl ([.ref a0_, .int x1_, .int x2_, .int x3_]) ++ List.replicate (7 - (lg_sl ([.ref a0_, .int x1_, .int x2_, .int x3_])).length) Slot.unset).toArray = ls at hl ⊢
  have hl : lv_has ls 7 [(0, .ref a0_), (1, .int x1_), (2, .int x2_), (3, .int x3_)] := hl
  refine W_q (fun Q hQ => ?_)
  refine lv_iload_n hx hb dX14_mayChange_0 rfl (lv_at hl 2 rfl) ?_
  refine lv_istore (lv' := [(4, .int x2_), (0, .ref a0_), (1, .int x1_), (2, .int x2_), (3, .int x3_)]) hx hb dX14_mayChange_1 hl (by decide) rfl (fun ls hl => ?_)
  have loop_1 : ∀ (n : Nat) (v3_4 : Int32), bd (-1) 7 v3_4 → (v3_4.toInt + 1 < (n : Int)) → ∀ (f : Nat → va_E) (H : Heap) (locs : List Loc) (ls : Array Slot), G3 (dC, dI) L kd tys s f0 [] [] f H locs [(14, 1, a0_, .ref q0_)] → isV f q0_ V_ → (cN V_ x2_ v3_4) → lv_has ls 7 [(4, .int v3_4), (0, .ref a0_), (1, .int x1_), (2, .int x2_), (3, .int x3_)] → W p l e ({ frames := 1, cells := 0, slots := 0, locals := 23 } : Room) s m [.ref a0_, .int x1_, .int x2_, .int x3_].toArray below meth c H locs 0 0 Q (F0 m 3 ls []) := by
    intro n3
    induction n3 with
    | zero =>
      intro v3_4 bv3_4 hm3 f H locs ls g hG3_V_q0_ hI3 hl
      exact absurd hm3 (by have h9_v3_4 := bv3_4; unfold bd at h9_v3_4; omega)
    | succ n3 ih3 =>
      intro v3_4 bv3_4 hm3 f H locs ls g hG3_V_q0_ hI3 hl
      refine lv_iload hx hb dX14_mayChange_3 (lv_at hl 0 rfl) ?_
      refine lv_iconst (v := (-1)) hx hb dX14_mayChange_5 (by decide) ?_
      have kb_m1 : bd (-1) (-1) ((-1) : Int32) := ⟨by decide, by decide⟩
      refine lv_icmp_eq (tgt := 110) hx hb dX14_mayChange_6 (by decide) (fun c_2 => ?_) (fun c_2 => ?_)
      · have fc_2 := eq_f c_2
        have b_3 : bd (-1) (-1) v3_4 := eqX fc_2 bv3_4 kb_m1 (by decide)
        refine lv_iconst (v := 1) hx hb dX14_mayChange_110 (by decide) ?_
        subst hQ
        have kb_1 : bd 1 1 (1 : Int32) := ⟨by decide, by decide⟩
        exact W.zret (v := 1) hx hb hr (nar_z (bd_sub kb_1 (by decide) : bd 0 1 _).1 (bd_sub kb_1 (by decide) : bd 0 1 _).2) (fun t ht hW => ⟨⟨_, _, rfl, Or.inr (⟨rfl, trivial⟩), q3_of g hK ht hW⟩, g.2.2.1.F ht⟩) g.2.2.1.2.2 dX14_mayChange_111
      · have fc_2 := neq_f c_2
        have b_4 : bd 0 7 v3_4 := neX fc_2 bv3_4 kb_m1 (by decide)
        refine lv_aload_n hx hb dX14_mayChange_9 rfl (lv_at hl 1 rfl) ?_
        refine lv_iload hx hb dX14_mayChange_10 (lv_at hl 0 rfl) ?_
        refine lv_iload_n hx hb dX14_mayChange_12 rfl (lv_at hl 2 rfl) ?_
        have go_ := g
        refine g_calli (va_runV (As := [.int v3_4, .int x1_]) (rest := []) ⟨hx, hb, hml, hown, hts⟩ (r_X14_toldBy l dC dI L kd tys f H.size g.2.2.2.1 a0_ ma0_ ka0_ v3_4 (bd_sub b_4 (by decide)) x1_ bx1_ q0_ mq0_ kq0_ V_ δ_ hW hG3_V_q0_ (g.fcts [0] rfl)) (cwV 2 hts (gV_ t_2692 t_2694 t_160 t_198 t_2695) rfl rfl rfl (by decide +kernel) ⟨(Nat.le_of_ble_eq_true rfl), (Nat.le_of_ble_eq_true rfl)⟩) (pre3V g hK ma0_ ka0_ (by decide) (q := (RX14, TX14, 67)) rfl) rfl rfl hl.1 rfl (lv_room (Nat.le_of_ble_eq_true rfl)) dX14_mayChange_13 ⟨(Nat.le_of_ble_eq_true rfl), (Nat.le_of_ble_eq_true rfl)⟩) g hK (by decide) (by decide) (fx' := [(14, 1, a0_, .ref q0_)]) rfl (fun r_5 fr_5 H locs hp hMr_5 g => ?_)
        rcases hp with ⟨h_6, -⟩ | ⟨hx_7, h_8, h_9, x_10, h_11, hF_12⟩
        · have hG_13 := isV.frame hMr_5 go_.2.2.2.1 mq0_ kq0_ (by decide) (by decide) hG3_V_q0_
          obtain rfl : r_5 = (-1) := h_6
          refine lv_istore (lv' := [(5, .int (-1)), (4, .int v3_4), (0, .ref a0_), (1, .int x1_), (2, .int x2_), (3, .int x3_)]) hx hb dX14_mayChange_16 hl (by decide) rfl (fun ls hl => ?_)
          refine lv_iload hx hb dX14_mayChange_18 (lv_at hl 0 rfl) ?_
          refine lv_iconst (v := (-1)) hx hb dX14_mayChange_20 (by decide) ?_
          refine lv_icmp_ne (tgt := 27) hx hb dX14_mayChange_21 (by decide) (fun c_ => absurd c_ (by decide)) (fun c_ => ?_)
          refine lv_goto (tgt := 95) hx hb dX14_mayChange_24 (by decide) ?_
          refine lv_aload_n hx hb dX14_mayChange_95 rfl (lv_at hl 2 rfl) ?_
          refine g_getk (C := RX14) (T := TX14) (N := 67) hx hb hts (mc_ inX14) hown hK g rfl 1 (by decide) rfl (hts _ (List.mem_cons_of_mem _ t_2147)) (fun _ h9 => h9) 0 rfl dX14_mayChange_96 ?_
          refine g_getr (K := 159) (C := RX12) (T := TX12) (N := 60) hx hb hts (mc_ inX12) hown hK g mq0_ kq0_ (by decide) rfl 3 (by decide) rfl (hts _ (List.mem_cons_of_mem _ t_1912)) (fun _ h9 => h9) rfl dX14_mayChange_99 (fun a_14 ma_14 ka_14 g => ?_)
          refine lv_iload hx hb dX14_mayChange_102 (lv_at hl 1 rfl) ?_
          refine g_iald hx hb hK g ma_14 ka_14 (by decide) rfl (in_bd b_4 (by decide)) dX14_mayChange_104 (fun x_15 bx_15 cx_15 => ?_)
          have vx_15 : x_15 = V_.i 3 v3_4.toNatClampNeg := hG_13.at g 0 rfl rfl cx_15
          have hltx_15 := (cN.above (x := x_15) hW (hI3.is fc_2).1 vx_15).2
          refine lv_istore (lv' := [(4, .int x_15), (5, .int (-1)), (0, .ref a0_), (1, .int x1_), (2, .int x2_), (3, .int x3_)]) hx hb dX14_mayChange_105 hl (by decide) rfl (fun ls hl => ?_)
          refine lv_goto (tgt := 3) hx hb dX14_mayChange_107 (by decide) ?_
          have hl9 := lv_sub hl [0, 2, 3, 4, 5] (by rfl : lv_pick [(4, .int x_15), (5, .int (-1)), (0, .ref a0_), (1, .int x1_), (2, .int x2_), (3, .int x3_)] [0, 2, 3, 4, 5] = [(4, .int x_15), (0, .ref a0_), (1, .int x1_), (2, .int x2_), (3, .int x3_)])
          have g9 := g.sub (fx' := [(14, 1, a0_, .ref q0_)]) [1] rfl
          exact ih3  x_15 bx_15 (by have h9_0 := bv3_4; unfold bd at h9_0; have h9_1 := bx_15; unfold bd at h9_1; have h9_2 := kb_m1; unfold bd at h9_2; omega) _ _ _ _ g9 hG_13 (cN.step hW hI3 fc_2 vx_15) hl9
        · have hG_16 := isV.frame hMr_5 go_.2.2.2.1 mq0_ kq0_ (by decide) (by decide) hG3_V_q0_
          have g := g.more hF_12
          refine lv_istore (lv' := [(5, .int r_5), (4, .int v3_4), (0, .ref a0_), (1, .int x1_), (2, .int x2_), (3, .int x3_)]) hx hb dX14_mayChange_16 hl (by decide) rfl (fun ls hl => ?_)
          refine lv_iload hx hb dX14_mayChange_18 (lv_at hl 0 rfl) ?_
          refine lv_iconst (v := (-1)) hx hb dX14_mayChange_20 (by decide) ?_
          refine lv_icmp_ne (tgt := 27) hx hb dX14_mayChange_21 (by decide) (fun c_17 => ?_) (fun c_17 => ?_)
          · have fc_17 := neq_f c_17
            refine lv_bipush (v := 8) hx hb dX14_mayChange_27 (by decide) ?_
            refine lv_iload hx hb dX14_mayChange_29 (lv_at hl 0 rfl) ?_
            refine lv_imul hx hb dX14_mayChange_31 ?_
            refine lv_topi (fun y_18 ey_18 => ?_)
            have ty_18 := cmul_bd ey_18 (c := 8) (by decide) h_8 (by decide)
            have b_19 : bd 0 872 y_18 := mulc_rg ty_18 h_8 (by decide)
            refine lv_istore (lv' := [(6, .int y_18), (5, .int r_5), (4, .int v3_4), (0, .ref a0_), (1, .int x1_), (2, .int x2_), (3, .int x3_)]) hx hb dX14_mayChange_32 hl (by decide) rfl (fun ls hl => ?_)
            have loop_20 : ∀ (n : Nat) (v34_6 : Int32), bd 0 880 v34_6 → (880 - v34_6.toInt < (n : Int)) → ∀ (f : Nat → va_E) (H : Heap) (locs : List Loc) (ls : Array Slot), G3 (dC, dI) L kd tys s f0 [] [] f H locs [(12, 27, q0_, .int x_10), (14, 1, a0_, .ref q0_)] → isV f q0_ V_ → (8 * r_5.toInt ≤ v34_6.toInt) → lv_has ls 7 [(6, .int v34_6), (5, .int r_5), (4, .int v3_4), (0, .ref a0_), (1, .int x1_), (2, .int x2_), (3, .int x3_)] → W p l e ({ frames := 1, cells := 0, slots := 0, locals := 23 } : Room) s m [.ref a0_, .int x1_, .int x2_, .int x3_].toArray below meth c H locs 0 0 Q (F0 m 34 ls []) := by
              intro n34
              induction n34 with
              | zero =>
                intro v34_6 bv34_6 hm34 f H locs ls g hG34_V_q0_ hI34 hl
                exact absurd hm34 (by have h9_v34_6 := bv34_6; unfold bd at h9_v34_6; omega)
              | succ n34 ih34 =>
                intro v34_6 bv34_6 hm34 f H locs ls g hG34_V_q0_ hI34 hl
                refine lv_iload hx hb dX14_mayChange_34 (lv_at hl 0 rfl) ?_
                refine lv_bipush (v := 8) hx hb dX14_mayChange_36 (by decide) ?_
                refine lv_iload hx hb dX14_mayChange_38 (lv_at hl 1 rfl) ?_
                refine lv_imul hx hb dX14_mayChange_40 ?_
                refine lv_topi (fun y_21 ey_21 => ?_)
                obtain rfl : y_18 = y_21 := ey_18.trans ey_21.symm
                refine lv_aload_n hx hb dX14_mayChange_41 rfl (lv_at hl 3 rfl) ?_
                refine g_getk (C := RX14) (T := TX14) (N := 67) hx hb hts (mc_ inX14) hown hK g rfl 1 (by decide) rfl (hts _ (List.mem_cons_of_mem _ t_2147)) (fun _ h9 => h9) 1 rfl dX14_mayChange_42 ?_
                refine g_getr (K := 178) (C := RX12) (T := TX12) (N := 60) hx hb hts (mc_ inX12) hown hK g mq0_ kq0_ (by decide) rfl 22 (by decide) rfl (hts _ (List.mem_cons_of_mem _ t_1950)) (fun _ h9 => h9) rfl dX14_mayChange_45 (fun a_22 ma_22 ka_22 g => ?_)
                refine lv_iload hx hb dX14_mayChange_48 (lv_at hl 1 rfl) ?_
                refine g_iald hx hb hK g ma_22 ka_22 (by decide) rfl (in_bd h_8 (by decide)) dX14_mayChange_50 (fun x_23 bx_23 cx_23 => ?_)
                have vx_23 : x_23 = V_.i 22 r_5.toNatClampNeg := hG34_V_q0_.at g 0 rfl rfl cx_23
                refine lv_iadd hx hb dX14_mayChange_51 ?_
                refine lv_topi (fun y_24 ey_24 => ?_)
                have ty_24 := add_bd ey_24 b_19 bx_23 (by decide)
                have b_25 : bd 0 880 y_24 := add_rg ty_24 b_19 bx_23 (by decide)
                refine lv_icmp_ge (tgt := 95) hx hb dX14_mayChange_52 (by decide) (fun c_26 => ?_) (fun c_26 => ?_)
                · have fc_26 := le_f c_26
                  refine lv_aload_n hx hb dX14_mayChange_95 rfl (lv_at hl 3 rfl) ?_
                  refine g_getk (C := RX14) (T := TX14) (N := 67) hx hb hts (mc_ inX14) hown hK g rfl 1 (by decide) rfl (hts _ (List.mem_cons_of_mem _ t_2147)) (fun _ h9 => h9) 2 rfl dX14_mayChange_96 ?_
                  refine g_getr (K := 159) (C := RX12) (T := TX12) (N := 60) hx hb hts (mc_ inX12) hown hK g mq0_ kq0_ (by decide) rfl 3 (by decide) rfl (hts _ (List.mem_cons_of_mem _ t_1912)) (fun _ h9 => h9) rfl dX14_mayChange_99 (fun a_27 ma_27 ka_27 g => ?_)
                  refine lv_iload hx hb dX14_mayChange_102 (lv_at hl 2 rfl) ?_
                  refine g_iald hx hb hK g ma_27 ka_27 (by decide) rfl (in_bd b_4 (by decide)) dX14_mayChange_104 (fun x_28 bx_28 cx_28 => ?_)
                  have vx_28 : x_28 = V_.i 3 v3_4.toNatClampNeg := hG34_V_q0_.at g 0 rfl rfl cx_28
                  have hltx_28 := (cN.above (x := x_28) hW (hI3.is fc_2).1 vx_28).2
                  refine lv_istore (lv' := [(4, .int x_28), (6, .int v34_6), (5, .int r_5), (0, .ref a0_), (1, .int x1_), (2, .int x2_), (3, .int x3_)]) hx hb dX14_mayChange_105 hl (by decide) rfl (fun ls hl => ?_)
                  refine lv_goto (tgt := 3) hx hb dX14_mayChange_107 (by decide) ?_
                  have hl9 := lv_sub hl [0, 3, 4, 5, 6] (by rfl : lv_pick [(4, .int x_28), (6, .int v34_6), (5, .int r_5), (0, .ref a0_), (1, .int x1_), (2, .int x2_), (3, .int x3_)] [0, 3, 4, 5, 6] = [(4, .int x_28), (0, .ref a0_), (1, .int x1_), (2, .int x2_), (3, .int x3_)])
                  have g9 := g.sub (fx' := [(14, 1, a0_, .ref q0_)]) [3] rfl
                  exact ih3  x_28 bx_28 (by have h9_0 := bv3_4; unfold bd at h9_0; have h9_1 := bx_28; unfold bd at h9_1; have h9_2 := kb_m1; unfold bd at h9_2; omega) _ _ _ _ g9 hG34_V_q0_ (cN.step hW hI3 fc_2 vx_28) hl9
                · have fc_26 := nle_f c_26
                  have b_29 : bd 0 879 v34_6 := ltL fc_26 bv34_6 b_25 (by decide)
                  have b_30 : bd 1 880 y_24 := ltR fc_26 bv34_6 b_25 (by decide)
                  refine lv_aload_n hx hb dX14_mayChange_55 rfl (lv_at hl 3 rfl) ?_
                  refine g_getk (C := RX14) (T := TX14) (N := 67) hx hb hts (mc_ inX14) hown hK g rfl 1 (by decide) rfl (hts _ (List.mem_cons_of_mem _ t_2147)) (fun _ h9 => h9) 2 rfl dX14_mayChange_56 ?_
                  refine g_getr (K := 183) (C := RX12) (T := TX12) (N := 60) hx hb hts (mc_ inX12) hown hK g mq0_ kq0_ (by decide) rfl 28 (by decide) rfl (hts _ (List.mem_cons_of_mem _ t_1961)) (fun _ h9 => h9) rfl dX14_mayChange_59 (fun a_31 ma_31 ka_31 g => ?_)
                  refine lv_iload hx hb dX14_mayChange_62 (lv_at hl 0 rfl) ?_
                  refine g_iald hx hb hK g ma_31 ka_31 (by decide) rfl (in_bd b_29 (by decide)) dX14_mayChange_64 (fun x_32 bx_32 cx_32 => ?_)
                  have vx_32 : x_32 = V_.i 28 v34_6.toNatClampNeg := hG34_V_q0_.at g 0 rfl rfl cx_32
                  refine lv_bipush (v := 6) hx hb dX14_mayChange_65 (by decide) ?_
                  have kb_6 : bd 6 6 (6 : Int32) := ⟨by decide, by decide⟩
                  refine lv_icmp_ne (tgt := 89) hx hb dX14_mayChange_67 (by decide) (fun c_33 => ?_) (fun c_33 => ?_)
                  · have fc_33 := neq_f c_33
                    have kb_1 : bd 1 1 (1 : Int32) := ⟨by decide, by decide⟩
                    obtain ⟨y_34, ey_34⟩ : ∃ z : Int32, z = v34_6 + 1 := ⟨_, rfl⟩
                    refine lv_iinc (v := y_34) (lv' := [(6, .int y_34), (5, .int r_5), (4, .int v3_4), (0, .ref a0_), (1, .int x1_), (2, .int x2_), (3, .int x3_)]) hx hb dX14_mayChange_89 hl (k := 0) rfl (by rw [ey_34]; rfl) (by decide) rfl (fun ls hl => ?_)
                    have ty_34 := add_bd ey_34 b_29 kb_1 (by decide)
                    have b_35 : bd 1 880 y_34 := add_rg ty_34 b_29 kb_1 (by decide)
                    refine lv_goto (tgt := 34) hx hb dX14_mayChange_92 (by decide) ?_
                    have hl9 := lv_sub hl [0, 1, 2, 3, 4, 5, 6] (by rfl : lv_pick [(6, .int y_34), (5, .int r_5), (4, .int v3_4), (0, .ref a0_), (1, .int x1_), (2, .int x2_), (3, .int x3_)] [0, 1, 2, 3, 4, 5, 6] = [(6, .int y_34), (5, .int r_5), (4, .int v3_4), (0, .ref a0_), (1, .int x1_), (2, .int x2_), (3, .int x3_)])
                    have g9 := g.sub (fx' := [(12, 27, q0_, .int x_10), (14, 1, a0_, .ref q0_)]) [2, 3] rfl
                    exact ih34  y_34 (bd_sub b_35 (by decide)) (by have h9_0 := b_35; unfold bd at h9_0; have h9_1 := bv34_6; unfold bd at h9_1; have h9_2 := kb_1; unfold bd at h9_2; have h9_3 := kb_6; unfold bd at h9_3; have h9_4 := kb_m1; unfold bd at h9_4; omega) _ _ _ _ g9 hG34_V_q0_ (by have h9_0 := h_8; unfold bd at h9_0; have h9_1 := b_29; unfold bd at h9_1; have h9_2 := b_4; unfold bd at h9_2; have h9_3 := bx1_; unfold bd at h9_3; have h9_4 := bx2_; unfold bd at h9_4; have h9_5 := h_11; unfold bd at h9_5; have h9_6 := bx_23; unfold bd at h9_6; have h9_7 := b_19; unfold bd at h9_7; have h9_8 := b_30; unfold bd at h9_8; have h9_9 := b_35; unfold bd at h9_9; have h8_0 := kb_1; unfold bd at h8_0; have h8_1 := kb_6; unfold bd at h8_1; have h8_2 := kb_m1; unfold bd at h8_2; omega) hl9
                  · have fc_33 := eq_f c_33
                    have b_36 : bd 6 6 x_32 := eqX fc_33 (bdT x_32) kb_6 (by decide)
                    refine lv_aload_n hx hb dX14_mayChange_70 rfl (lv_at hl 3 rfl) ?_
                    refine g_getk (C := RX14) (T := TX14) (N := 67) hx hb hts (mc_ inX14) hown hK g rfl 1 (by decide) rfl (hts _ (List.mem_cons_of_mem _ t_2147)) (fun _ h9 => h9) 3 rfl dX14_mayChange_71 ?_
                    refine g_getr (K := 186) (C := RX12) (T := TX12) (N := 60) hx hb hts (mc_ inX12) hown hK g mq0_ kq0_ (by decide) rfl 31 (by decide) rfl (hts _ (List.mem_cons_of_mem _ t_1967)) (fun _ h9 => h9) rfl dX14_mayChange_74 (fun a_37 ma_37 ka_37 g => ?_)
                    refine lv_iload hx hb dX14_mayChange_77 (lv_at hl 0 rfl) ?_
                    refine g_iald hx hb hK g ma_37 ka_37 (by decide) rfl (in_bd b_29 (by decide)) dX14_mayChange_79 (fun x_38 bx_38 cx_38 => ?_)
                    have vx_38 : x_38 = V_.i 31 v34_6.toNatClampNeg := hG34_V_q0_.at g 0 rfl rfl cx_38
                    refine lv_iload_n hx hb dX14_mayChange_80 rfl (lv_at hl 6 rfl) ?_
                    refine lv_ishr hx hb dX14_mayChange_81 ?_
                    refine lv_topi (fun y_39 ey_39 => ?_)
                    refine lv_iconst (v := 1) hx hb dX14_mayChange_82 (by decide) ?_
                    have kb_1 : bd 1 1 (1 : Int32) := ⟨by decide, by decide⟩
                    refine lv_iand hx hb dX14_mayChange_83 ?_
                    refine lv_topi (fun y_40 ey_40 => ?_)
                    have b_41 : bd 0 1 y_40 := and_rg ey_40 (bdT y_39) kb_1 (by decide)
                    have kb_0 : bd 0 0 (0 : Int32) := ⟨by decide, by decide⟩
                    refine lv_if_ne (tgt := 89) hx hb dX14_mayChange_84 (by decide) (fun c_42 => ?_) (fun c_42 => ?_)
                    · have fc_42 := neq_f c_42
                      have b_43 : bd 1 1 y_40 := neX fc_42 b_41 kb_0 (by decide)
                      obtain ⟨y_44, ey_44⟩ : ∃ z : Int32, z = v34_6 + 1 := ⟨_, rfl⟩
                      refine lv_iinc (v := y_44) (lv' := [(6, .int y_44), (5, .int r_5), (4, .int v3_4), (0, .ref a0_), (1, .int x1_), (2, .int x2_), (3, .int x3_)]) hx hb dX14_mayChange_89 hl (k := 0) rfl (by rw [ey_44]; rfl) (by decide) rfl (fun ls hl => ?_)
                      have ty_44 := add_bd ey_44 b_29 kb_1 (by decide)
                      have b_45 : bd 1 880 y_44 := add_rg ty_44 b_29 kb_1 (by decide)
                      refine lv_goto (tgt := 34) hx hb dX14_mayChange_92 (by decide) ?_
                      have hl9 := lv_sub hl [0, 1, 2, 3, 4, 5, 6] (by rfl : lv_pick [(6, .int y_44), (5, .int r_5), (4, .int v3_4), (0, .ref a0_), (1, .int x1_), (2, .int x2_), (3, .int x3_)] [0, 1, 2, 3, 4, 5, 6] = [(6, .int y_44), (5, .int r_5), (4, .int v3_4), (0, .ref a0_), (1, .int x1_), (2, .int x2_), (3, .int x3_)])
                      have g9 := g.sub (fx' := [(12, 27, q0_, .int x_10), (14, 1, a0_, .ref q0_)]) [3, 4] rfl
                      exact ih34  y_44 (bd_sub b_45 (by decide)) (by have h9_0 := b_45; unfold bd at h9_0; have h9_1 := bv34_6; unfold bd at h9_1; have h9_2 := kb_0; unfold bd at h9_2; have h9_3 := kb_1; unfold bd at h9_3; have h9_4 := kb_6; unfold bd at h9_4; have h9_5 := kb_m1; unfold bd at h9_5; omega) _ _ _ _ g9 hG34_V_q0_ (by have h9_0 := h_8; unfold bd at h9_0; have h9_1 := b_29; unfold bd at h9_1; have h9_2 := b_4; unfold bd at h9_2; have h9_3 := bx1_; unfold bd at h9_3; have h9_4 := bx2_; unfold bd at h9_4; have h9_5 := h_11; unfold bd at h9_5; have h9_6 := bx_23; unfold bd at h9_6; have h9_7 := b_36; unfold bd at h9_7; have h9_8 := b_19; unfold bd at h9_8; have h9_9 := b_30; unfold bd at h9_9; have h9_10 := b_43; unfold bd at h9_10; have h9_11 := b_45; unfold bd at h9_11; have h8_0 := kb_0; unfold bd at h8_0; have h8_1 := kb_1; unfold bd at h8_1; have h8_2 := kb_6; unfold bd at h8_2; have h8_3 := kb_m1; unfold bd at h8_3; omega) hl9
                    · have fc_42 := eq_f c_42
                      have b_46 : bd 0 0 y_40 := eqX fc_42 b_41 kb_0 (by decide)
                      refine lv_iconst (v := 0) hx hb dX14_mayChange_87 (by decide) ?_
                      subst hQ
                      exact W.zret (v := 0) hx hb hr (nar_z (bd_sub kb_0 (by decide) : bd 0 1 _).1 (bd_sub kb_0 (by decide) : bd 0 1 _).2) (fun t ht hW => ⟨⟨_, _, rfl, Or.inl ⟨rfl, x_10, h_11, (g.fcts [3] rfl)⟩, q3_of g hK ht hW⟩, g.2.2.1.F ht⟩) g.2.2.1.2.2 dX14_mayChange_88
            have hl9 := lv_sub hl [0, 1, 2, 3, 4, 5, 6] (by rfl : lv_pick [(6, .int y_18), (5, .int r_5), (4, .int v3_4), (0, .ref a0_), (1, .int x1_), (2, .int x2_), (3, .int x3_)] [0, 1, 2, 3, 4, 5, 6] = [(6, .int y_18), (5, .int r_5), (4, .int v3_4), (0, .ref a0_), (1, .int x1_), (2, .int x2_), (3, .int x3_)])
            have g9 := g.sub (fx' := [(12, 27, q0_, .int x_10), (14, 1, a0_, .ref q0_)]) [0, 1] rfl
            exact loop_20 (1763) y_18 (bd_sub b_19 (by decide)) (by have h9_0 := b_19; unfold bd at h9_0; have h9_1 := kb_m1; unfold bd at h9_1; omega) _ _ _ _ g9 hG_16 (by have h9_0 := h_8; unfold bd at h9_0; have h9_1 := b_4; unfold bd at h9_1; have h9_2 := bx1_; unfold bd at h9_2; have h9_3 := bx2_; unfold bd at h9_3; have h9_4 := h_11; unfold bd at h9_4; have h9_5 := b_19; unfold bd at h9_5; have h8_0 := kb_m1; unfold bd at h8_0; omega) hl9
          · have fc_17 := eq_f c_17
            have b_47 : bd 0 (-1) r_5 := eqX fc_17 h_8 kb_m1 (by decide)
            exact bd_no b_47 (by decide)
  have hl9 := lv_sub hl [0, 1, 2, 3, 4] (by rfl : lv_pick [(4, .int x2_), (0, .ref a0_), (1, .int x1_), (2, .int x2_), (3, .int x3_)] [0, 1, 2, 3, 4] = [(4, .int x2_), (0, .ref a0_), (1, .int x1_), (2, .int x2_), (3, .int x3_)])
  have g9 := g.sub (fx' := [(14, 1, a0_, .ref q0_)]) [0] rfl
  exact loop_1 (20) x2_ (bd_sub bx2_ (by decide)) (by have h9_0 := bx2_; unfold bd at h9_0; omega) _ _ _ _ g9 hGVq0_ (cN.of ho rfl) hl9
set_option maxHeartbeats 4000000 in
set_option maxRecDepth 100000 in
theorem r_X14_changes (l : Launch) (dC : Nat → ClassId) (dI : Nat → Nat → Nat) (L : List Nat) (kd : Nat → Nat) (tys : List (ClassId × FieldType)) (f0 : Nat → va_E) (sz : Nat) (hWT : WT L kd tys f0) (a0_ : Nat) (ma0_ : a0_ ∈ L) (ka0_ : kd a0_ = 14) (x1_ : Int32) (bx1_ : bd 0 109 x1_) (x2_ : Int32) (bx2_ : bd 0 2 x2_) (q0_ : Nat) (mq0_ : q0_ ∈ L) (kq0_ : kd q0_ = 12) (V_ : PV) (δ_ : Nat → Nat) (hW : wfP V_ δ_) (O_ : Nat → Int32) (hGOa0_ : OA f0 a0_ O_) (hGVq0_ : isV f0 q0_ V_) (ho : okc V_ (O_ x2_.toNatClampNeg)) (hfx : Fs L kd f0 [(14, 1, a0_, .ref q0_)]) : Met l yX14_changes (.code yX14_changes cX14_changes 6 (some .int) :: lw_g) ({ frames := 2, cells := 0, slots := 0, locals := 49 }) (va_Pc [.ref a0_, .int x1_, .int x2_] (P3 (dC, dI) L tys f0 sz)) (va_Qi (fun (r : Int32) (f : Nat → va_E) => (bd 0 5 r ∧ True)) (Q3 (dC, dI) L kd tys [] [229] f0 sz) (pA L sz)) 0 0 (pA L sz) := by
  refine Met.ofW (cc := cX14_changes) (maxL := 6) (ret := (some .int)) (by decide) rfl ?_
  intro p e s m args below meth c s₁ B hml hv
  obtain ⟨rfl, hsz, hP, hK, hD0⟩ := hv
  have hx := B.exec
  have hb := B.bytes
  have hr := B.returns
  have hts := atoms_spec (ws := (.code yX14_changes cX14_changes 6 (some .int) :: lw_g)) B.pre
  have hown : s.vm.findClass RX14 = some m.cls := findClass_of_methodNamed B.named
  have hlocks := B.notSynchronized
  subst hsz
  have g : G3 (dC, dI) L kd tys s f0 [] [229] f0 s.heap [] [(14, 1, a0_, .ref q0_)] := G3.start hP hD0 hWT hfx
  have hl := lv_entry ([.ref a0_, .int x1_, .int x2_]) (n := 6) (Nat.le_of_ble_eq_true rfl)
  rw [lg_entry_eq]
  generalize (lg_sl ([.ref a0_, .int x1_, .int x2_]) ++ List.replicate (6 - (lg_sl ([.ref a0_, .int x1_, .int x2_])).length) Slot.unset).toArray = ls at hl ⊢
  have hl : lv_has ls 6 [(0, .ref a0_), (1, .int x1_), (2, .int x2_)] := hl
  refine W_q (fun Q hQ => ?_)
  refine lv_aload_n hx hb dX14_changes_0 rfl (lv_at hl 0 rfl) ?_
  refine g_getr (K := 215) (C := RX14) (T := TX14) (N := 67) hx hb hts (mc_ inX14) hown hK g ma0_ ka0_ (by decide) rfl 27 (by decide) rfl (hts _ (List.mem_cons_of_mem _ t_2173)) (fun _ h9 => h9) rfl dX14_changes_1 (fun a_1 ma_1 ka_1 g => ?_)
  refine lv_iload_n hx hb dX14_changes_4 rfl (lv_at hl 2 rfl) ?_
  refine g_iald hx hb hK g ma_1 ka_1 (by decide) rfl (in_bd bx2_ (by decide)) dX14_changes_5 (fun x_2 bx_2 cx_2 => ?_)
  have vx_2 := hGOa0_.cls g 0 rfl cx_2
  have b_3 : bd 0 7 x_2 := ⟨(by rw [vx_2]; exact ho.1), bx_2.2⟩
  refine lv_istore_n (lv' := [(3, .int x_2), (0, .ref a0_), (1, .int x1_), (2, .int x2_)]) hx hb dX14_changes_6 rfl hl (by decide) rfl (fun ls hl => ?_)
  refine lv_iconst (v := (-1)) hx hb dX14_changes_7 (by decide) ?_
  refine lv_istore (lv' := [(4, .int (-1)), (3, .int x_2), (0, .ref a0_), (1, .int x1_), (2, .int x2_)]) hx hb dX14_changes_8 hl (by decide) rfl (fun ls hl => ?_)
  refine lv_aload_n hx hb dX14_changes_10 rfl (lv_at hl 2 rfl) ?_
  refine g_getk (C := RX14) (T := TX14) (N := 67) hx hb hts (mc_ inX14) hown hK g rfl 1 (by decide) rfl (hts _ (List.mem_cons_of_mem _ t_2147)) (fun _ h9 => h9) 1 rfl dX14_changes_11 ?_
  refine g_getr (K := 161) (C := RX12) (T := TX12) (N := 60) hx hb hts (mc_ inX12) hown hK g mq0_ kq0_ (by decide) rfl 5 (by decide) rfl (hts _ (List.mem_cons_of_mem _ t_1916)) (fun _ h9 => h9) rfl dX14_changes_14 (fun a_4 ma_4 ka_4 g => ?_)
  refine lv_iload_n hx hb dX14_changes_17 rfl (lv_at hl 1 rfl) ?_
  refine g_iald hx hb hK g ma_4 ka_4 (by decide) rfl (in_bd b_3 (by decide)) dX14_changes_18 (fun x_5 bx_5 cx_5 => ?_)
  have vx_5 : x_5 = V_.i 5 x_2.toNatClampNeg := hGVq0_.at g 0 rfl rfl cx_5
  refine lv_iconst (v := 1) hx hb dX14_changes_19 (by decide) ?_
  have kb_1 : bd 1 1 (1 : Int32) := ⟨by decide, by decide⟩
  refine lv_isub hx hb dX14_changes_20 ?_
  refine lv_topi (fun y_6 ey_6 => ?_)
  have ty_6 := sub_bd ey_6 bx_5 kb_1 (by decide)
  have b_7 : bd (-1) 23 y_6 := sub_rg ty_6 bx_5 kb_1 (by decide)
  refine lv_istore (lv' := [(5, .int y_6), (4, .int (-1)), (3, .int x_2), (0, .ref a0_), (1, .int x1_), (2, .int x2_)]) hx hb dX14_changes_21 hl (by decide) rfl (fun ls hl => ?_)
  have loop_8 : ∀ (n : Nat) (v23_5 : Int32) (v23_4 : Int32), bd (-1) 23 v23_5 → bd (-1) 24 v23_4 → (v23_5.toInt - (-1) < (n : Int)) → ∀ (f : Nat → va_E) (H : Heap) (locs : List Loc) (ls : Array Slot), G3 (dC, dI) L kd tys s f0 [] [229] f H locs [(12, 5, q0_, .ref a_4), (14, 27, a0_, .ref a_1), (14, 1, a0_, .ref q0_)] → OA f a0_ O_ → isV f q0_ V_ → lv_has ls 6 [(5, .int v23_5), (4, .int v23_4), (3, .int x_2), (0, .ref a0_), (1, .int x1_), (2, .int x2_)] → W p l e ({ frames := 2, cells := 0, slots := 0, locals := 49 } : Room) s m [.ref a0_, .int x1_, .int x2_].toArray below meth c H locs 0 0 Q (F0 m 23 ls []) := by
    intro n23
    induction n23 with
    | zero =>
      intro v23_5 v23_4 bv23_5 bv23_4 hm23 f H locs ls g hG23_O_a0_ hG23_V_q0_ hl
      exact absurd hm23 (by have h9_v23_5 := bv23_5; unfold bd at h9_v23_5; have h9_v23_4 := bv23_4; unfold bd at h9_v23_4; omega)
    | succ n23 ih23 =>
      intro v23_5 v23_4 bv23_5 bv23_4 hm23 f H locs ls g hG23_O_a0_ hG23_V_q0_ hl
      refine lv_iload hx hb dX14_changes_23 (lv_at hl 0 rfl) ?_
      have kb_0 : bd 0 0 (0 : Int32) := ⟨by decide, by decide⟩
      refine lv_if_lt (tgt := 60) hx hb dX14_changes_25 (by decide) (fun c_9 => ?_) (fun c_9 => ?_)
      · have fc_9 := lt_f c_9
        have b_10 : bd (-1) (-1) v23_5 := ltL fc_9 bv23_5 kb_0 (by decide)
        refine lv_iload hx hb dX14_changes_60 (lv_at hl 1 rfl) ?_
        refine lv_iconst (v := (-1)) hx hb dX14_changes_62 (by decide) ?_
        have kb_m1 : bd (-1) (-1) ((-1) : Int32) := ⟨by decide, by decide⟩
        refine lv_icmp_ne (tgt := 68) hx hb dX14_changes_63 (by decide) (fun c_11 => ?_) (fun c_11 => ?_)
        · have fc_11 := neq_f c_11
          have b_12 : bd 0 24 v23_4 := neX fc_11 bv23_4 kb_m1 (by decide)
          refine lv_aload_n hx hb dX14_changes_68 rfl (lv_at hl 3 rfl) ?_
          refine g_getr (K := 229) (C := RX14) (T := TX14) (N := 67) hx hb hts (mc_ inX14) hown hK g ma0_ ka0_ (by decide) rfl 57 (by decide) rfl (hts _ (List.mem_cons_of_mem _ t_2203)) (fun _ h9 => h9) rfl dX14_changes_69 (fun a_13 ma_13 ka_13 g => ?_)
          refine lv_iconst (v := 0) hx hb dX14_changes_72 (by decide) ?_
          refine lv_iload_n hx hb dX14_changes_73 rfl (lv_at hl 5 rfl) ?_
          have go_ := g
          refine g_iast hx hb hK g ma_13 ka_13 (by decide) rfl (by unfold vp_in; decide) (bd_sub bx2_ (by decide)) (by decide) dX14_changes_74 (fun f H locs hM_14 g => ?_)
          have hG_15 := OA.frame hM_14 go_.2.2.2.1 ma0_ ka0_ (by decide) (by decide) hG23_O_a0_
          have hG_16 := isV.frame hM_14 go_.2.2.2.1 mq0_ kq0_ (by decide) (by decide) hG23_V_q0_
          refine lv_aload_n hx hb dX14_changes_75 rfl (lv_at hl 3 rfl) ?_
          refine g_getk (C := RX14) (T := TX14) (N := 67) hx hb hts (mc_ inX14) hown hK g rfl 57 (by decide) rfl (hts _ (List.mem_cons_of_mem _ t_2203)) (fun _ h9 => h9) 0 rfl dX14_changes_76 ?_
          refine lv_iconst (v := 1) hx hb dX14_changes_79 (by decide) ?_
          refine lv_iload hx hb dX14_changes_80 (lv_at hl 1 rfl) ?_
          have go_ := g
          refine g_iast hx hb hK g ma_13 ka_13 (by decide) rfl (by unfold vp_in; decide) (bd_sub b_12 (by decide)) (by decide) dX14_changes_82 (fun f H locs hM_17 g => ?_)
          have hG_18 := OA.frame hM_17 go_.2.2.2.1 ma0_ ka0_ (by decide) (by decide) hG_15
          have hG_19 := isV.frame hM_17 go_.2.2.2.1 mq0_ kq0_ (by decide) (by decide) hG_16
          refine lv_aload_n hx hb dX14_changes_83 rfl (lv_at hl 3 rfl) ?_
          refine g_getk (C := RX14) (T := TX14) (N := 67) hx hb hts (mc_ inX14) hown hK g rfl 1 (by decide) rfl (hts _ (List.mem_cons_of_mem _ t_2147)) (fun _ h9 => h9) 3 rfl dX14_changes_84 ?_
          refine g_getr (K := 182) (C := RX12) (T := TX12) (N := 60) hx hb hts (mc_ inX12) hown hK g mq0_ kq0_ (by decide) rfl 26 (by decide) rfl (hts _ (List.mem_cons_of_mem _ t_1958)) (fun _ h9 => h9) rfl dX14_changes_87 (fun a_20 ma_20 ka_20 g => ?_)
          refine lv_iload_n hx hb dX14_changes_90 rfl (lv_at hl 4 rfl) ?_
          refine g_zald hx hb hK g ma_20 ka_20 (by decide) rfl (in_bd bx1_ (by decide)) dX14_changes_91 (fun x_21 bx_21 => ?_)
          refine lv_if_eq (tgt := 97) hx hb dX14_changes_92 (by decide) (fun c_22 => ?_) (fun c_22 => ?_)
          · have fc_22 := eq_f c_22
            have b_23 : bd 0 0 x_21 := eqX fc_22 bx_21 kb_0 (by decide)
            refine lv_iload hx hb dX14_changes_97 (lv_at hl 1 rfl) ?_
            refine lv_istore (lv' := [(5, .int v23_4), (4, .int v23_4), (3, .int x_2), (0, .ref a0_), (1, .int x1_), (2, .int x2_)]) hx hb dX14_changes_99 hl (by decide) rfl (fun ls hl => ?_)
            have loop_24 : ∀ (n : Nat) (v101_5 : Int32), bd 0 24 v101_5 → (24 - v101_5.toInt < (n : Int)) → ∀ (f : Nat → va_E) (H : Heap) (locs : List Loc) (ls : Array Slot), G3 (dC, dI) L kd tys s f0 [] [229] f H locs [(12, 26, q0_, .ref a_20), (14, 57, a0_, .ref a_13), (12, 5, q0_, .ref a_4), (14, 27, a0_, .ref a_1), (14, 1, a0_, .ref q0_)] → OA f a0_ O_ → isV f q0_ V_ → lv_has ls 6 [(5, .int v101_5), (4, .int v23_4), (3, .int x_2), (0, .ref a0_), (1, .int x1_), (2, .int x2_)] → W p l e ({ frames := 2, cells := 0, slots := 0, locals := 49 } : Room) s m [.ref a0_, .int x1_, .int x2_].toArray below meth c H locs 0 0 Q (F0 m 101 ls []) := by
              intro n101
              induction n101 with
              | zero =>
                intro v101_5 bv101_5 hm101 f H locs ls g hG101_O_a0_ hG101_V_q0_ hl
                exact absurd hm101 (by have h9_v101_5 := bv101_5; unfold bd at h9_v101_5; omega)
              | succ n101 ih101 =>
                intro v101_5 bv101_5 hm101 f H locs ls g hG101_O_a0_ hG101_V_q0_ hl
                refine lv_iload hx hb dX14_changes_101 (lv_at hl 0 rfl) ?_
                refine lv_aload_n hx hb dX14_changes_103 rfl (lv_at hl 3 rfl) ?_
                refine g_getk (C := RX14) (T := TX14) (N := 67) hx hb hts (mc_ inX14) hown hK g rfl 1 (by decide) rfl (hts _ (List.mem_cons_of_mem _ t_2147)) (fun _ h9 => h9) 4 rfl dX14_changes_104 ?_
                refine g_getk (C := RX12) (T := TX12) (N := 60) hx hb hts (mc_ inX12) hown hK g rfl 5 (by decide) rfl (hts _ (List.mem_cons_of_mem _ t_1916)) (fun _ h9 => h9) 2 rfl dX14_changes_107 ?_
                refine lv_iload_n hx hb dX14_changes_110 rfl (lv_at hl 2 rfl) ?_
                refine g_iald hx hb hK g ma_4 ka_4 (by decide) rfl (in_bd b_3 (by decide)) dX14_changes_111 (fun x_25 bx_25 cx_25 => ?_)
                have vx_25 : x_25 = V_.i 5 x_2.toNatClampNeg := hG101_V_q0_.at g 2 rfl rfl cx_25
                refine lv_icmp_ge (tgt := 172) hx hb dX14_changes_112 (by decide) (fun c_26 => ?_) (fun c_26 => ?_)
                · have fc_26 := le_f c_26
                  refine lv_aload_n hx hb dX14_changes_172 rfl (lv_at hl 3 rfl) ?_
                  refine g_getk (C := RX14) (T := TX14) (N := 67) hx hb hts (mc_ inX14) hown hK g rfl 57 (by decide) rfl (hts _ (List.mem_cons_of_mem _ t_2203)) (fun _ h9 => h9) 1 rfl dX14_changes_173 ?_
                  refine lv_iconst (v := 0) hx hb dX14_changes_176 (by decide) ?_
                  refine lv_iconst (v := (-1)) hx hb dX14_changes_177 (by decide) ?_
                  have go_ := g
                  refine g_iast hx hb hK g ma_13 ka_13 (by decide) rfl (by unfold vp_in; decide) (bd_sub kb_m1 (by decide)) (by decide) dX14_changes_178 (fun f H locs hM_27 g => ?_)
                  have hG_28 := OA.frame hM_27 go_.2.2.2.1 ma0_ ka0_ (by decide) (by decide) hG101_O_a0_
                  have hG_29 := isV.frame hM_27 go_.2.2.2.1 mq0_ kq0_ (by decide) (by decide) hG101_V_q0_
                  refine lv_aload_n hx hb dX14_changes_179 rfl (lv_at hl 3 rfl) ?_
                  refine g_getk (C := RX14) (T := TX14) (N := 67) hx hb hts (mc_ inX14) hown hK g rfl 57 (by decide) rfl (hts _ (List.mem_cons_of_mem _ t_2203)) (fun _ h9 => h9) 1 rfl dX14_changes_180 ?_
                  refine lv_iconst (v := 1) hx hb dX14_changes_183 (by decide) ?_
                  refine lv_iconst (v := (-1)) hx hb dX14_changes_184 (by decide) ?_
                  have go_ := g
                  refine g_iast hx hb hK g ma_13 ka_13 (by decide) rfl (by unfold vp_in; decide) (bd_sub kb_m1 (by decide)) (by decide) dX14_changes_185 (fun f H locs hM_30 g => ?_)
                  have hG_31 := OA.frame hM_30 go_.2.2.2.1 ma0_ ka0_ (by decide) (by decide) hG_28
                  have hG_32 := isV.frame hM_30 go_.2.2.2.1 mq0_ kq0_ (by decide) (by decide) hG_29
                  refine lv_iconst (v := 0) hx hb dX14_changes_186 (by decide) ?_
                  subst hQ
                  exact W.iret (v := 0) hx hb hr (fun t ht hW => ⟨⟨_, _, rfl, ⟨(bd_sub kb_0 (by decide)), trivial⟩, q3_of g hK ht hW⟩, g.2.2.1.F ht⟩) g.2.2.1.2.2 dX14_changes_187
                · have fc_26 := nle_f c_26
                  have b_33 : bd 0 23 v101_5 := ltL fc_26 bv101_5 bx_25 (by decide)
                  have b_34 : bd 1 24 x_25 := ltR fc_26 bv101_5 bx_25 (by decide)
                  refine lv_aload_n hx hb dX14_changes_115 rfl (lv_at hl 3 rfl) ?_
                  refine g_getr (K := 216) (C := RX14) (T := TX14) (N := 67) hx hb hts (mc_ inX14) hown hK g ma0_ ka0_ (by decide) rfl 28 (by decide) rfl (hts _ (List.mem_cons_of_mem _ t_2174)) (fun _ h9 => h9) rfl dX14_changes_116 (fun a_35 ma_35 ka_35 g => ?_)
                  refine lv_bipush (v := 24) hx hb dX14_changes_119 (by decide) ?_
                  refine lv_iload_n hx hb dX14_changes_121 rfl (lv_at hl 5 rfl) ?_
                  refine lv_imul hx hb dX14_changes_122 ?_
                  refine lv_topi (fun y_36 ey_36 => ?_)
                  have ty_36 := cmul_bd ey_36 (c := 24) (by decide) bx2_ (by decide)
                  have b_37 : bd 0 48 y_36 := mulc_rg ty_36 bx2_ (by decide)
                  refine lv_iload hx hb dX14_changes_123 (lv_at hl 0 rfl) ?_
                  refine lv_iadd hx hb dX14_changes_125 ?_
                  refine lv_topi (fun y_38 ey_38 => ?_)
                  have ty_38 := add_bd ey_38 b_37 b_33 (by decide)
                  have b_39 : bd 0 71 y_38 := add_rg ty_38 b_37 b_33 (by decide)
                  refine g_iald hx hb hK g ma_35 ka_35 (by decide) rfl (in_bd b_39 (by decide)) dX14_changes_126 (fun x_40 bx_40 cx_40 => ?_)
                  refine lv_aload_n hx hb dX14_changes_127 rfl (lv_at hl 3 rfl) ?_
                  refine g_getr (K := 217) (C := RX14) (T := TX14) (N := 67) hx hb hts (mc_ inX14) hown hK g ma0_ ka0_ (by decide) rfl 29 (by decide) rfl (hts _ (List.mem_cons_of_mem _ t_2175)) (fun _ h9 => h9) rfl dX14_changes_128 (fun a_41 ma_41 ka_41 g => ?_)
                  refine lv_iload hx hb dX14_changes_131 (lv_at hl 0 rfl) ?_
                  refine g_iald hx hb hK g ma_41 ka_41 (by decide) rfl (in_bd b_33 (by decide)) dX14_changes_133 (fun x_42 bx_42 cx_42 => ?_)
                  refine lv_icmp_eq (tgt := 166) hx hb dX14_changes_134 (by decide) (fun c_43 => ?_) (fun c_43 => ?_)
                  · have fc_43 := eq_f c_43
                    obtain ⟨y_44, ey_44⟩ : ∃ z : Int32, z = v101_5 + 1 := ⟨_, rfl⟩
                    refine lv_iinc (v := y_44) (lv' := [(5, .int y_44), (4, .int v23_4), (3, .int x_2), (0, .ref a0_), (1, .int x1_), (2, .int x2_)]) hx hb dX14_changes_166 hl (k := 0) rfl (by rw [ey_44]; rfl) (by decide) rfl (fun ls hl => ?_)
                    have ty_44 := add_bd ey_44 b_33 kb_1 (by decide)
                    have b_45 : bd 1 24 y_44 := add_rg ty_44 b_33 kb_1 (by decide)
                    refine lv_goto (tgt := 101) hx hb dX14_changes_169 (by decide) ?_
                    have hl9 := lv_sub hl [0, 1, 2, 3, 4, 5] (by rfl : lv_pick [(5, .int y_44), (4, .int v23_4), (3, .int x_2), (0, .ref a0_), (1, .int x1_), (2, .int x2_)] [0, 1, 2, 3, 4, 5] = [(5, .int y_44), (4, .int v23_4), (3, .int x_2), (0, .ref a0_), (1, .int x1_), (2, .int x2_)])
                    have g9 := g.sub (fx' := [(12, 26, q0_, .ref a_20), (14, 57, a0_, .ref a_13), (12, 5, q0_, .ref a_4), (14, 27, a0_, .ref a_1), (14, 1, a0_, .ref q0_)]) [2, 3, 4, 5, 6] rfl
                    exact ih101  y_44 (bd_sub b_45 (by decide)) (by have h9_0 := b_45; unfold bd at h9_0; have h9_1 := bv101_5; unfold bd at h9_1; have h9_2 := kb_0; unfold bd at h9_2; have h9_3 := kb_1; unfold bd at h9_3; have h9_4 := kb_m1; unfold bd at h9_4; omega) _ _ _ _ g9 hG101_O_a0_ hG101_V_q0_ hl9
                  · have fc_43 := neq_f c_43
                    refine lv_aload_n hx hb dX14_changes_137 rfl (lv_at hl 3 rfl) ?_
                    refine lv_iload_n hx hb dX14_changes_138 rfl (lv_at hl 4 rfl) ?_
                    refine lv_iload_n hx hb dX14_changes_139 rfl (lv_at hl 2 rfl) ?_
                    refine lv_aload_n hx hb dX14_changes_140 rfl (lv_at hl 3 rfl) ?_
                    refine lv_iload_n hx hb dX14_changes_141 rfl (lv_at hl 2 rfl) ?_
                    refine lv_iload hx hb dX14_changes_142 (lv_at hl 0 rfl) ?_
                    have go_ := g
                    refine g_calli (va_runV (As := [.int x_2, .int v101_5]) (rest := [.int x_2, .int x1_, .ref a0_]) ⟨hx, hb, hml, hown, hts⟩ (r_X14_fieldAt l dC dI L kd tys f H.size g.2.2.2.1 a0_ ma0_ ka0_ x_2 b_3 v101_5) (cwV 2 hts (gV_ t_2708 t_2710 t_164 t_198 t_2711) rfl rfl rfl (by decide +kernel) ⟨(Nat.le_of_ble_eq_true rfl), (Nat.le_of_ble_eq_true rfl)⟩) (pre3V g hK ma0_ ka0_ (by decide) (q := (RX14, TX14, 67)) rfl) rfl rfl hl.1 rfl (lv_room (Nat.le_of_ble_eq_true rfl)) dX14_changes_144 ⟨(Nat.le_of_ble_eq_true rfl), (Nat.le_of_ble_eq_true rfl)⟩) g hK (by decide) (by decide) (fx' := [(14, 29, a0_, .ref a_41), (14, 28, a0_, .ref a_35), (12, 26, q0_, .ref a_20), (14, 57, a0_, .ref a_13), (12, 5, q0_, .ref a_4), (14, 27, a0_, .ref a_1), (14, 1, a0_, .ref q0_)]) rfl (fun r_46 fr_46 H locs hp hMr_46 g => ?_)
                    obtain ⟨h_47, -⟩ := hp
                    have hG_48 := OA.frame hMr_46 go_.2.2.2.1 ma0_ ka0_ (by decide) (by decide) hG101_O_a0_
                    have hG_49 := isV.frame hMr_46 go_.2.2.2.1 mq0_ kq0_ (by decide) (by decide) hG101_V_q0_
                    have go_ := g
                    refine g_calli (va_runV (As := [.int x1_, .int x_2, .int r_46]) (rest := []) ⟨hx, hb, hml, hown, hts⟩ (r_X14_mayChange l dC dI L kd tys fr_46 H.size g.2.2.2.1 a0_ ma0_ ka0_ x1_ bx1_ x_2 b_3 r_46 q0_ mq0_ kq0_ V_ δ_ hW hG_49 (by rw [vx_2]; exact ho) (g.fcts [6] rfl)) (cwV 3 hts (gV_ t_2712 t_2714 t_165 t_198 t_2715) rfl rfl rfl (by decide +kernel) ⟨(Nat.le_of_ble_eq_true rfl), (Nat.le_of_ble_eq_true rfl)⟩) (pre3V g hK ma0_ ka0_ (by decide) (q := (RX14, TX14, 67)) rfl) rfl rfl hl.1 rfl (lv_room (Nat.le_of_ble_eq_true rfl)) dX14_changes_147 ⟨(Nat.le_of_ble_eq_true rfl), (Nat.le_of_ble_eq_true rfl)⟩) g hK (by decide) (by decide) (fx' := [(14, 29, a0_, .ref a_41), (14, 28, a0_, .ref a_35), (12, 26, q0_, .ref a_20), (14, 57, a0_, .ref a_13), (12, 5, q0_, .ref a_4), (14, 27, a0_, .ref a_1), (14, 1, a0_, .ref q0_)]) rfl (fun r_50 fr_50 H locs hp hMr_50 g => ?_)
                    rcases hp with ⟨h_51, x_52, h_53, hF_54⟩ | ⟨h_55, -⟩
                    · have hG_56 := OA.frame hMr_50 go_.2.2.2.1 ma0_ ka0_ (by decide) (by decide) hG_48
                      have hG_57 := isV.frame hMr_50 go_.2.2.2.1 mq0_ kq0_ (by decide) (by decide) hG_49
                      obtain rfl : r_50 = 0 := h_51
                      have g := g.more hF_54
                      refine lv_if_eq (tgt := 156) hx hb dX14_changes_150 (by decide) (fun c_ => ?_) (fun c_ => absurd (by decide) c_)
                      refine lv_aload_n hx hb dX14_changes_156 rfl (lv_at hl 3 rfl) ?_
                      refine g_getk (C := RX14) (T := TX14) (N := 67) hx hb hts (mc_ inX14) hown hK g rfl 57 (by decide) rfl (hts _ (List.mem_cons_of_mem _ t_2203)) (fun _ h9 => h9) 4 rfl dX14_changes_157 ?_
                      refine lv_iconst (v := 1) hx hb dX14_changes_160 (by decide) ?_
                      refine lv_iload hx hb dX14_changes_161 (lv_at hl 0 rfl) ?_
                      have go_ := g
                      refine g_iast hx hb hK g ma_13 ka_13 (by decide) rfl (by unfold vp_in; decide) (bd_sub b_33 (by decide)) (by decide) dX14_changes_163 (fun f H locs hM_58 g => ?_)
                      have hG_59 := OA.frame hM_58 go_.2.2.2.1 ma0_ ka0_ (by decide) (by decide) hG_56
                      have hG_60 := isV.frame hM_58 go_.2.2.2.1 mq0_ kq0_ (by decide) (by decide) hG_57
                      refine lv_iconst (v := 4) hx hb dX14_changes_164 (by decide) ?_
                      have kb_4 : bd 4 4 (4 : Int32) := ⟨by decide, by decide⟩
                      subst hQ
                      exact W.iret (v := 4) hx hb hr (fun t ht hW => ⟨⟨_, _, rfl, ⟨(bd_sub kb_4 (by decide)), trivial⟩, q3_of g hK ht hW⟩, g.2.2.1.F ht⟩) g.2.2.1.2.2 dX14_changes_165
                    · have hG_61 := OA.frame hMr_50 go_.2.2.2.1 ma0_ ka0_ (by decide) (by decide) hG_48
                      have hG_62 := isV.frame hMr_50 go_.2.2.2.1 mq0_ kq0_ (by decide) (by decide) hG_49
                      obtain rfl : r_50 = 1 := h_55
                      refine lv_if_eq (tgt := 156) hx hb dX14_changes_150 (by decide) (fun c_ => absurd c_ (by decide)) (fun c_ => ?_)
                      refine lv_goto (tgt := 166) hx hb dX14_changes_153 (by decide) ?_
                      obtain ⟨y_63, ey_63⟩ : ∃ z : Int32, z = v101_5 + 1 := ⟨_, rfl⟩
                      refine lv_iinc (v := y_63) (lv' := [(5, .int y_63), (4, .int v23_4), (3, .int x_2), (0, .ref a0_), (1, .int x1_), (2, .int x2_)]) hx hb dX14_changes_166 hl (k := 0) rfl (by rw [ey_63]; rfl) (by decide) rfl (fun ls hl => ?_)
                      have ty_63 := add_bd ey_63 b_33 kb_1 (by decide)
                      have b_64 : bd 1 24 y_63 := add_rg ty_63 b_33 kb_1 (by decide)
                      refine lv_goto (tgt := 101) hx hb dX14_changes_169 (by decide) ?_
                      have hl9 := lv_sub hl [0, 1, 2, 3, 4, 5] (by rfl : lv_pick [(5, .int y_63), (4, .int v23_4), (3, .int x_2), (0, .ref a0_), (1, .int x1_), (2, .int x2_)] [0, 1, 2, 3, 4, 5] = [(5, .int y_63), (4, .int v23_4), (3, .int x_2), (0, .ref a0_), (1, .int x1_), (2, .int x2_)])
                      have g9 := g.sub (fx' := [(12, 26, q0_, .ref a_20), (14, 57, a0_, .ref a_13), (12, 5, q0_, .ref a_4), (14, 27, a0_, .ref a_1), (14, 1, a0_, .ref q0_)]) [2, 3, 4, 5, 6] rfl
                      exact ih101  y_63 (bd_sub b_64 (by decide)) (by have h9_0 := b_64; unfold bd at h9_0; have h9_1 := bv101_5; unfold bd at h9_1; have h9_2 := kb_0; unfold bd at h9_2; have h9_3 := kb_1; unfold bd at h9_3; have h9_4 := kb_m1; unfold bd at h9_4; omega) _ _ _ _ g9 hG_61 hG_62 hl9
            have hl9 := lv_sub hl [0, 1, 2, 3, 4, 5] (by rfl : lv_pick [(5, .int v23_4), (4, .int v23_4), (3, .int x_2), (0, .ref a0_), (1, .int x1_), (2, .int x2_)] [0, 1, 2, 3, 4, 5] = [(5, .int v23_4), (4, .int v23_4), (3, .int x_2), (0, .ref a0_), (1, .int x1_), (2, .int x2_)])
            have g9 := g.sub (fx' := [(12, 26, q0_, .ref a_20), (14, 57, a0_, .ref a_13), (12, 5, q0_, .ref a_4), (14, 27, a0_, .ref a_1), (14, 1, a0_, .ref q0_)]) [0, 1, 2, 3, 4] rfl
            exact loop_24 (51) v23_4 b_12 (by have h9_0 := b_12; unfold bd at h9_0; have h9_1 := kb_0; unfold bd at h9_1; have h9_2 := kb_1; unfold bd at h9_2; have h9_3 := kb_m1; unfold bd at h9_3; omega) _ _ _ _ g9 hG_18 hG_19 hl9
          · have fc_22 := neq_f c_22
            have b_65 : bd 1 1 x_21 := neX fc_22 bx_21 kb_0 (by decide)
            refine lv_iconst (v := 5) hx hb dX14_changes_95 (by decide) ?_
            have kb_5 : bd 5 5 (5 : Int32) := ⟨by decide, by decide⟩
            subst hQ
            exact W.iret (v := 5) hx hb hr (fun t ht hW => ⟨⟨_, _, rfl, ⟨(bd_sub kb_5 (by decide)), trivial⟩, q3_of g hK ht hW⟩, g.2.2.1.F ht⟩) g.2.2.1.2.2 dX14_changes_96
        · have fc_11 := eq_f c_11
          have b_66 : bd (-1) (-1) v23_4 := eqX fc_11 bv23_4 kb_m1 (by decide)
          refine lv_iconst (v := 0) hx hb dX14_changes_66 (by decide) ?_
          subst hQ
          exact W.iret (v := 0) hx hb hr (fun t ht hW => ⟨⟨_, _, rfl, ⟨(bd_sub kb_0 (by decide)), trivial⟩, q3_of g hK ht hW⟩, g.2.2.1.F ht⟩) g.2.2.1.2.2 dX14_changes_67
      · have fc_9 := nlt_f c_9
        have b_67 : bd 0 23 v23_5 := leR fc_9 kb_0 bv23_5 (by decide)
        refine lv_aload_n hx hb dX14_changes_28 rfl (lv_at hl 3 rfl) ?_
        refine g_getr (K := 216) (C := RX14) (T := TX14) (N := 67) hx hb hts (mc_ inX14) hown hK g ma0_ ka0_ (by decide) rfl 28 (by decide) rfl (hts _ (List.mem_cons_of_mem _ t_2174)) (fun _ h9 => h9) rfl dX14_changes_29 (fun a_68 ma_68 ka_68 g => ?_)
        refine lv_bipush (v := 24) hx hb dX14_changes_32 (by decide) ?_
        refine lv_iload_n hx hb dX14_changes_34 rfl (lv_at hl 5 rfl) ?_
        refine lv_imul hx hb dX14_changes_35 ?_
        refine lv_topi (fun y_69 ey_69 => ?_)
        have ty_69 := cmul_bd ey_69 (c := 24) (by decide) bx2_ (by decide)
        have b_70 : bd 0 48 y_69 := mulc_rg ty_69 bx2_ (by decide)
        refine lv_iload hx hb dX14_changes_36 (lv_at hl 0 rfl) ?_
        refine lv_iadd hx hb dX14_changes_38 ?_
        refine lv_topi (fun y_71 ey_71 => ?_)
        have ty_71 := add_bd ey_71 b_70 b_67 (by decide)
        have b_72 : bd 0 71 y_71 := add_rg ty_71 b_70 b_67 (by decide)
        refine g_iald hx hb hK g ma_68 ka_68 (by decide) rfl (in_bd b_72 (by decide)) dX14_changes_39 (fun x_73 bx_73 cx_73 => ?_)
        refine lv_aload_n hx hb dX14_changes_40 rfl (lv_at hl 3 rfl) ?_
        refine g_getr (K := 217) (C := RX14) (T := TX14) (N := 67) hx hb hts (mc_ inX14) hown hK g ma0_ ka0_ (by decide) rfl 29 (by decide) rfl (hts _ (List.mem_cons_of_mem _ t_2175)) (fun _ h9 => h9) rfl dX14_changes_41 (fun a_74 ma_74 ka_74 g => ?_)
        refine lv_iload hx hb dX14_changes_44 (lv_at hl 0 rfl) ?_
        refine g_iald hx hb hK g ma_74 ka_74 (by decide) rfl (in_bd b_67 (by decide)) dX14_changes_46 (fun x_75 bx_75 cx_75 => ?_)
        refine lv_icmp_eq (tgt := 54) hx hb dX14_changes_47 (by decide) (fun c_76 => ?_) (fun c_76 => ?_)
        · have fc_76 := eq_f c_76
          have kb_m1 : bd (-1) (-1) ((-1) : Int32) := ⟨by decide, by decide⟩
          obtain ⟨y_77, ey_77⟩ : ∃ z : Int32, z = v23_5 + (-1) := ⟨_, rfl⟩
          refine lv_iinc (v := y_77) (lv' := [(5, .int y_77), (4, .int v23_4), (3, .int x_2), (0, .ref a0_), (1, .int x1_), (2, .int x2_)]) hx hb dX14_changes_54 hl (k := 0) rfl (by rw [ey_77]; rfl) (by decide) rfl (fun ls hl => ?_)
          have ty_77 := add_bd ey_77 b_67 kb_m1 (by decide)
          have b_78 : bd (-1) 22 y_77 := add_rg ty_77 b_67 kb_m1 (by decide)
          refine lv_goto (tgt := 23) hx hb dX14_changes_57 (by decide) ?_
          have hl9 := lv_sub hl [0, 1, 2, 3, 4, 5] (by rfl : lv_pick [(5, .int y_77), (4, .int v23_4), (3, .int x_2), (0, .ref a0_), (1, .int x1_), (2, .int x2_)] [0, 1, 2, 3, 4, 5] = [(5, .int y_77), (4, .int v23_4), (3, .int x_2), (0, .ref a0_), (1, .int x1_), (2, .int x2_)])
          have g9 := g.sub (fx' := [(12, 5, q0_, .ref a_4), (14, 27, a0_, .ref a_1), (14, 1, a0_, .ref q0_)]) [2, 3, 4] rfl
          exact ih23  y_77 v23_4 (bd_sub b_78 (by decide)) bv23_4 (by have h9_0 := b_78; unfold bd at h9_0; have h9_1 := bv23_4; unfold bd at h9_1; have h9_2 := bv23_5; unfold bd at h9_2; have h9_3 := kb_0; unfold bd at h9_3; have h9_4 := kb_1; unfold bd at h9_4; have h9_5 := kb_m1; unfold bd at h9_5; omega) _ _ _ _ g9 hG23_O_a0_ hG23_V_q0_ hl9
        · have fc_76 := neq_f c_76
          refine lv_iload hx hb dX14_changes_50 (lv_at hl 0 rfl) ?_
          refine lv_istore (lv' := [(4, .int v23_5), (5, .int v23_5), (3, .int x_2), (0, .ref a0_), (1, .int x1_), (2, .int x2_)]) hx hb dX14_changes_52 hl (by decide) rfl (fun ls hl => ?_)
          have kb_m1 : bd (-1) (-1) ((-1) : Int32) := ⟨by decide, by decide⟩
          obtain ⟨y_79, ey_79⟩ : ∃ z : Int32, z = v23_5 + (-1) := ⟨_, rfl⟩
          refine lv_iinc (v := y_79) (lv' := [(5, .int y_79), (4, .int v23_5), (3, .int x_2), (0, .ref a0_), (1, .int x1_), (2, .int x2_)]) hx hb dX14_changes_54 hl (k := 1) rfl (by rw [ey_79]; rfl) (by decide) rfl (fun ls hl => ?_)
          have ty_79 := add_bd ey_79 b_67 kb_m1 (by decide)
          have b_80 : bd (-1) 22 y_79 := add_rg ty_79 b_67 kb_m1 (by decide)
          refine lv_goto (tgt := 23) hx hb dX14_changes_57 (by decide) ?_
          have hl9 := lv_sub hl [0, 1, 2, 3, 4, 5] (by rfl : lv_pick [(5, .int y_79), (4, .int v23_5), (3, .int x_2), (0, .ref a0_), (1, .int x1_), (2, .int x2_)] [0, 1, 2, 3, 4, 5] = [(5, .int y_79), (4, .int v23_5), (3, .int x_2), (0, .ref a0_), (1, .int x1_), (2, .int x2_)])
          have g9 := g.sub (fx' := [(12, 5, q0_, .ref a_4), (14, 27, a0_, .ref a_1), (14, 1, a0_, .ref q0_)]) [2, 3, 4] rfl
          exact ih23  y_79 v23_5 (bd_sub b_80 (by decide)) (bd_sub b_67 (by decide)) (by have h9_0 := b_67; unfold bd at h9_0; have h9_1 := b_80; unfold bd at h9_1; have h9_2 := bv23_4; unfold bd at h9_2; have h9_3 := bv23_5; unfold bd at h9_3; have h9_4 := kb_0; unfold bd at h9_4; have h9_5 := kb_1; unfold bd at h9_5; have h9_6 := kb_m1; unfold bd at h9_6; omega) _ _ _ _ g9 hG23_O_a0_ hG23_V_q0_ hl9
  have kb_m1 : bd (-1) (-1) ((-1) : Int32) := ⟨by decide, by decide⟩
  have hl9 := lv_sub hl [0, 1, 2, 3, 4, 5] (by rfl : lv_pick [(5, .int y_6), (4, .int (-1)), (3, .int x_2), (0, .ref a0_), (1, .int x1_), (2, .int x2_)] [0, 1, 2, 3, 4, 5] = [(5, .int y_6), (4, .int (-1)), (3, .int x_2), (0, .ref a0_), (1, .int x1_), (2, .int x2_)])
  have g9 := g.sub (fx' := [(12, 5, q0_, .ref a_4), (14, 27, a0_, .ref a_1), (14, 1, a0_, .ref q0_)]) [0, 1, 2] rfl
  exact loop_8 (51) y_6 (-1) b_7 (bd_sub kb_m1 (by decide)) (by have h9_0 := b_7; unfold bd at h9_0; have h9_1 := kb_1; unfold bd at h9_1; have h9_2 := kb_m1; unfold bd at h9_2; omega) _ _ _ _ g9 hGOa0_ hGVq0_ hl9
set_option maxHeartbeats 4000000 in
set_option maxRecDepth 100000 in
theorem r_X14_keeps (l : Launch) (dC : Nat → ClassId) (dI : Nat → Nat → Nat) (L : List Nat) (kd : Nat → Nat) (tys : List (ClassId × FieldType)) (f0 : Nat → va_E) (sz : Nat) (hWT : WT L kd tys f0) (adK adV : Nat → Nat) (a0_ : Nat) (ma0_ : a0_ ∈ L) (ka0_ : kd a0_ = 14) (x1_ : Int32) (bx1_ : bd 0 2 x1_) (q0_ : Nat) (mq0_ : q0_ ∈ L) (kq0_ : kd q0_ = 12) (V_ : PV) (δ_ : Nat → Nat) (hW : wfP V_ δ_) (O_ : Nat → Int32) (hGOa0_ : OA f0 a0_ O_) (hGVq0_ : isV f0 q0_ V_) (ho : okc V_ (O_ x1_.toNatClampNeg)) (hfx : Fs L kd f0 [(14, 1, a0_, .ref q0_)]) : Met l yX14_keeps (.code yX14_keeps cX14_keeps 5 (some .boolean) :: lw_g) ({ frames := 974, cells := 0, slots := 0, locals := 39032 }) (va_Pc [.ref a0_, .int x1_] (P3A (dC, dI) L tys f0 sz adK adV)) (va_Qi (fun (r : Int32) (f : Nat → va_E) => (r = 0 ∧ Fs L kd f [(14, 37, a0_, .int 0), (14, 36, a0_, .int 0)]) ∨ (r = 1 ∧ True)) (Q3 (dC, dI) L kd tys [(14, 31), (14, 32), (14, 33), (14, 34), (14, 35), (14, 36), (14, 37), (14, 39), (14, 40), (14, 45), (14, 55)] [200, 216, 218, 219, 220, 221, 228] f0 sz) (pA L sz)) 0 0 (pA L sz) := by
  refine Met.ofW (cc := cX14_keeps) (maxL := 5) (ret := (some .boolean)) (by decide) rfl ?_
  intro p e s m args below meth c s₁ B hml hv
  obtain ⟨rfl, ⟨hsz, hP, hK, hD0⟩, hAm⟩ := hv
  have hx := B.exec
  have hb := B.bytes
  have hr := B.returns
  have hts := atoms_spec (ws := (.code yX14_keeps cX14_keeps 5 (some .boolean) :: lw_g)) B.pre
  have hown : s.vm.findClass RX14 = some m.cls := findClass_of_methodNamed B.named
  have hlocks := B.notSynchronized
  subst hsz
  have g : G3 (dC, dI) L kd tys s f0 [(14, 31), (14, 32), (14, 33), (14, 34), (14, 35), (14, 36), (14, 37), (14, 39), (14, 40), (14, 45), (14, 55)] [200, 216, 218, 219, 220, 221, 228] f0 s.heap [] [(14, 1, a0_, .ref q0_)] := G3.start hP hD0 hWT hfx
  have hl := lv_entry ([.ref a0_, .int x1_]) (n := 5) (Nat.le_of_ble_eq_true rfl)
  rw [lg_entry_eq]
  generalize (lg_sl ([.ref a0_, .int x1_]) ++ List.replicate (5 - (lg_sl ([.ref a0_, .int x1_])).length) Slot.unset).toArray = ls at hl ⊢
  have hl : lv_has ls 5 [(0, .ref a0_), (1, .int x1_)] := hl
  refine W_q (fun Q hQ => ?_)
  refine lv_aload_n hx hb dX14_keeps_0 rfl (lv_at hl 0 rfl) ?_
  refine g_getr (K := 215) (C := RX14) (T := TX14) (N := 67) hx hb hts (mc_ inX14) hown hK g ma0_ ka0_ (by decide) rfl 27 (by decide) rfl (hts _ (List.mem_cons_of_mem _ t_2173)) (fun _ h9 => h9) rfl dX14_keeps_1 (fun a_1 ma_1 ka_1 g => ?_)
  refine lv_iload_n hx hb dX14_keeps_4 rfl (lv_at hl 1 rfl) ?_
  refine g_iald hx hb hK g ma_1 ka_1 (by decide) rfl (in_bd bx1_ (by decide)) dX14_keeps_5 (fun x_2 bx_2 cx_2 => ?_)
  have vx_2 := hGOa0_.cls g 0 rfl cx_2
  refine lv_istore_n (lv' := [(2, .int x_2), (0, .ref a0_), (1, .int x1_)]) hx hb dX14_keeps_6 rfl hl (by decide) rfl (fun ls hl => ?_)
  have loop_3 : ∀ (n : Nat) (v7_2 : Int32), bd (-1) 7 v7_2 → (v7_2.toInt + 1 < (n : Int)) → ∀ (f : Nat → va_E) (H : Heap) (locs : List Loc) (ls : Array Slot), G3 (dC, dI) L kd tys s f0 [(14, 31), (14, 32), (14, 33), (14, 34), (14, 35), (14, 36), (14, 37), (14, 39), (14, 40), (14, 45), (14, 55)] [200, 216, 218, 219, 220, 221, 228] f H locs [(14, 27, a0_, .ref a_1), (14, 1, a0_, .ref q0_)] → OA f a0_ O_ → isV f q0_ V_ → (cN V_ (O_ x1_.toNatClampNeg) v7_2) → lv_has ls 5 [(2, .int v7_2), (0, .ref a0_), (1, .int x1_)] → W p l e ({ frames := 974, cells := 0, slots := 0, locals := 39032 } : Room) s m [.ref a0_, .int x1_].toArray below meth c H locs 0 0 Q (F0 m 7 ls []) := by
    intro n7
    induction n7 with
    | zero =>
      intro v7_2 bv7_2 hm7 f H locs ls g hG7_O_a0_ hG7_V_q0_ hI7 hl
      exact absurd hm7 (by have h9_v7_2 := bv7_2; unfold bd at h9_v7_2; omega)
    | succ n7 ih7 =>
      intro v7_2 bv7_2 hm7 f H locs ls g hG7_O_a0_ hG7_V_q0_ hI7 hl
      refine lv_iload_n hx hb dX14_keeps_7 rfl (lv_at hl 0 rfl) ?_
      refine lv_iconst (v := (-1)) hx hb dX14_keeps_8 (by decide) ?_
      have kb_m1 : bd (-1) (-1) ((-1) : Int32) := ⟨by decide, by decide⟩
      refine lv_icmp_eq (tgt := 119) hx hb dX14_keeps_9 (by decide) (fun c_4 => ?_) (fun c_4 => ?_)
      · have fc_4 := eq_f c_4
        have b_5 : bd (-1) (-1) v7_2 := eqX fc_4 bv7_2 kb_m1 (by decide)
        refine lv_iconst (v := 1) hx hb dX14_keeps_119 (by decide) ?_
        subst hQ
        have kb_1 : bd 1 1 (1 : Int32) := ⟨by decide, by decide⟩
        exact W.zret (v := 1) hx hb hr (nar_z (bd_sub kb_1 (by decide) : bd 0 1 _).1 (bd_sub kb_1 (by decide) : bd 0 1 _).2) (fun t ht hW => ⟨⟨_, _, rfl, Or.inr (⟨rfl, trivial⟩), q3_of g hK ht hW⟩, g.2.2.1.F ht⟩) g.2.2.1.2.2 dX14_keeps_120
      · have fc_4 := neq_f c_4
        have b_6 : bd 0 7 v7_2 := neX fc_4 bv7_2 kb_m1 (by decide)
        refine lv_bipush (v := 8) hx hb dX14_keeps_12 (by decide) ?_
        refine lv_iload_n hx hb dX14_keeps_14 rfl (lv_at hl 0 rfl) ?_
        refine lv_imul hx hb dX14_keeps_15 ?_
        refine lv_topi (fun y_7 ey_7 => ?_)
        have ty_7 := cmul_bd ey_7 (c := 8) (by decide) b_6 (by decide)
        have b_8 : bd 0 56 y_7 := mulc_rg ty_7 b_6 (by decide)
        refine lv_istore_n (lv' := [(3, .int y_7), (2, .int v7_2), (0, .ref a0_), (1, .int x1_)]) hx hb dX14_keeps_16 rfl hl (by decide) rfl (fun ls hl => ?_)
        have loop_9 : ∀ (n : Nat) (v17_3 : Int32), bd 0 64 v17_3 → (64 - v17_3.toInt < (n : Int)) → ∀ (f : Nat → va_E) (H : Heap) (locs : List Loc) (ls : Array Slot), G3 (dC, dI) L kd tys s f0 [(14, 31), (14, 32), (14, 33), (14, 34), (14, 35), (14, 36), (14, 37), (14, 39), (14, 40), (14, 45), (14, 55)] [200, 216, 218, 219, 220, 221, 228] f H locs [(14, 27, a0_, .ref a_1), (14, 1, a0_, .ref q0_)] → OA f a0_ O_ → isV f q0_ V_ → (8 * v7_2.toInt ≤ v17_3.toInt) → lv_has ls 5 [(3, .int v17_3), (2, .int v7_2), (0, .ref a0_), (1, .int x1_)] → W p l e ({ frames := 974, cells := 0, slots := 0, locals := 39032 } : Room) s m [.ref a0_, .int x1_].toArray below meth c H locs 0 0 Q (F0 m 17 ls []) := by
          intro n17
          induction n17 with
          | zero =>
            intro v17_3 bv17_3 hm17 f H locs ls g hG17_O_a0_ hG17_V_q0_ hI17 hl
            exact absurd hm17 (by have h9_v17_3 := bv17_3; unfold bd at h9_v17_3; omega)
          | succ n17 ih17 =>
            intro v17_3 bv17_3 hm17 f H locs ls g hG17_O_a0_ hG17_V_q0_ hI17 hl
            refine lv_iload_n hx hb dX14_keeps_17 rfl (lv_at hl 0 rfl) ?_
            refine lv_bipush (v := 8) hx hb dX14_keeps_18 (by decide) ?_
            refine lv_iload_n hx hb dX14_keeps_20 rfl (lv_at hl 1 rfl) ?_
            refine lv_imul hx hb dX14_keeps_21 ?_
            refine lv_topi (fun y_10 ey_10 => ?_)
            obtain rfl : y_7 = y_10 := ey_7.trans ey_10.symm
            refine lv_aload_n hx hb dX14_keeps_22 rfl (lv_at hl 2 rfl) ?_
            refine g_getk (C := RX14) (T := TX14) (N := 67) hx hb hts (mc_ inX14) hown hK g rfl 1 (by decide) rfl (hts _ (List.mem_cons_of_mem _ t_2147)) (fun _ h9 => h9) 1 rfl dX14_keeps_23 ?_
            refine g_getr (K := 169) (C := RX12) (T := TX12) (N := 60) hx hb hts (mc_ inX12) hown hK g mq0_ kq0_ (by decide) rfl 13 (by decide) rfl (hts _ (List.mem_cons_of_mem _ t_1932)) (fun _ h9 => h9) rfl dX14_keeps_26 (fun a_11 ma_11 ka_11 g => ?_)
            refine lv_iload_n hx hb dX14_keeps_29 rfl (lv_at hl 1 rfl) ?_
            refine g_iald hx hb hK g ma_11 ka_11 (by decide) rfl (in_bd b_6 (by decide)) dX14_keeps_30 (fun x_12 bx_12 cx_12 => ?_)
            have vx_12 : x_12 = V_.i 13 v7_2.toNatClampNeg := hG17_V_q0_.at g 0 rfl rfl cx_12
            refine lv_iadd hx hb dX14_keeps_31 ?_
            refine lv_topi (fun y_13 ey_13 => ?_)
            have ty_13 := add_bd ey_13 b_8 bx_12 (by decide)
            have b_14 : bd 0 64 y_13 := add_rg ty_13 b_8 bx_12 (by decide)
            refine lv_icmp_ge (tgt := 106) hx hb dX14_keeps_32 (by decide) (fun c_15 => ?_) (fun c_15 => ?_)
            · have fc_15 := le_f c_15
              refine lv_aload_n hx hb dX14_keeps_106 rfl (lv_at hl 2 rfl) ?_
              refine g_getk (C := RX14) (T := TX14) (N := 67) hx hb hts (mc_ inX14) hown hK g rfl 1 (by decide) rfl (hts _ (List.mem_cons_of_mem _ t_2147)) (fun _ h9 => h9) 2 rfl dX14_keeps_107 ?_
              refine g_getr (K := 159) (C := RX12) (T := TX12) (N := 60) hx hb hts (mc_ inX12) hown hK g mq0_ kq0_ (by decide) rfl 3 (by decide) rfl (hts _ (List.mem_cons_of_mem _ t_1912)) (fun _ h9 => h9) rfl dX14_keeps_110 (fun a_16 ma_16 ka_16 g => ?_)
              refine lv_iload_n hx hb dX14_keeps_113 rfl (lv_at hl 1 rfl) ?_
              refine g_iald hx hb hK g ma_16 ka_16 (by decide) rfl (in_bd b_6 (by decide)) dX14_keeps_114 (fun x_17 bx_17 cx_17 => ?_)
              have vx_17 : x_17 = V_.i 3 v7_2.toNatClampNeg := hG17_V_q0_.at g 0 rfl rfl cx_17
              have hltx_17 := (cN.above (x := x_17) hW (hI7.is fc_4).1 vx_17).2
              refine lv_istore_n (lv' := [(2, .int x_17), (3, .int v17_3), (0, .ref a0_), (1, .int x1_)]) hx hb dX14_keeps_115 rfl hl (by decide) rfl (fun ls hl => ?_)
              refine lv_goto (tgt := 7) hx hb dX14_keeps_116 (by decide) ?_
              have hl9 := lv_sub hl [0, 2, 3] (by rfl : lv_pick [(2, .int x_17), (3, .int v17_3), (0, .ref a0_), (1, .int x1_)] [0, 2, 3] = [(2, .int x_17), (0, .ref a0_), (1, .int x1_)])
              have g9 := g.sub (fx' := [(14, 27, a0_, .ref a_1), (14, 1, a0_, .ref q0_)]) [2, 3] rfl
              exact ih7  x_17 bx_17 (by have h9_0 := bv7_2; unfold bd at h9_0; have h9_1 := bx_17; unfold bd at h9_1; have h9_2 := kb_m1; unfold bd at h9_2; omega) _ _ _ _ g9 hG17_O_a0_ hG17_V_q0_ (cN.step hW hI7 fc_4 vx_17) hl9
            · have fc_15 := nle_f c_15
              have b_18 : bd 0 63 v17_3 := ltL fc_15 bv17_3 b_14 (by decide)
              have b_19 : bd 1 64 y_13 := ltR fc_15 bv17_3 b_14 (by decide)
              refine lv_aload_n hx hb dX14_keeps_35 rfl (lv_at hl 2 rfl) ?_
              refine lv_aload_n hx hb dX14_keeps_36 rfl (lv_at hl 2 rfl) ?_
              refine g_getk (C := RX14) (T := TX14) (N := 67) hx hb hts (mc_ inX14) hown hK g rfl 1 (by decide) rfl (hts _ (List.mem_cons_of_mem _ t_2147)) (fun _ h9 => h9) 2 rfl dX14_keeps_37 ?_
              refine g_getr (K := 167) (C := RX12) (T := TX12) (N := 60) hx hb hts (mc_ inX12) hown hK g mq0_ kq0_ (by decide) rfl 11 (by decide) rfl (hts _ (List.mem_cons_of_mem _ t_1928)) (fun _ h9 => h9) rfl dX14_keeps_40 (fun a_20 ma_20 ka_20 g => ?_)
              refine lv_iload_n hx hb dX14_keeps_43 rfl (lv_at hl 0 rfl) ?_
              refine g_iald hx hb hK g ma_20 ka_20 (by decide) rfl (in_bd b_18 (by decide)) dX14_keeps_44 (fun x_21 bx_21 cx_21 => ?_)
              have vx_21 : x_21 = V_.i 11 v17_3.toNatClampNeg := hG17_V_q0_.at g 0 rfl rfl cx_21
              refine lv_aload_n hx hb dX14_keeps_45 rfl (lv_at hl 2 rfl) ?_
              refine g_getk (C := RX14) (T := TX14) (N := 67) hx hb hts (mc_ inX14) hown hK g rfl 1 (by decide) rfl (hts _ (List.mem_cons_of_mem _ t_2147)) (fun _ h9 => h9) 3 rfl dX14_keeps_46 ?_
              refine g_getr (K := 168) (C := RX12) (T := TX12) (N := 60) hx hb hts (mc_ inX12) hown hK g mq0_ kq0_ (by decide) rfl 12 (by decide) rfl (hts _ (List.mem_cons_of_mem _ t_1930)) (fun _ h9 => h9) rfl dX14_keeps_49 (fun a_22 ma_22 ka_22 g => ?_)
              refine lv_iload_n hx hb dX14_keeps_52 rfl (lv_at hl 0 rfl) ?_
              refine g_iald hx hb hK g ma_22 ka_22 (by decide) rfl (in_bd b_18 (by decide)) dX14_keeps_53 (fun x_23 bx_23 cx_23 => ?_)
              have vx_23 : x_23 = V_.i 12 v17_3.toNatClampNeg := hG17_V_q0_.at g 0 rfl rfl cx_23
              refine lv_iload_n hx hb dX14_keeps_54 rfl (lv_at hl 1 rfl) ?_
              refine lv_iload_n hx hb dX14_keeps_55 rfl (lv_at hl 3 rfl) ?_
              refine lv_iconst (v := 3) hx hb dX14_keeps_56 (by decide) ?_
              refine lv_iconst (v := (-1)) hx hb dX14_keeps_57 (by decide) ?_
              have go_ := g
              refine g_calli (va_runVH (n := 6) (As := [.int x_21, .int x_23, .int v7_2, .int x1_, .int 3, .int (-1)]) (rest := []) ⟨hx, hb, hml, hown, hts⟩ (r_X14_holds l dC dI L kd tys f H.size g.2.2.2.1 adK adV a0_ ma0_ ka0_ x_21 x_23 v7_2 x1_ (bd_sub bx1_ (by decide)) 3 (-1) (bd_sub kb_m1 (by decide)) q0_ mq0_ kq0_ V_ δ_ hW O_ hG17_O_a0_ hG17_V_q0_ v7_2.toNatClampNeg (kept_ok hW (hI7.is fc_4).1 vx_12 hI17 (by have h9_0 := b_18; unfold bd at h9_0; have h9_1 := b_6; unfold bd at h9_1; have h9_2 := bx1_; unfold bd at h9_2; have h9_3 := bx_12; unfold bd at h9_3; have h9_4 := bx_2; unfold bd at h9_4; have h9_5 := b_19; unfold bd at h9_5; have h9_6 := b_8; unfold bd at h9_6; have h8_0 := kb_m1; unfold bd at h8_0; omega) vx_21) (hI7.is fc_4).2 (g.fcts [4] rfl)) (gI_ t_2633) List.mem_cons_self rfl rfl (Nat.le_of_ble_eq_true rfl) (Nat.le_of_ble_eq_true rfl) (hts _ (List.mem_cons_of_mem _ t_198)) (hts _ (List.mem_cons_of_mem _ t_2630)) (hts _ (List.mem_cons_of_mem _ t_2632)) (hts _ (List.mem_cons_of_mem _ t_145)) (by decide +kernel) (pre3VA g hK hAm ma0_ ka0_ (by decide) (q := (RX14, TX14, 67)) rfl) rfl rfl hl.1 rfl (lv_room (Nat.le_of_ble_eq_true rfl)) dX14_keeps_58 ⟨(Nat.le_of_ble_eq_true rfl), (Nat.le_of_ble_eq_true rfl)⟩) g hK (by decide) (by decide) (fx' := [(12, 12, q0_, .ref a_22), (12, 11, q0_, .ref a_20), (12, 13, q0_, .ref a_11), (14, 27, a0_, .ref a_1), (14, 1, a0_, .ref q0_)]) rfl (fun r_24 fr_24 H locs hp hMr_24 g => ?_)
              obtain ⟨h_25, hF_26⟩ := hp
              have hG_27 := OA.frame hMr_24 go_.2.2.2.1 ma0_ ka0_ (by decide) (by decide) hG17_O_a0_
              have hG_28 := isV.frame hMr_24 go_.2.2.2.1 mq0_ kq0_ (by decide) (by decide) hG17_V_q0_
              have g := g.more hF_26
              refine lv_istore (lv' := [(4, .int r_24), (3, .int v17_3), (2, .int v7_2), (0, .ref a0_), (1, .int x1_)]) hx hb dX14_keeps_61 hl (by decide) rfl (fun ls hl => ?_)
              refine lv_iload hx hb dX14_keeps_63 (lv_at hl 0 rfl) ?_
              refine lv_iconst (v := 1) hx hb dX14_keeps_65 (by decide) ?_
              have kb_1 : bd 1 1 (1 : Int32) := ⟨by decide, by decide⟩
              refine lv_icmp_ne (tgt := 72) hx hb dX14_keeps_66 (by decide) (fun c_29 => ?_) (fun c_29 => ?_)
              · have fc_29 := neq_f c_29
                have b_30 : bd (-1) 0 r_24 := neX fc_29 h_25 kb_1 (by decide)
                refine lv_iload hx hb dX14_keeps_72 (lv_at hl 0 rfl) ?_
                have kb_0 : bd 0 0 (0 : Int32) := ⟨by decide, by decide⟩
                refine lv_if_ne (tgt := 98) hx hb dX14_keeps_74 (by decide) (fun c_31 => ?_) (fun c_31 => ?_)
                · have fc_31 := neq_f c_31
                  have b_32 : bd (-1) (-1) r_24 := neX fc_31 b_30 kb_0 (by decide)
                  refine lv_iconst (v := 0) hx hb dX14_keeps_98 (by decide) ?_
                  subst hQ
                  exact W.zret (v := 0) hx hb hr (nar_z (bd_sub kb_0 (by decide) : bd 0 1 _).1 (bd_sub kb_0 (by decide) : bd 0 1 _).2) (fun t ht hW => ⟨⟨_, _, rfl, Or.inl ⟨rfl, (g.fcts [0, 1] rfl)⟩, q3_of g hK ht hW⟩, g.2.2.1.F ht⟩) g.2.2.1.2.2 dX14_keeps_99
                · have fc_31 := eq_f c_31
                  have b_33 : bd 0 0 r_24 := eqX fc_31 b_30 kb_0 (by decide)
                  refine lv_aload_n hx hb dX14_keeps_77 rfl (lv_at hl 3 rfl) ?_
                  refine lv_iconst (v := 2) hx hb dX14_keeps_78 (by decide) ?_
                  have kb_2 : bd 2 2 (2 : Int32) := ⟨by decide, by decide⟩
                  have go_ := g
                  refine g_put (C := RX14) (T := TX14) (N := 67) hx hb hts (mc_ inX14) tyX14 tyX14_ok nmX14 hown hK g ma0_ ka0_ (by decide) rfl 55 (by decide) (hts _ (List.mem_cons_of_mem _ t_2201)) (fun _ h9 => h9) rfl rfl (okV_i (bd_sub kb_2 (by decide))) rfl rfl (by decide) (Or.inr (Or.inl (by decide))) (fx' := [(14, 37, a0_, .int 0), (14, 36, a0_, .int 0), (12, 12, q0_, .ref a_22), (12, 11, q0_, .ref a_20), (12, 13, q0_, .ref a_11), (14, 27, a0_, .ref a_1), (14, 1, a0_, .ref q0_)]) rfl dX14_keeps_79 (fun f H locs hM_34 g => ?_)
                  have hG_35 := OA.frame hM_34 go_.2.2.2.1 ma0_ ka0_ (by decide) (by decide) hG_27
                  have hG_36 := isV.frame hM_34 go_.2.2.2.1 mq0_ kq0_ (by decide) (by decide) hG_28
                  refine lv_aload_n hx hb dX14_keeps_82 rfl (lv_at hl 3 rfl) ?_
                  refine lv_iload_n hx hb dX14_keeps_83 rfl (lv_at hl 2 rfl) ?_
                  refine lv_iload_n hx hb dX14_keeps_84 rfl (lv_at hl 4 rfl) ?_
                  refine lv_aload_n hx hb dX14_keeps_85 rfl (lv_at hl 3 rfl) ?_
                  refine g_getk (C := RX14) (T := TX14) (N := 67) hx hb hts (mc_ inX14) hown hK g rfl 1 (by decide) rfl (hts _ (List.mem_cons_of_mem _ t_2147)) (fun _ h9 => h9) 7 rfl dX14_keeps_86 ?_
                  refine g_getk (C := RX12) (T := TX12) (N := 60) hx hb hts (mc_ inX12) hown hK g rfl 12 (by decide) rfl (hts _ (List.mem_cons_of_mem _ t_1930)) (fun _ h9 => h9) 3 rfl dX14_keeps_89 ?_
                  refine lv_iload_n hx hb dX14_keeps_92 rfl (lv_at hl 1 rfl) ?_
                  refine g_iald hx hb hK g ma_22 ka_22 (by decide) rfl (in_bd b_18 (by decide)) dX14_keeps_93 (fun x_37 bx_37 cx_37 => ?_)
                  obtain rfl : x_23 = x_37 := el_same cx_23 cx_37 ((arr_eq hM_34 ma_22 ka_22 (by decide) rfl).trans (arr_eq hMr_24 ma_22 ka_22 (by decide) rfl))
                  refine lv_iconst (v := 3) hx hb dX14_keeps_94 (by decide) ?_
                  have go_ := g
                  refine g_callv (va_runV (As := [.int v7_2, .int x1_, .int x_23, .int 3]) (rest := []) ⟨hx, hb, hml, hown, hts⟩ (r_X14_tells l dC dI L kd tys f H.size g.2.2.2.1 a0_ ma0_ ka0_ v7_2 x1_ x_23 3) (cwV 4 hts (gV_ t_2680 t_2682 t_157 t_198 t_2683) rfl rfl rfl (by decide +kernel) ⟨(Nat.le_of_ble_eq_true rfl), (Nat.le_of_ble_eq_true rfl)⟩) (pre3V g hK ma0_ ka0_ (by decide) (q := (RX14, TX14, 67)) rfl) rfl rfl hl.1 rfl (lv_room (Nat.le_of_ble_eq_true rfl)) dX14_keeps_95 ⟨(Nat.le_of_ble_eq_true rfl), (Nat.le_of_ble_eq_true rfl)⟩) g hK (by decide) (by decide) (fx' := [(14, 55, a0_, .int 2), (14, 37, a0_, .int 0), (14, 36, a0_, .int 0), (12, 12, q0_, .ref a_22), (12, 11, q0_, .ref a_20), (12, 13, q0_, .ref a_11), (14, 27, a0_, .ref a_1), (14, 1, a0_, .ref q0_)]) rfl (fun fr_38 H locs hp hMr_38 g => ?_)
                  have hG_39 := OA.frame hMr_38 go_.2.2.2.1 ma0_ ka0_ (by decide) (by decide) hG_35
                  have hG_40 := isV.frame hMr_38 go_.2.2.2.1 mq0_ kq0_ (by decide) (by decide) hG_36
                  refine lv_iconst (v := 0) hx hb dX14_keeps_98 (by decide) ?_
                  subst hQ
                  exact W.zret (v := 0) hx hb hr (nar_z (bd_sub kb_0 (by decide) : bd 0 1 _).1 (bd_sub kb_0 (by decide) : bd 0 1 _).2) (fun t ht hW => ⟨⟨_, _, rfl, Or.inl ⟨rfl, (g.fcts [1, 2] rfl)⟩, q3_of g hK ht hW⟩, g.2.2.1.F ht⟩) g.2.2.1.2.2 dX14_keeps_99
              · have fc_29 := eq_f c_29
                have b_41 : bd 1 1 r_24 := eqX fc_29 h_25 kb_1 (by decide)
                refine lv_goto (tgt := 100) hx hb dX14_keeps_69 (by decide) ?_
                obtain ⟨y_42, ey_42⟩ : ∃ z : Int32, z = v17_3 + 1 := ⟨_, rfl⟩
                refine lv_iinc (v := y_42) (lv' := [(3, .int y_42), (4, .int r_24), (2, .int v7_2), (0, .ref a0_), (1, .int x1_)]) hx hb dX14_keeps_100 hl (k := 1) rfl (by rw [ey_42]; rfl) (by decide) rfl (fun ls hl => ?_)
                have ty_42 := add_bd ey_42 b_18 kb_1 (by decide)
                have b_43 : bd 1 64 y_42 := add_rg ty_42 b_18 kb_1 (by decide)
                refine lv_goto (tgt := 17) hx hb dX14_keeps_103 (by decide) ?_
                have hl9 := lv_sub hl [0, 2, 3, 4] (by rfl : lv_pick [(3, .int y_42), (4, .int r_24), (2, .int v7_2), (0, .ref a0_), (1, .int x1_)] [0, 2, 3, 4] = [(3, .int y_42), (2, .int v7_2), (0, .ref a0_), (1, .int x1_)])
                have g9 := g.sub (fx' := [(14, 27, a0_, .ref a_1), (14, 1, a0_, .ref q0_)]) [5, 6] rfl
                exact ih17  y_42 (bd_sub b_43 (by decide)) (by have h9_0 := b_43; unfold bd at h9_0; have h9_1 := bv17_3; unfold bd at h9_1; have h9_2 := kb_1; unfold bd at h9_2; have h9_3 := kb_m1; unfold bd at h9_3; omega) _ _ _ _ g9 hG_27 hG_28 (by have h9_0 := b_41; unfold bd at h9_0; have h9_1 := b_18; unfold bd at h9_1; have h9_2 := b_6; unfold bd at h9_2; have h9_3 := bx1_; unfold bd at h9_3; have h9_4 := bx_12; unfold bd at h9_4; have h9_5 := bx_2; unfold bd at h9_5; have h9_6 := b_19; unfold bd at h9_6; have h9_7 := b_43; unfold bd at h9_7; have h9_8 := b_8; unfold bd at h9_8; have h8_0 := kb_1; unfold bd at h8_0; have h8_1 := kb_m1; unfold bd at h8_1; omega) hl9
        have hl9 := lv_sub hl [0, 1, 2, 3] (by rfl : lv_pick [(3, .int y_7), (2, .int v7_2), (0, .ref a0_), (1, .int x1_)] [0, 1, 2, 3] = [(3, .int y_7), (2, .int v7_2), (0, .ref a0_), (1, .int x1_)])
        have g9 := g.sub (fx' := [(14, 27, a0_, .ref a_1), (14, 1, a0_, .ref q0_)]) [0, 1] rfl
        exact loop_9 (131) y_7 (bd_sub b_8 (by decide)) (by have h9_0 := b_8; unfold bd at h9_0; have h9_1 := kb_m1; unfold bd at h9_1; omega) _ _ _ _ g9 hG7_O_a0_ hG7_V_q0_ (by have h9_0 := b_6; unfold bd at h9_0; have h9_1 := bx1_; unfold bd at h9_1; have h9_2 := bx_2; unfold bd at h9_2; have h9_3 := b_8; unfold bd at h9_3; have h8_0 := kb_m1; unfold bd at h8_0; omega) hl9
  have hl9 := lv_sub hl [0, 1, 2] (by rfl : lv_pick [(2, .int x_2), (0, .ref a0_), (1, .int x1_)] [0, 1, 2] = [(2, .int x_2), (0, .ref a0_), (1, .int x1_)])
  have g9 := g.sub (fx' := [(14, 27, a0_, .ref a_1), (14, 1, a0_, .ref q0_)]) [0, 1] rfl
  exact loop_3 (20) x_2 bx_2 (by have h9_0 := bx_2; unfold bd at h9_0; omega) _ _ _ _ g9 hGOa0_ hGVq0_ (cN.of ho vx_2) hl9
