set_option maxHeartbeats 4000000 in
set_option maxRecDepth 100000 in
theorem r_X14_readCall (N : Nat) (ih : RecR N) (l : Launch) (dC : Nat → ClassId) (dI : Nat → Nat → Nat) (L : List Nat) (kd : Nat → Nat) (tys : List (ClassId × FieldType)) (f0 : Nat → va_E) (sz : Nat) (hWT : WT L kd tys f0) (adK adV : Nat → Nat) (a0_ : Nat) (ma0_ : a0_ ∈ L) (ka0_ : kd a0_ = 14) (x1_ : Int32) (x2_ : Int32) (bx2_ : bd 0 109 x2_) (x3_ : Int64) (x4_ : Int64) (x5_ : Int32) (x6_ : Int32) (bx6_ : bd 0 1 x6_) (q0_ : Nat) (mq0_ : q0_ ∈ L) (kq0_ : kd q0_ = 12) (V_ : PV) (o_ : Int32) (bo_ : bd 0 7 o_) (op_ : Int32) (bop_ : bd 0 40 op_) (t_ : Int32) (bt_ : bd 0 1201 t_) (hV : isV f0 q0_ V_) (hwf : wfN V_ (V_.n 57).toInt) (ho : (o_.toNatClampNeg : Int) < (V_.n 0).toInt) (hnn : (V_.n 57).toInt ≤ cF f0 a0_) (hm_ : Int) (hhm : 12 ≤ hm_ ∧ hm_ ≤ 13 ∧ (x6_.toInt = 0 → hm_ = 13)) (hop : x1_.toInt = 3 ∨ x1_.toInt = 9) (hf3 : x1_.toInt = 3 → fnd V_ o_.toNatClampNeg x3_ x4_) (hf9 : x1_.toInt = 9 → 0 ≤ (V_.i 3 o_.toNatClampNeg).toInt ∧ fnd V_ (V_.i 3 o_.toNatClampNeg).toNatClampNeg x3_ x4_) (K_ : Nat) (hK_ : 1205 ≤ 2 * (K_ : Int) + cF f0 a0_) (hN : 11 * (40 - op_.toInt) + 1 ≤ ((N + 1 : Nat) : Int)) (hfx : Fs L kd f0 [(14, 2, a0_, .ref q0_), (14, 16, a0_, .int o_), (14, 25, a0_, .int op_), (14, 10, a0_, .int t_)]) : MetX l yX14_readCall (.code yX14_readCall cX14_readCall 16 (some .int) :: lw_g) ({ frames := (N + 1) + 24, cells := K_, slots := 3 * K_, locals := 60 * (N + 1) + 700 }) (va_Pc [.ref a0_, .int x1_, .int x2_, .long x3_, .long x4_, .int x5_, .int x6_] (P3A (dC, dI) L tys f0 sz adK adV)) (q3X (dC, dI) L kd tys [(12, 57), (12, 58), (14, 6), (14, 7), (14, 8), (14, 9), (14, 10), (14, 11), (14, 12), (14, 13), (14, 14), (14, 15), (14, 25)] [180, 201, 202, 203, 204, 205, 206, 207, 208, 209, 210] f0 sz (pXi (fun (r : Int32) (f : Nat → va_E) (k : Nat) => (rdP L kd f0 a0_ q0_ V_ o_ (hm_) 0 r f k (fun v => v.toInt = x1_.toInt)) ∧ ∃ z1_ : Int32, bd 0 1201 z1_ ∧ Fs L kd f [(14, 25, a0_, .int op_), (14, 10, a0_, .int z1_)])) (fun k : Nat => 2 * (k : Int) + cF f0 a0_ ≤ 1204)) (pA L sz) := by
  refine MetX.ofW (cc := cX14_readCall) (maxL := 16) (ret := (some .int)) (by decide) rfl ?_
  intro p e s m args below meth c s₁ B hml hempty hv
  obtain ⟨rfl, ⟨hsz, hP, hK, hD0⟩, hAm⟩ := hv
  have hx := B.exec
  have hb := B.bytes
  have hr := B.returns
  have hts := atoms_spec (ws := (.code yX14_readCall cX14_readCall 16 (some .int) :: lw_g)) B.pre
  have hown : s.vm.findClass RX14 = some m.cls := findClass_of_methodNamed B.named
  have hlocks := B.notSynchronized
  subst hsz
  have g : G3 (dC, dI) L kd tys s f0 [(12, 57), (12, 58), (14, 6), (14, 7), (14, 8), (14, 9), (14, 10), (14, 11), (14, 12), (14, 13), (14, 14), (14, 15), (14, 25)] [180, 201, 202, 203, 204, 205, 206, 207, 208, 209, 210] f0 s.heap [] [(14, 2, a0_, .ref q0_), (14, 16, a0_, .int o_), (14, 25, a0_, .int op_), (14, 10, a0_, .int t_)] := G3.start hP hD0 hWT hfx
  have hl := lv_entry ([.ref a0_, .int x1_, .int x2_, .long x3_, .long x4_, .int x5_, .int x6_]) (n := 16) (Nat.le_of_ble_eq_true rfl)
  rw [lg_entry_eq]
  generalize (lg_sl ([.ref a0_, .int x1_, .int x2_, .long x3_, .long x4_, .int x5_, .int x6_]) ++ List.replicate (16 - (lg_sl ([.ref a0_, .int x1_, .int x2_, .long x3_, .long x4_, .int x5_, .int x6_])).length) Slot.unset).toArray = ls at hl ⊢
  have hl : lv_has ls 16 [(0, .ref a0_), (1, .int x1_), (2, .int x2_), (3, .long x3_), (5, .long x4_), (7, .int x5_), (8, .int x6_)] := hl
  refine W_q (fun Q hQ => ?_)
  refine W_c0 (fun cl_0 hc_0 => ?_)
  have hck_0 : cl_0 ≤ K_ := by omega
  have hC_0 : cEq f0 a0_ (cF f0 a0_) := rfl
  have hm_0 : cF f0 a0_ ≤ 1202 := cF_le g ma0_ ka0_
  have hm_1 : -1 ≤ cF f0 a0_ := cF_ge g ma0_ ka0_
  refine lv_aload_n hx hb dX14_readCall_0 rfl (lv_at hl 0 rfl) ?_
  refine g_geti (C := RX14) (T := TX14) (N := 67) hx hb hts (mc_ inX14) hown hK g ma0_ ka0_ (by decide) rfl 8 (by decide) rfl (hts _ (List.mem_cons_of_mem _ t_2154)) (fun _ h9 => h9) rfl dX14_readCall_1 (fun x_1 bx_1 g => ?_)
  refine lv_istore (lv' := [(9, .int x_1), (0, .ref a0_), (1, .int x1_), (2, .int x2_), (3, .long x3_), (5, .long x4_), (7, .int x5_), (8, .int x6_)]) hx hb dX14_readCall_4 hl (by decide) rfl (fun ls hl => ?_)
  refine lv_aload_n hx hb dX14_readCall_6 rfl (lv_at hl 1 rfl) ?_
  refine lv_bipush (v := 40) hx hb dX14_readCall_7 (by decide) ?_
  have go_ := g
  refine g_callEv (As := [.int 40]) (rest := []) ⟨hx, hb, hml, hown, hts⟩ (r_X14_opening_2 l dC dI L kd tys f0 s.heap.size g.2.2.2.1 adK adV a0_ ma0_ ka0_ 40 t_ bt_ op_ bop_ (g.fcts [4, 3] rfl)) (cwV 1 hts (gV_ t_2484 t_2486 t_118 t_198 t_2487) rfl rfl rfl (by decide +kernel) ⟨(show 7 + 1 ≤ N + 1 + 24 by omega), (show 8 + (2 + 11) + 155 ≤ 60 * (N + 1) + 700 by omega)⟩) (pre3VA g hK hAm ma0_ ka0_ (by decide) (q := (RX14, TX14, 67)) rfl) rfl hl.1 rfl (lv_room (Nat.le_of_ble_eq_true rfl)) dX14_readCall_9 (cl_f hck_0) g hK (by decide) (by decide) (fx' := [(14, 2, a0_, .ref q0_), (14, 16, a0_, .int o_)]) rfl (fun xr_2 fr_2 H locs mxr_2 kxr_2 hp hMr_2 g => ?_) (fun fr_2 H locs hp hMr_2 g => ?_)
  · have hG_3 := isV.frame hMr_2 go_.2.2.2.1 mq0_ kq0_ (by decide) (by decide) hV
    have hG_4 := FR.frame hMr_2 go_.2.2.2.1 mq0_ kq0_ (by decide) (by decide) FR.refl
    subst hQ
    exact leavesX hempty hlocks (fun t ht hW => g_thrX g hK mxr_2 kxr_2 (by omega) ht hW) g.2.2.1.2.2
  · obtain ⟨hx_5, h_6, h_7, x_8, h_9, x_10, ⟨h_11, rh_11⟩, hF_12⟩ := hp
    have hG_13 := isV.frame hMr_2 go_.2.2.2.1 mq0_ kq0_ (by decide) (by decide) hV
    have hG_14 := FR.frame hMr_2 go_.2.2.2.1 mq0_ kq0_ (by decide) (by decide) FR.refl
    obtain ⟨E_15, hE_15⟩ : ∃ E : Int, cEq fr_2 a0_ E := ⟨_, rfl⟩
    have mxE_15 : E_15 ≤ 1202 := by have h9 := cF_le g ma0_ ka0_; have h8 : cF _ _ = _ := hE_15; omega
    have lE_15 : (cF f0 a0_) + 1 ≤ E_15 := by have h9 := hx_5; have h8 : cF _ _ = _ := hE_15; have h7 : cF _ _ = _ := hC_0; omega
    have b_16 : bd 0 1200 t_ := eqX rfl bt_ h_6 (by decide)
    have b_17 : bd 0 39 op_ := eqX rfl bop_ h_7 (by decide)
    have g := g.more hF_12
    have join_18 : ∀ (g46_12_19_q0_ : Nat) (f : Nat → va_E) (H : Heap) (locs : List Loc) (ls : Array Slot), g46_12_19_q0_ ∈ L → kd g46_12_19_q0_ = 175 → G3 (dC, dI) L kd tys s f0 [(12, 57), (12, 58), (14, 6), (14, 7), (14, 8), (14, 9), (14, 10), (14, 11), (14, 12), (14, 13), (14, 14), (14, 15), (14, 25)] [180, 201, 202, 203, 204, 205, 206, 207, 208, 209, 210] f H locs [(12, 19, q0_, .ref g46_12_19_q0_), (14, 10, a0_, .int x_8), (14, 25, a0_, .int x_10), (14, 2, a0_, .ref q0_), (14, 16, a0_, .int o_)] → isV f q0_ V_ → FR L kd f0 f q0_ → cEq f a0_ E_15 → lv_has ls 16 [(9, .int x_1), (0, .ref a0_), (1, .int x1_), (2, .int x2_), (3, .long x3_), (5, .long x4_), (7, .int x5_), (8, .int x6_)] → W p l e ({ frames := (N + 1) + 24, cells := K_, slots := 3 * K_, locals := 60 * (N + 1) + 700 } : Room) s m [.ref a0_, .int x1_, .int x2_, .long x3_, .long x4_, .int x5_, .int x6_].toArray below meth c H locs cl_0 (3 * cl_0) Q (F0 m 46 ls []) := by
      intro g46_12_19_q0_ f H locs ls mg46_12_19_q0_ kg46_12_19_q0_ g hJ46_V_q0_ hJ46_F_q0_ hJ46_C_a0_ hl
      refine lv_iconst (v := 3) hx hb dX14_readCall_46 (by decide) ?_
      have gn := g
      refine g_newI hx hb (hts _ (List.mem_cons_of_mem _ t_320)) hK g mg46_12_19_q0_ kg46_12_19_q0_ (by decide) rfl dX14_readCall_47 (cl_1 (K := K_) hck_0 (show cl_0 + 1 ≤ K_ by omega)).1 (cl_1 (K := K_) hck_0 (show cl_0 + 1 ≤ K_ by omega)).2 (fun qn L9 kd9 f9 f H hNW mqn kqn g => ?_)
      have hWn := gn.2.2.2.1
      have mo_a := ma0_
      have mo_q := mq0_
      have hG_19 := NW.isV_ hNW hWn mq0_ kq0_ hJ46_V_q0_
      have hG_20 := NW.FR_ hNW mq0_ hJ46_F_q0_
      have hG_21 := NW.cEq_ hNW hWn ma0_ ka0_ hJ46_C_a0_
      have ka0_ := hNW.k ma0_ ka0_
      have ma0_ := hNW.mem_ ma0_
      have kq0_ := hNW.k mq0_ kq0_
      have mq0_ := hNW.mem_ mq0_
      have kg46_12_19_q0_ := hNW.k mg46_12_19_q0_ kg46_12_19_q0_
      have mg46_12_19_q0_ := hNW.mem_ mg46_12_19_q0_
      have hAm := hNW.am hAm
      have hNW := hNW.to0
      obtain ⟨cl_22, ecl_22⟩ : ∃ c9 : Nat, c9 = cl_0 + 1 := ⟨_, rfl⟩
      rw [show 3 * cl_0 + 3 = 3 * (cl_0 + 1) by omega, ← ecl_22]
      have hck_23 : cl_22 ≤ K_ := by omega
      refine lv_astore (lv' := [(10, .ref qn), (9, .int x_1), (0, .ref a0_), (1, .int x1_), (2, .int x2_), (3, .long x3_), (5, .long x4_), (7, .int x5_), (8, .int x6_)]) hx hb dX14_readCall_49 hl (by decide) rfl (fun ls hl => ?_)
      refine lv_iconst (v := 0) hx hb dX14_readCall_51 (by decide) ?_
      refine lv_istore (lv' := [(11, .int 0), (10, .ref qn), (9, .int x_1), (0, .ref a0_), (1, .int x1_), (2, .int x2_), (3, .long x3_), (5, .long x4_), (7, .int x5_), (8, .int x6_)]) hx hb dX14_readCall_52 hl (by decide) rfl (fun ls hl => ?_)
      refine lv_iconst (v := 0) hx hb dX14_readCall_54 (by decide) ?_
      refine lv_istore (lv' := [(12, .int 0), (11, .int 0), (10, .ref qn), (9, .int x_1), (0, .ref a0_), (1, .int x1_), (2, .int x2_), (3, .long x3_), (5, .long x4_), (7, .int x5_), (8, .int x6_)]) hx hb dX14_readCall_55 hl (by decide) rfl (fun ls hl => ?_)
      have join_24 : ∀ (j73_13 : Int32) (f : Nat → va_E) (H : Heap) (locs : List Loc) (ls : Array Slot), bd 0 1 j73_13 → G3 (dC, dI) L9 kd9 tys s f9 [(12, 57), (12, 58), (14, 6), (14, 7), (14, 8), (14, 9), (14, 10), (14, 11), (14, 12), (14, 13), (14, 14), (14, 15), (14, 25)] [180, 201, 202, 203, 204, 205, 206, 207, 208, 209, 210] f H locs [(12, 19, q0_, .ref g46_12_19_q0_), (14, 10, a0_, .int x_8), (14, 25, a0_, .int x_10), (14, 2, a0_, .ref q0_), (14, 16, a0_, .int o_)] → isV f q0_ V_ → FR L9 kd9 f9 f q0_ → cEq f a0_ E_15 → lv_has ls 16 [(13, .int j73_13), (12, .int 0), (11, .int 0), (10, .ref qn), (9, .int x_1), (0, .ref a0_), (1, .int x1_), (2, .int x2_), (3, .long x3_), (5, .long x4_), (7, .int x5_), (8, .int x6_)] → W p l e ({ frames := (N + 1) + 24, cells := K_, slots := 3 * K_, locals := 60 * (N + 1) + 700 } : Room) s m [.ref a0_, .int x1_, .int x2_, .long x3_, .long x4_, .int x5_, .int x6_].toArray below meth c H locs cl_22 (3 * cl_22) Q (F0 m 73 ls []) := by
        intro j73_13 f H locs ls bj73_13 g hJ73_V_q0_ hJ73_F_q0_ hJ73_C_a0_ hl
        have loop_25 : ∀ (n : Nat) (v73_13 : Int32) (v73_12 : Int32) (v73_11 : Int32) (w73_14_10_a0_ : Int32), bd 0 1 v73_13 → bd 0 12 v73_12 → bd 0 3 v73_11 → bd 0 1201 w73_14_10_a0_ → ((n : Int) - 1 < (n : Int)) → ∀ (f : Nat → va_E) (H : Heap) (locs : List Loc) (ls : Array Slot) (cl73 : Nat) (f9 : Nat → va_E), G3 (dC, dI) L9 kd9 tys s f9 [(12, 57), (12, 58), (14, 6), (14, 7), (14, 8), (14, 9), (14, 10), (14, 11), (14, 12), (14, 13), (14, 14), (14, 15), (14, 25)] [180, 201, 202, 203, 204, 205, 206, 207, 208, 209, 210] f H locs [(12, 19, q0_, .ref g46_12_19_q0_), (14, 10, a0_, .int w73_14_10_a0_), (14, 25, a0_, .int x_10), (14, 2, a0_, .ref q0_), (14, 16, a0_, .int o_)] → (∃ (V1 : PV) (E1 : Int) (A : Nat → Int32), isV f q0_ V1 ∧ FR L9 kd9 f9 f q0_ ∧ cEq f a0_ E1 ∧ exN V_ V1 ∧ wfN V1 (V1.n 57).toInt ∧ (V1.n 57).toInt - (V_.n 57).toInt ≤ E1 - cF f0 a0_ - 1 ∧ 2 * (cl73 : Int) ≤ E1 - cF f0 a0_ + 1 ∧ cF f0 a0_ + 1 ≤ E1 ∧ E1 ≤ 1202 ∧ cl73 ≤ K_ ∧ 1202 - E1 < (n : Int) ∧ NW (L) (kd) f0 f0 s.heap.size qn L9 kd9 f9 f9 ∧ isY f qn A ∧ (∀ j : Nat, (j : Int) < v73_11.toInt → EV V1 (A j) v73_12.toInt o_.toNatClampNeg) ∧ v73_11.toInt + v73_13.toInt ≤ 3) → lv_has ls 16 [(13, .int v73_13), (12, .int v73_12), (11, .int v73_11), (10, .ref qn), (9, .int x_1), (0, .ref a0_), (1, .int x1_), (2, .int x2_), (3, .long x3_), (5, .long x4_), (7, .int x5_), (8, .int x6_)] → W p l e ({ frames := (N + 1) + 24, cells := K_, slots := 3 * K_, locals := 60 * (N + 1) + 700 } : Room) s m [.ref a0_, .int x1_, .int x2_, .long x3_, .long x4_, .int x5_, .int x6_].toArray below meth c H locs cl73 (3 * cl73) Q (F0 m 73 ls []) := by
          intro n73
          induction n73 with
          | zero =>
            intro v73_13 v73_12 v73_11 w73_14_10_a0_ bv73_13 bv73_12 bv73_11 bw73_14_10_a0_ hm73 f H locs ls cl73 f9 g  ⟨V73, E73, A73, hV73, hF73, hC73, hX73, hw73, hn73, hk73, hc73, mx73, hck73, hms73, hNW, hY73, hA73, hs73⟩ hl
            exact absurd hms73 (by omega)
          | succ n73 ih73 =>
            intro v73_13 v73_12 v73_11 w73_14_10_a0_ bv73_13 bv73_12 bv73_11 bw73_14_10_a0_ hm73 f H locs ls cl73 f9 g  ⟨V73, E73, A73, hV73, hF73, hC73, hX73, hw73, hn73, hk73, hc73, mx73, hck73, hms73, hNW, hY73, hA73, hs73⟩ hl
            refine lv_iload hx hb dX14_readCall_73 (lv_at hl 0 rfl) ?_
            have kb_0 : bd 0 0 (0 : Int32) := ⟨by decide, by decide⟩
            refine lv_if_eq (tgt := 185) hx hb dX14_readCall_75 (by decide) (fun c_26 => ?_) (fun c_26 => ?_)
            · have fc_26 := eq_f c_26
              have b_27 : bd 0 0 v73_13 := eqX fc_26 bv73_13 kb_0 (by decide)
              refine lv_aload_n hx hb dX14_readCall_185 rfl (lv_at hl 5 rfl) ?_
              refine lv_aload_n hx hb dX14_readCall_186 rfl (lv_at hl 5 rfl) ?_
              refine lv_bipush (v := 41) hx hb dX14_readCall_187 (by decide) ?_
              have go_ := g
              refine g_calli (va_runV (As := [.int 41]) (rest := [.ref a0_]) ⟨hx, hb, hml, hown, hts⟩ (r_X14_isSign l dC dI L9 kd9 tys f H.size g.2.2.2.1 a0_ ma0_ ka0_ 41) (cwV 1 hts (gV_ t_2435 t_2437 t_108 t_198 t_2438) rfl rfl rfl (by decide +kernel) ⟨(show 0 + 1 ≤ N + 1 + 24 by omega), (show 8 + (2 + 11) + 0 ≤ 60 * (N + 1) + 700 by omega)⟩) (pre3V g hK ma0_ ka0_ (by decide) (q := (RX14, TX14, 67)) rfl) rfl rfl hl.1 rfl (lv_room (Nat.le_of_ble_eq_true rfl)) dX14_readCall_189 (cl_f hck73)) g hK (by decide) (by decide) (fx' := [(12, 19, q0_, .ref g46_12_19_q0_), (14, 10, a0_, .int w73_14_10_a0_), (14, 25, a0_, .int x_10), (14, 2, a0_, .ref q0_), (14, 16, a0_, .int o_)]) rfl (fun r_28 fr_28 H locs hp hMr_28 g => ?_)
              rcases hp with ⟨h_29, -⟩ | ⟨h_30, x_31, h_32, hF_33⟩
              · have hG_34 := isV.frame hMr_28 go_.2.2.2.1 mq0_ kq0_ (by decide) (by decide) hV73
                have hG_35 := FR.frame hMr_28 go_.2.2.2.1 mq0_ kq0_ (by decide) (by decide) hF73
                have hG_36 := cEq.frame hMr_28 go_.2.2.2.1 ma0_ ka0_ (by decide) (by decide) hC73
                have hG_37 := isY.frame hMr_28 go_.2.2.2.1 mqn kqn (by decide) (by decide) hY73
                obtain rfl : r_28 = 0 := h_29
                refine lv_iconst (v := 1) hx hb dX14_readCall_192 (by decide) ?_
                refine lv_aload_n hx hb dX14_readCall_193 rfl (lv_at hl 5 rfl) ?_
                refine g_geti (C := RX14) (T := TX14) (N := 67) hx hb hts (mc_ inX14) hown hK g ma0_ ka0_ (by decide) rfl 8 (by decide) rfl (hts _ (List.mem_cons_of_mem _ t_2154)) (fun _ h9 => h9) rfl dX14_readCall_194 (fun x_38 bx_38 g => ?_)
                have go_ := g
                refine g_callEv (As := [.int 0, .int 1, .int x_38]) (rest := []) ⟨hx, hb, hml, hown, hts⟩ (r_X14_need_2 l dC dI L9 kd9 tys fr_28 H.size g.2.2.2.1 a0_ ma0_ ka0_ 0 kb_0 1 x_38) (cwV 3 hts (gV_ t_2403 t_2405 t_100 t_198 t_2406) rfl rfl rfl (by decide +kernel) ⟨(show 1 + 1 ≤ N + 1 + 24 by omega), (show 8 + (4 + 11) + 22 ≤ 60 * (N + 1) + 700 by omega)⟩) (pre3V g hK ma0_ ka0_ (by decide) (q := (RX14, TX14, 67)) rfl) rfl hl.1 rfl (lv_room (Nat.le_of_ble_eq_true rfl)) dX14_readCall_197 (cl_f hck73) g hK (by decide) (by decide) (fx' := [(14, 8, a0_, .int x_38), (12, 19, q0_, .ref g46_12_19_q0_), (14, 10, a0_, .int w73_14_10_a0_), (14, 25, a0_, .int x_10), (14, 2, a0_, .ref q0_), (14, 16, a0_, .int o_)]) rfl (fun xr_39 fr_39 H locs mxr_39 kxr_39 hp hMr_39 g => ?_) (fun fr_39 H locs hp hMr_39 g => ?_)
                · have hG_40 := isV.frame hMr_39 go_.2.2.2.1 mq0_ kq0_ (by decide) (by decide) hG_34
                  have hG_41 := FR.frame hMr_39 go_.2.2.2.1 mq0_ kq0_ (by decide) (by decide) hG_35
                  have hG_42 := cEq.frame hMr_39 go_.2.2.2.1 ma0_ ka0_ (by decide) (by decide) hG_36
                  have hG_43 := isY.frame hMr_39 go_.2.2.2.1 mqn kqn (by decide) (by decide) hG_37
                  obtain ⟨mo9, ko9⟩ := NW.old hNW mxr_39 kxr_39 (by decide)
                  have g := NW.drop hNW (g.sub (fx' := []) [] rfl) (fun x h9 => by cases h9)
                  subst hQ
                  exact leavesX hempty hlocks (fun t ht hW => g_thrX g hK mo9 ko9 (by omega) ht hW) g.2.2.1.2.2
                · exact hp.elim
              · have hG_44 := isV.frame hMr_28 go_.2.2.2.1 mq0_ kq0_ (by decide) (by decide) hV73
                have hG_45 := FR.frame hMr_28 go_.2.2.2.1 mq0_ kq0_ (by decide) (by decide) hF73
                have hG_46 := cEq.frame hMr_28 go_.2.2.2.1 ma0_ ka0_ (by decide) (by decide) hC73
                have hG_47 := isY.frame hMr_28 go_.2.2.2.1 mqn kqn (by decide) (by decide) hY73
                obtain rfl : r_28 = 1 := h_30
                have g := g.more hF_33
                refine lv_iconst (v := 1) hx hb dX14_readCall_192 (by decide) ?_
                refine lv_aload_n hx hb dX14_readCall_193 rfl (lv_at hl 5 rfl) ?_
                refine g_geti (C := RX14) (T := TX14) (N := 67) hx hb hts (mc_ inX14) hown hK g ma0_ ka0_ (by decide) rfl 8 (by decide) rfl (hts _ (List.mem_cons_of_mem _ t_2154)) (fun _ h9 => h9) rfl dX14_readCall_194 (fun x_48 bx_48 g => ?_)
                have hs_49 := sE_1 g 1 rfl (by have h9_0 := bj73_13; unfold bd at h9_0; have h9_1 := bo_; unfold bd at h9_1; have h9_2 := b_17; unfold bd at h9_2; have h9_3 := b_16; unfold bd at h9_3; have h9_4 := bv73_11; unfold bd at h9_4; have h9_5 := bv73_12; unfold bd at h9_5; have h9_6 := b_27; unfold bd at h9_6; have h9_7 := bw73_14_10_a0_; unfold bd at h9_7; have h9_8 := bx2_; unfold bd at h9_8; have h9_9 := bx6_; unfold bd at h9_9; have h9_10 := bx_1; unfold bd at h9_10; have h9_11 := h_11; unfold bd at h9_11; have h9_12 := h_32; unfold bd at h9_12; have h9_13 := bx_48; unfold bd at h9_13; have h9_14 := h_9; unfold bd at h9_14; have h8_0 := kb_0; unfold bd at h8_0; omega)
                have kb_1 : bd 1 1 (1 : Int32) := ⟨by decide, by decide⟩
                have go_ := g
                refine g_callEv (As := [.int 1, .int 1, .int x_48]) (rest := []) ⟨hx, hb, hml, hown, hts⟩ (r_X14_need_3 l dC dI L9 kd9 tys fr_28 H.size g.2.2.2.1 a0_ ma0_ ka0_ 1 kb_1 1 x_48) (cwV 3 hts (gV_ t_2403 t_2405 t_100 t_198 t_2406) rfl rfl rfl (by decide +kernel) ⟨(show 0 + 1 ≤ N + 1 + 24 by omega), (show 8 + (4 + 11) + 0 ≤ 60 * (N + 1) + 700 by omega)⟩) (pre3V g hK ma0_ ka0_ (by decide) (q := (RX14, TX14, 67)) rfl) rfl hl.1 rfl (lv_room (Nat.le_of_ble_eq_true rfl)) dX14_readCall_197 (cl_f hck73) g hK (by decide) (by decide) (fx' := [(14, 8, a0_, .int x_48), (14, 6, a0_, .int x_31), (12, 19, q0_, .ref g46_12_19_q0_), (14, 10, a0_, .int w73_14_10_a0_), (14, 25, a0_, .int x_10), (14, 2, a0_, .ref q0_), (14, 16, a0_, .int o_)]) rfl (fun xr_50 fr_50 H locs mxr_50 kxr_50 hp hMr_50 g => ?_) (fun fr_50 H locs hp hMr_50 g => ?_)
                · have hG_51 := isV.frame hMr_50 go_.2.2.2.1 mq0_ kq0_ (by decide) (by decide) hG_44
                  have hG_52 := FR.frame hMr_50 go_.2.2.2.1 mq0_ kq0_ (by decide) (by decide) hG_45
                  have hG_53 := cEq.frame hMr_50 go_.2.2.2.1 ma0_ ka0_ (by decide) (by decide) hG_46
                  have hG_54 := isY.frame hMr_50 go_.2.2.2.1 mqn kqn (by decide) (by decide) hG_47
                  exact hp.elim
                · have hG_55 := isV.frame hMr_50 go_.2.2.2.1 mq0_ kq0_ (by decide) (by decide) hG_44
                  have hG_56 := FR.frame hMr_50 go_.2.2.2.1 mq0_ kq0_ (by decide) (by decide) hG_45
                  have hG_57 := cEq.frame hMr_50 go_.2.2.2.1 ma0_ ka0_ (by decide) (by decide) hG_46
                  have hG_58 := isY.frame hMr_50 go_.2.2.2.1 mqn kqn (by decide) (by decide) hG_47
                  refine lv_aload_n hx hb dX14_readCall_200 rfl (lv_at hl 5 rfl) ?_
                  have hs_59 := sE_1 g 1 rfl (by have h9_0 := bj73_13; unfold bd at h9_0; have h9_1 := bo_; unfold bd at h9_1; have h9_2 := b_17; unfold bd at h9_2; have h9_3 := b_16; unfold bd at h9_3; have h9_4 := bv73_11; unfold bd at h9_4; have h9_5 := bv73_12; unfold bd at h9_5; have h9_6 := b_27; unfold bd at h9_6; have h9_7 := bw73_14_10_a0_; unfold bd at h9_7; have h9_8 := bx2_; unfold bd at h9_8; have h9_9 := bx6_; unfold bd at h9_9; have h9_10 := bx_1; unfold bd at h9_10; have h9_11 := h_11; unfold bd at h9_11; have h9_12 := h_32; unfold bd at h9_12; have h9_13 := bx_48; unfold bd at h9_13; have h9_14 := h_9; unfold bd at h9_14; have h8_0 := kb_0; unfold bd at h8_0; have h8_1 := kb_1; unfold bd at h8_1; omega)
                  have go_ := g
                  refine g_callEv (As := []) (rest := []) ⟨hx, hb, hml, hown, hts⟩ (r_X14_room l dC dI L9 kd9 tys fr_50 H.size g.2.2.2.1 a0_ ma0_ ka0_) (cwV 0 hts (gV_ t_2415 t_2417 t_103 t_198 t_2418) rfl rfl rfl (by decide +kernel) ⟨(show 2 + 1 ≤ N + 1 + 24 by omega), (show 8 + (1 + 11) + 45 ≤ 60 * (N + 1) + 700 by omega)⟩) (pre3V g hK ma0_ ka0_ (by decide) (q := (RX14, TX14, 67)) rfl) rfl hl.1 rfl (lv_room (Nat.le_of_ble_eq_true rfl)) dX14_readCall_201 (cl_f hck73) g hK (by decide) (by decide) (fx' := [(14, 8, a0_, .int x_48), (14, 6, a0_, .int x_31), (12, 19, q0_, .ref g46_12_19_q0_), (14, 10, a0_, .int w73_14_10_a0_), (14, 25, a0_, .int x_10), (14, 2, a0_, .ref q0_), (14, 16, a0_, .int o_)]) rfl (fun xr_60 fr_60 H locs mxr_60 kxr_60 hp hMr_60 g => ?_) (fun fr_60 H locs hp hMr_60 g => ?_)
                  · have hG_61 := isV.frame hMr_60 go_.2.2.2.1 mq0_ kq0_ (by decide) (by decide) hG_55
                    have hG_62 := FR.frame hMr_60 go_.2.2.2.1 mq0_ kq0_ (by decide) (by decide) hG_56
                    have hG_63 := cEq.frame hMr_60 go_.2.2.2.1 ma0_ ka0_ (by decide) (by decide) hG_57
                    have hG_64 := isY.frame hMr_60 go_.2.2.2.1 mqn kqn (by decide) (by decide) hG_58
                    obtain ⟨mo9, ko9⟩ := NW.old hNW mxr_60 kxr_60 (by decide)
                    have g := NW.drop hNW (g.sub (fx' := []) [] rfl) (fun x h9 => by cases h9)
                    subst hQ
                    exact leavesX hempty hlocks (fun t ht hW => g_thrX g hK mo9 ko9 (by omega) ht hW) g.2.2.1.2.2
                  · obtain ⟨x_65, h_66, hF_67⟩ := hp
                    have hG_68 := isV.frame hMr_60 go_.2.2.2.1 mq0_ kq0_ (by decide) (by decide) hG_55
                    have hG_69 := FR.frame hMr_60 go_.2.2.2.1 mq0_ kq0_ (by decide) (by decide) hG_56
                    have hG_70 := cEq.frame hMr_60 go_.2.2.2.1 ma0_ ka0_ (by decide) (by decide) hG_57
                    have hG_71 := isY.frame hMr_60 go_.2.2.2.1 mqn kqn (by decide) (by decide) hG_58
                    have g := g.more hF_67
                    have e_72 := fx_same g 4 0 rfl rfl
                    have b_73 : bd 0 1200 w73_14_10_a0_ := eqX (eq_f e_72.symm) bw73_14_10_a0_ h_66 (by decide)
                    have g := g.sub (fx' := [(14, 8, a0_, .int x_48), (14, 6, a0_, .int x_31), (12, 19, q0_, .ref g46_12_19_q0_), (14, 10, a0_, .int w73_14_10_a0_), (14, 25, a0_, .int x_10), (14, 2, a0_, .ref q0_), (14, 16, a0_, .int o_)]) [1, 2, 3, 4, 5, 6, 7] rfl
                    refine lv_aload_n hx hb dX14_readCall_204 rfl (lv_at hl 5 rfl) ?_
                    refine lv_iload hx hb dX14_readCall_205 (lv_at hl 2 rfl) ?_
                    refine lv_aload_n hx hb dX14_readCall_207 rfl (lv_at hl 5 rfl) ?_
                    refine g_getk (C := RX14) (T := TX14) (N := 67) hx hb hts (mc_ inX14) hown hK g rfl 2 (by decide) rfl (hts _ (List.mem_cons_of_mem _ t_2148)) (fun _ h9 => h9) 5 rfl dX14_readCall_208 ?_
                    refine g_getk (C := RX12) (T := TX12) (N := 60) hx hb hts (mc_ inX12) hown hK g rfl 19 (by decide) rfl (hts _ (List.mem_cons_of_mem _ t_1944)) (fun _ h9 => h9) 2 rfl dX14_readCall_211 ?_
                    refine lv_iload_n hx hb dX14_readCall_214 rfl (lv_at hl 7 rfl) ?_
                    refine g_iald hx hb hK g mg46_12_19_q0_ kg46_12_19_q0_ (by decide) rfl (in_bd bx2_ (by decide)) dX14_readCall_215 (fun x_74 bx_74 cx_74 => ?_)
                    have vx_74 : x_74 = V73.i 19 x2_.toNatClampNeg := hG_68.at g 2 rfl rfl cx_74
                    refine lv_icmp_ne (tgt := 223) hx hb dX14_readCall_216 (by decide) (fun c_75 => ?_) (fun c_75 => ?_)
                    · have fc_75 := neq_f c_75
                      refine lv_iconst (v := 0) hx hb dX14_readCall_223 (by decide) ?_
                      refine lv_bipush (v := 6) hx hb dX14_readCall_224 (by decide) ?_
                      refine lv_aload_n hx hb dX14_readCall_226 rfl (lv_at hl 5 rfl) ?_
                      refine g_getk (C := RX14) (T := TX14) (N := 67) hx hb hts (mc_ inX14) hown hK g rfl 8 (by decide) rfl (hts _ (List.mem_cons_of_mem _ t_2154)) (fun _ h9 => h9) 0 rfl dX14_readCall_227 ?_
                      have hs_76 := sE_1 g 1 rfl (by have h9_0 := bj73_13; unfold bd at h9_0; have h9_1 := bo_; unfold bd at h9_1; have h9_2 := b_17; unfold bd at h9_2; have h9_3 := b_16; unfold bd at h9_3; have h9_4 := bv73_11; unfold bd at h9_4; have h9_5 := bv73_12; unfold bd at h9_5; have h9_6 := b_27; unfold bd at h9_6; have h9_7 := b_73; unfold bd at h9_7; have h9_8 := bx2_; unfold bd at h9_8; have h9_9 := bx6_; unfold bd at h9_9; have h9_10 := bx_1; unfold bd at h9_10; have h9_11 := h_11; unfold bd at h9_11; have h9_12 := h_32; unfold bd at h9_12; have h9_13 := bx_48; unfold bd at h9_13; have h9_14 := h_66; unfold bd at h9_14; have h9_15 := bx_74; unfold bd at h9_15; have h9_16 := h_9; unfold bd at h9_16; have h8_0 := kb_0; unfold bd at h8_0; have h8_1 := kb_1; unfold bd at h8_1; omega)
                      have go_ := g
                      refine g_callEv (As := [.int 0, .int 6, .int x_48]) (rest := []) ⟨hx, hb, hml, hown, hts⟩ (r_X14_need_2 l dC dI L9 kd9 tys fr_60 H.size g.2.2.2.1 a0_ ma0_ ka0_ 0 kb_0 6 x_48) (cwV 3 hts (gV_ t_2403 t_2405 t_100 t_198 t_2406) rfl rfl rfl (by decide +kernel) ⟨(show 1 + 1 ≤ N + 1 + 24 by omega), (show 8 + (4 + 11) + 22 ≤ 60 * (N + 1) + 700 by omega)⟩) (pre3V g hK ma0_ ka0_ (by decide) (q := (RX14, TX14, 67)) rfl) rfl hl.1 rfl (lv_room (Nat.le_of_ble_eq_true rfl)) dX14_readCall_230 (cl_f hck73) g hK (by decide) (by decide) (fx' := [(14, 8, a0_, .int x_48), (14, 6, a0_, .int x_31), (12, 19, q0_, .ref g46_12_19_q0_), (14, 10, a0_, .int w73_14_10_a0_), (14, 25, a0_, .int x_10), (14, 2, a0_, .ref q0_), (14, 16, a0_, .int o_)]) rfl (fun xr_77 fr_77 H locs mxr_77 kxr_77 hp hMr_77 g => ?_) (fun fr_77 H locs hp hMr_77 g => ?_)
                      · have hG_78 := isV.frame hMr_77 go_.2.2.2.1 mq0_ kq0_ (by decide) (by decide) hG_68
                        have hG_79 := FR.frame hMr_77 go_.2.2.2.1 mq0_ kq0_ (by decide) (by decide) hG_69
                        have hG_80 := cEq.frame hMr_77 go_.2.2.2.1 ma0_ ka0_ (by decide) (by decide) hG_70
                        have hG_81 := isY.frame hMr_77 go_.2.2.2.1 mqn kqn (by decide) (by decide) hG_71
                        obtain ⟨mo9, ko9⟩ := NW.old hNW mxr_77 kxr_77 (by decide)
                        have g := NW.drop hNW (g.sub (fx' := []) [] rfl) (fun x h9 => by cases h9)
                        subst hQ
                        exact leavesX hempty hlocks (fun t ht hW => g_thrX g hK mo9 ko9 (by omega) ht hW) g.2.2.1.2.2
                      · exact hp.elim
                    · have fc_75 := eq_f c_75
                      refine lv_iconst (v := 1) hx hb dX14_readCall_219 (by decide) ?_
                      refine lv_goto (tgt := 224) hx hb dX14_readCall_220 (by decide) ?_
                      refine lv_bipush (v := 6) hx hb dX14_readCall_224 (by decide) ?_
                      refine lv_aload_n hx hb dX14_readCall_226 rfl (lv_at hl 5 rfl) ?_
                      refine g_getk (C := RX14) (T := TX14) (N := 67) hx hb hts (mc_ inX14) hown hK g rfl 8 (by decide) rfl (hts _ (List.mem_cons_of_mem _ t_2154)) (fun _ h9 => h9) 0 rfl dX14_readCall_227 ?_
                      have hs_82 := sE_1 g 1 rfl (by have h9_0 := bj73_13; unfold bd at h9_0; have h9_1 := bo_; unfold bd at h9_1; have h9_2 := b_17; unfold bd at h9_2; have h9_3 := b_16; unfold bd at h9_3; have h9_4 := bv73_11; unfold bd at h9_4; have h9_5 := bv73_12; unfold bd at h9_5; have h9_6 := b_27; unfold bd at h9_6; have h9_7 := b_73; unfold bd at h9_7; have h9_8 := bx2_; unfold bd at h9_8; have h9_9 := bx6_; unfold bd at h9_9; have h9_10 := bx_1; unfold bd at h9_10; have h9_11 := h_11; unfold bd at h9_11; have h9_12 := h_32; unfold bd at h9_12; have h9_13 := bx_48; unfold bd at h9_13; have h9_14 := h_66; unfold bd at h9_14; have h9_15 := bx_74; unfold bd at h9_15; have h9_16 := h_9; unfold bd at h9_16; have h8_0 := kb_0; unfold bd at h8_0; have h8_1 := kb_1; unfold bd at h8_1; omega)
                      have go_ := g
                      refine g_callEv (As := [.int 1, .int 6, .int x_48]) (rest := []) ⟨hx, hb, hml, hown, hts⟩ (r_X14_need_3 l dC dI L9 kd9 tys fr_60 H.size g.2.2.2.1 a0_ ma0_ ka0_ 1 kb_1 6 x_48) (cwV 3 hts (gV_ t_2403 t_2405 t_100 t_198 t_2406) rfl rfl rfl (by decide +kernel) ⟨(show 0 + 1 ≤ N + 1 + 24 by omega), (show 8 + (4 + 11) + 0 ≤ 60 * (N + 1) + 700 by omega)⟩) (pre3V g hK ma0_ ka0_ (by decide) (q := (RX14, TX14, 67)) rfl) rfl hl.1 rfl (lv_room (Nat.le_of_ble_eq_true rfl)) dX14_readCall_230 (cl_f hck73) g hK (by decide) (by decide) (fx' := [(14, 8, a0_, .int x_48), (14, 6, a0_, .int x_31), (12, 19, q0_, .ref g46_12_19_q0_), (14, 10, a0_, .int w73_14_10_a0_), (14, 25, a0_, .int x_10), (14, 2, a0_, .ref q0_), (14, 16, a0_, .int o_)]) rfl (fun xr_83 fr_83 H locs mxr_83 kxr_83 hp hMr_83 g => ?_) (fun fr_83 H locs hp hMr_83 g => ?_)
                      · have hG_84 := isV.frame hMr_83 go_.2.2.2.1 mq0_ kq0_ (by decide) (by decide) hG_68
                        have hG_85 := FR.frame hMr_83 go_.2.2.2.1 mq0_ kq0_ (by decide) (by decide) hG_69
                        have hG_86 := cEq.frame hMr_83 go_.2.2.2.1 ma0_ ka0_ (by decide) (by decide) hG_70
                        have hG_87 := isY.frame hMr_83 go_.2.2.2.1 mqn kqn (by decide) (by decide) hG_71
                        exact hp.elim
                      · have hG_88 := isV.frame hMr_83 go_.2.2.2.1 mq0_ kq0_ (by decide) (by decide) hG_68
                        have hG_89 := FR.frame hMr_83 go_.2.2.2.1 mq0_ kq0_ (by decide) (by decide) hG_69
                        have hG_90 := cEq.frame hMr_83 go_.2.2.2.1 ma0_ ka0_ (by decide) (by decide) hG_70
                        have hG_91 := isY.frame hMr_83 go_.2.2.2.1 mqn kqn (by decide) (by decide) hG_71
                        refine lv_aload_n hx hb dX14_readCall_233 rfl (lv_at hl 5 rfl) ?_
                        refine lv_bipush (v := 41) hx hb dX14_readCall_234 (by decide) ?_
                        have hs_92 := sE_1 g 1 rfl (by have h9_0 := bj73_13; unfold bd at h9_0; have h9_1 := bo_; unfold bd at h9_1; have h9_2 := b_17; unfold bd at h9_2; have h9_3 := b_16; unfold bd at h9_3; have h9_4 := bv73_11; unfold bd at h9_4; have h9_5 := bv73_12; unfold bd at h9_5; have h9_6 := b_27; unfold bd at h9_6; have h9_7 := b_73; unfold bd at h9_7; have h9_8 := bx2_; unfold bd at h9_8; have h9_9 := bx6_; unfold bd at h9_9; have h9_10 := bx_1; unfold bd at h9_10; have h9_11 := h_11; unfold bd at h9_11; have h9_12 := h_32; unfold bd at h9_12; have h9_13 := bx_48; unfold bd at h9_13; have h9_14 := h_66; unfold bd at h9_14; have h9_15 := bx_74; unfold bd at h9_15; have h9_16 := h_9; unfold bd at h9_16; have h8_0 := kb_0; unfold bd at h8_0; have h8_1 := kb_1; unfold bd at h8_1; omega)
                        have go_ := g
                        refine g_callEv (As := [.int 41]) (rest := []) ⟨hx, hb, hml, hown, hts⟩ (r_X14_closing l dC dI L9 kd9 tys fr_83 H.size g.2.2.2.1 adK adV a0_ ma0_ ka0_ 41 w73_14_10_a0_ (bd_sub b_73 (by decide)) x_10 h_11 (g.fcts [3, 4] rfl)) (cwV 1 hts (gV_ t_2492 t_2494 t_120 t_198 t_2495) rfl rfl rfl (by decide +kernel) ⟨(show 8 + 1 ≤ N + 1 + 24 by omega), (show 8 + (2 + 11) + 176 ≤ 60 * (N + 1) + 700 by omega)⟩) (pre3VA g hK hAm ma0_ ka0_ (by decide) (q := (RX14, TX14, 67)) rfl) rfl hl.1 rfl (lv_room (Nat.le_of_ble_eq_true rfl)) dX14_readCall_236 (cl_f hck73) g hK (by decide) (by decide) (fx' := [(12, 19, q0_, .ref g46_12_19_q0_), (14, 2, a0_, .ref q0_), (14, 16, a0_, .int o_)]) rfl (fun xr_93 fr_93 H locs mxr_93 kxr_93 hp hMr_93 g => ?_) (fun fr_93 H locs hp hMr_93 g => ?_)
                        · have hG_94 := isV.frame hMr_93 go_.2.2.2.1 mq0_ kq0_ (by decide) (by decide) hG_88
                          have hG_95 := FR.frame hMr_93 go_.2.2.2.1 mq0_ kq0_ (by decide) (by decide) hG_89
                          have hG_96 := isY.frame hMr_93 go_.2.2.2.1 mqn kqn (by decide) (by decide) hG_91
                          obtain ⟨mo9, ko9⟩ := NW.old hNW mxr_93 kxr_93 (by decide)
                          have g := NW.drop hNW (g.sub (fx' := []) [] rfl) (fun x h9 => by cases h9)
                          subst hQ
                          exact leavesX hempty hlocks (fun t ht hW => g_thrX g hK mo9 ko9 (by omega) ht hW) g.2.2.1.2.2
                        · obtain ⟨hx_97, h_98, x_99, h_100, x_101, ⟨h_102, rh_102⟩, hF_103⟩ := hp
                          have hG_104 := isV.frame hMr_93 go_.2.2.2.1 mq0_ kq0_ (by decide) (by decide) hG_88
                          have hG_105 := FR.frame hMr_93 go_.2.2.2.1 mq0_ kq0_ (by decide) (by decide) hG_89
                          have hG_106 := isY.frame hMr_93 go_.2.2.2.1 mqn kqn (by decide) (by decide) hG_91
                          obtain ⟨E_107, hE_107⟩ : ∃ E : Int, cEq fr_93 a0_ E := ⟨_, rfl⟩
                          have mxE_107 : E_107 ≤ 1202 := by have h9 := cF_le g ma0_ ka0_; have h8 : cF _ _ = _ := hE_107; omega
                          have lE_107 : E73 + 1 ≤ E_107 := by have h9 := hx_97; have h8 : cF _ _ = _ := hE_107; have h7 : cF _ _ = _ := hG_90; omega
                          have g := g.more hF_103
                          refine lv_aload_n hx hb dX14_readCall_239 rfl (lv_at hl 5 rfl) ?_
                          refine lv_iload hx hb dX14_readCall_240 (lv_at hl 11 rfl) ?_
                          refine lv_if_eq (tgt := 252) hx hb dX14_readCall_242 (by decide) (fun c_108 => ?_) (fun c_108 => ?_)
                          · have fc_108 := eq_f c_108
                            have b_109 : bd 0 0 x6_ := eqX fc_108 bx6_ kb_0 (by decide)
                            refine lv_iconst (v := 1) hx hb dX14_readCall_252 (by decide) ?_
                            refine lv_goto (tgt := 257) hx hb dX14_readCall_253 (by decide) ?_
                            refine lv_bipush (v := 7) hx hb dX14_readCall_257 (by decide) ?_
                            refine lv_iload hx hb dX14_readCall_259 (lv_at hl 10 rfl) ?_
                            have go_ := g
                            refine g_callEv (As := [.int 1, .int 7, .int x5_]) (rest := []) ⟨hx, hb, hml, hown, hts⟩ (r_X14_need_3 l dC dI L9 kd9 tys fr_93 H.size g.2.2.2.1 a0_ ma0_ ka0_ 1 kb_1 7 x5_) (cwV 3 hts (gV_ t_2403 t_2405 t_100 t_198 t_2406) rfl rfl rfl (by decide +kernel) ⟨(show 0 + 1 ≤ N + 1 + 24 by omega), (show 8 + (4 + 11) + 0 ≤ 60 * (N + 1) + 700 by omega)⟩) (pre3V g hK ma0_ ka0_ (by decide) (q := (RX14, TX14, 67)) rfl) rfl hl.1 rfl (lv_room (Nat.le_of_ble_eq_true rfl)) dX14_readCall_261 (cl_f hck73) g hK (by decide) (by decide) (fx' := [(14, 10, a0_, .int x_99), (14, 25, a0_, .int x_101), (12, 19, q0_, .ref g46_12_19_q0_), (14, 2, a0_, .ref q0_), (14, 16, a0_, .int o_)]) rfl (fun xr_110 fr_110 H locs mxr_110 kxr_110 hp hMr_110 g => ?_) (fun fr_110 H locs hp hMr_110 g => ?_)
                            · have hG_111 := isV.frame hMr_110 go_.2.2.2.1 mq0_ kq0_ (by decide) (by decide) hG_104
                              have hG_112 := FR.frame hMr_110 go_.2.2.2.1 mq0_ kq0_ (by decide) (by decide) hG_105
                              have hG_113 := isY.frame hMr_110 go_.2.2.2.1 mqn kqn (by decide) (by decide) hG_106
                              have hG_114 := cEq.frame hMr_110 go_.2.2.2.1 ma0_ ka0_ (by decide) (by decide) hE_107
                              exact hp.elim
                            · have hG_115 := isV.frame hMr_110 go_.2.2.2.1 mq0_ kq0_ (by decide) (by decide) hG_104
                              have hG_116 := FR.frame hMr_110 go_.2.2.2.1 mq0_ kq0_ (by decide) (by decide) hG_105
                              have hG_117 := isY.frame hMr_110 go_.2.2.2.1 mqn kqn (by decide) (by decide) hG_106
                              have hG_118 := cEq.frame hMr_110 go_.2.2.2.1 ma0_ ka0_ (by decide) (by decide) hE_107
                              refine lv_aload_n hx hb dX14_readCall_264 rfl (lv_at hl 5 rfl) ?_
                              refine lv_iload_n hx hb dX14_readCall_265 rfl (lv_at hl 6 rfl) ?_
                              refine lv_iconst (v := (-1)) hx hb dX14_readCall_266 (by decide) ?_
                              refine lv_iconst (v := (-1)) hx hb dX14_readCall_267 (by decide) ?_
                              refine lv_iconst (v := 1) hx hb dX14_readCall_268 (by decide) ?_
                              refine lv_iload hx hb dX14_readCall_269 (lv_at hl 1 rfl) ?_
                              refine lv_iadd hx hb dX14_readCall_271 ?_
                              refine lv_topi (fun y_119 ey_119 => ?_)
                              have ty_119 := add_bd ey_119 kb_1 bv73_12 (by decide)
                              have b_120 : bd 1 13 y_119 := add_rg ty_119 kb_1 bv73_12 (by decide)
                              have hnb : (V73.n 57).toInt ≤ 2499 := by omega
                              have go_ := g
                              refine g_calli (va_runV (As := [.int x1_, .int (-1), .int (-1), .int y_119]) (rest := []) ⟨hx, hb, hml, hown, hts⟩ (r_X14_node l dC dI L9 kd9 tys fr_110 H.size g.2.2.2.1 a0_ ma0_ ka0_ x1_ (-1) (-1) y_119 q0_ mq0_ kq0_ o_ bo_ V73 hG_115 hnb (g.fcts [3, 4] rfl)) (cwV 4 hts (gV_ t_2480 t_2482 t_117 t_198 t_2483) rfl rfl rfl (by decide +kernel) ⟨(show 0 + 1 ≤ N + 1 + 24 by omega), (show 8 + (6 + 11) + 0 ≤ 60 * (N + 1) + 700 by omega)⟩) (pre3V g hK ma0_ ka0_ (by decide) (q := (RX14, TX14, 67)) rfl) rfl rfl hl.1 rfl (lv_room (Nat.le_of_ble_eq_true rfl)) dX14_readCall_272 (cl_f hck73)) g hK (by decide) (by decide) (fx' := [(14, 10, a0_, .int x_99), (14, 25, a0_, .int x_101), (12, 19, q0_, .ref g46_12_19_q0_), (14, 2, a0_, .ref q0_), (14, 16, a0_, .int o_)]) rfl (fun r_121 fr_121 H locs hp hMr_121 g => ?_)
                              obtain ⟨hx_122, hx_123, h_124, x_125, h_126, hF_127⟩ := hp
                              have hG_128 := isY.frame hMr_121 go_.2.2.2.1 mqn kqn (by decide) (by decide) hG_117
                              have hG_129 := cEq.frame hMr_121 go_.2.2.2.1 ma0_ ka0_ (by decide) (by decide) hG_118
                              have hF_130 := FR.call (mds := []) (mas := []) hG_116 go_ mq0_ kq0_ rfl hx_123
                              obtain ⟨V_131, hV_132, hN_133⟩ := hx_122
                              have g := g.more hF_127
                              refine lv_istore (lv' := [(14, .int r_121), (13, .int v73_13), (12, .int v73_12), (11, .int v73_11), (10, .ref qn), (9, .int x_1), (0, .ref a0_), (1, .int x1_), (2, .int x2_), (3, .long x3_), (5, .long x4_), (7, .int x5_), (8, .int x6_)]) hx hb dX14_readCall_275 hl (by decide) rfl (fun ls hl => ?_)
                              refine lv_aload_n hx hb dX14_readCall_277 rfl (lv_at hl 6 rfl) ?_
                              refine g_getk (C := RX14) (T := TX14) (N := 67) hx hb hts (mc_ inX14) hown hK g rfl 2 (by decide) rfl (hts _ (List.mem_cons_of_mem _ t_2148)) (fun _ h9 => h9) 4 rfl dX14_readCall_278 ?_
                              refine g_getr (K := 204) (C := RX12) (T := TX12) (N := 60) hx hb hts (mc_ inX12) hown hK g mq0_ kq0_ (by decide) rfl 50 (by decide) rfl (hts _ (List.mem_cons_of_mem _ t_2004)) (fun _ h9 => h9) rfl dX14_readCall_281 (fun a_134 ma_134 ka_134 g => ?_)
                              refine lv_iload hx hb dX14_readCall_284 (lv_at hl 0 rfl) ?_
                              refine lv_iload_n hx hb dX14_readCall_286 rfl (lv_at hl 8 rfl) ?_
                              have gp_135 := g
                              have go_ := g
                              refine g_iastX hx hb hK g ma_134 ka_134 (by decide) rfl (in_bd h_124 (by decide)) (bd_sub bx2_ (by decide)) (by decide) dX14_readCall_287 (fun f H locs hM_136 u_139 g => ?_)
                              have hG_137 := isY.frame hM_136 go_.2.2.2.1 mqn kqn (by decide) (by decide) hG_128
                              have hG_138 := cEq.frame hM_136 go_.2.2.2.1 ma0_ ka0_ (by decide) (by decide) hG_129
                              have hV_140 := isV.ui hV_132 gp_135 0 rfl mq0_ kq0_ rfl u_139
                              have hF_141 := FR.arr hF_130 gp_135 0 rfl mq0_ kq0_ rfl rfl u_139.1
                              have hN_142 := NN.s50 (v := x2_) hN_133 h_124.1
                              refine lv_aload_n hx hb dX14_readCall_288 rfl (lv_at hl 6 rfl) ?_
                              refine g_getk (C := RX14) (T := TX14) (N := 67) hx hb hts (mc_ inX14) hown hK g rfl 2 (by decide) rfl (hts _ (List.mem_cons_of_mem _ t_2148)) (fun _ h9 => h9) 5 rfl dX14_readCall_289 ?_
                              refine g_getr (K := 206) (C := RX12) (T := TX12) (N := 60) hx hb hts (mc_ inX12) hown hK g mq0_ kq0_ (by decide) rfl 52 (by decide) rfl (hts _ (List.mem_cons_of_mem _ t_2008)) (fun _ h9 => h9) rfl dX14_readCall_292 (fun a_143 ma_143 ka_143 g => ?_)
                              refine lv_iload hx hb dX14_readCall_295 (lv_at hl 0 rfl) ?_
                              refine lv_iload hx hb dX14_readCall_297 (lv_at hl 3 rfl) ?_
                              have gp_144 := g
                              have go_ := g
                              refine g_iastX hx hb hK g ma_143 ka_143 (by decide) rfl (in_bd h_124 (by decide)) bv73_11 (by decide) dX14_readCall_299 (fun f H locs hM_145 u_148 g => ?_)
                              have hG_146 := isY.frame hM_145 go_.2.2.2.1 mqn kqn (by decide) (by decide) hG_137
                              have hG_147 := cEq.frame hM_145 go_.2.2.2.1 ma0_ ka0_ (by decide) (by decide) hG_138
                              have hV_149 := isV.ui hV_140 gp_144 0 rfl mq0_ kq0_ rfl u_148
                              have hF_150 := FR.arr hF_141 gp_144 0 rfl mq0_ kq0_ rfl rfl u_148.1
                              have hN_151 := NN.s52 (v := v73_11) hN_142 h_124.1
                              refine lv_aload_n hx hb dX14_readCall_300 rfl (lv_at hl 6 rfl) ?_
                              refine g_getk (C := RX14) (T := TX14) (N := 67) hx hb hts (mc_ inX14) hown hK g rfl 2 (by decide) rfl (hts _ (List.mem_cons_of_mem _ t_2148)) (fun _ h9 => h9) 6 rfl dX14_readCall_301 ?_
                              refine g_getr (K := 209) (C := RX12) (T := TX12) (N := 60) hx hb hts (mc_ inX12) hown hK g mq0_ kq0_ (by decide) rfl 55 (by decide) rfl (hts _ (List.mem_cons_of_mem _ t_2014)) (fun _ h9 => h9) rfl dX14_readCall_304 (fun a_152 ma_152 ka_152 g => ?_)
                              refine lv_iload hx hb dX14_readCall_307 (lv_at hl 0 rfl) ?_
                              refine lv_lload_n hx hb dX14_readCall_309 rfl (lv_at hl 9 rfl) ?_
                              have gp_153 := g
                              have go_ := g
                              refine g_lastX hx hb hK g ma_152 ka_152 (by decide) rfl (in_bd h_124 (by decide)) (by decide) dX14_readCall_310 (fun f H locs hM_154 u_157 g => ?_)
                              have hG_155 := isY.frame hM_154 go_.2.2.2.1 mqn kqn (by decide) (by decide) hG_146
                              have hG_156 := cEq.frame hM_154 go_.2.2.2.1 ma0_ ka0_ (by decide) (by decide) hG_147
                              have hV_158 := isV.ul hV_149 gp_153 0 rfl mq0_ kq0_ rfl u_157
                              have hF_159 := FR.arr hF_150 gp_153 0 rfl mq0_ kq0_ rfl rfl u_157.1
                              have hN_160 := NN.s55 (w := x3_) hN_151 h_124.1
                              refine lv_aload_n hx hb dX14_readCall_311 rfl (lv_at hl 6 rfl) ?_
                              refine g_getk (C := RX14) (T := TX14) (N := 67) hx hb hts (mc_ inX14) hown hK g rfl 2 (by decide) rfl (hts _ (List.mem_cons_of_mem _ t_2148)) (fun _ h9 => h9) 7 rfl dX14_readCall_312 ?_
                              refine g_getr (K := 210) (C := RX12) (T := TX12) (N := 60) hx hb hts (mc_ inX12) hown hK g mq0_ kq0_ (by decide) rfl 56 (by decide) rfl (hts _ (List.mem_cons_of_mem _ t_2016)) (fun _ h9 => h9) rfl dX14_readCall_315 (fun a_161 ma_161 ka_161 g => ?_)
                              refine lv_iload hx hb dX14_readCall_318 (lv_at hl 0 rfl) ?_
                              refine lv_lload hx hb dX14_readCall_320 (lv_at hl 10 rfl) ?_
                              have gp_162 := g
                              have go_ := g
                              refine g_lastX hx hb hK g ma_161 ka_161 (by decide) rfl (in_bd h_124 (by decide)) (by decide) dX14_readCall_322 (fun f H locs hM_163 u_166 g => ?_)
                              have hG_164 := isY.frame hM_163 go_.2.2.2.1 mqn kqn (by decide) (by decide) hG_155
                              have hG_165 := cEq.frame hM_163 go_.2.2.2.1 ma0_ ka0_ (by decide) (by decide) hG_156
                              have hV_167 := isV.ul hV_158 gp_162 0 rfl mq0_ kq0_ rfl u_166
                              have hF_168 := FR.arr hF_159 gp_162 0 rfl mq0_ kq0_ rfl rfl u_166.1
                              have hN_169 := NN.s56 (w := x4_) hN_160 h_124.1
                              refine lv_iconst (v := 0) hx hb dX14_readCall_323 (by decide) ?_
                              refine lv_istore (lv' := [(15, .int 0), (14, .int r_121), (13, .int v73_13), (12, .int v73_12), (11, .int v73_11), (10, .ref qn), (9, .int x_1), (0, .ref a0_), (1, .int x1_), (2, .int x2_), (3, .long x3_), (5, .long x4_), (7, .int x5_), (8, .int x6_)]) hx hb dX14_readCall_324 hl (by decide) rfl (fun ls hl => ?_)
                              have loop_170 : ∀ (n : Nat) (v326_15 : Int32), bd 0 3 v326_15 → (3 - v326_15.toInt < (n : Int)) → ∀ (f : Nat → va_E) (H : Heap) (locs : List Loc) (ls : Array Slot), G3 (dC, dI) L9 kd9 tys s f9 [(12, 57), (12, 58), (14, 6), (14, 7), (14, 8), (14, 9), (14, 10), (14, 11), (14, 12), (14, 13), (14, 14), (14, 15), (14, 25)] [180, 201, 202, 203, 204, 205, 206, 207, 208, 209, 210] f H locs [(12, 56, q0_, .ref a_161), (12, 55, q0_, .ref a_152), (12, 52, q0_, .ref a_143), (12, 50, q0_, .ref a_134), (12, 57, q0_, .int x_125), (14, 10, a0_, .int x_99), (14, 25, a0_, .int x_101), (12, 19, q0_, .ref g46_12_19_q0_), (14, 2, a0_, .ref q0_), (14, 16, a0_, .int o_)] → isY f qn A73 → cEq f a0_ E_107 → (∃ V1 : PV, isV f q0_ V1 ∧ FR L9 kd9 f9 f q0_ ∧ NN V73 V1 r_121 x1_ (-1) (-1) x2_ y_119 v73_11 o_ x3_ x4_ ∧ (∀ j : Nat, (j : Int) < v326_15.toInt → V1.i 53 (3 * r_121.toNatClampNeg + j) = A73 j)) → lv_has ls 16 [(15, .int v326_15), (14, .int r_121), (13, .int v73_13), (12, .int v73_12), (11, .int v73_11), (10, .ref qn), (9, .int x_1), (0, .ref a0_), (1, .int x1_), (2, .int x2_), (3, .long x3_), (5, .long x4_), (7, .int x5_), (8, .int x6_)] → W p l e ({ frames := (N + 1) + 24, cells := K_, slots := 3 * K_, locals := 60 * (N + 1) + 700 } : Room) s m [.ref a0_, .int x1_, .int x2_, .long x3_, .long x4_, .int x5_, .int x6_].toArray below meth c H locs cl73 (3 * cl73) Q (F0 m 326 ls []) := by
                                intro n326
                                induction n326 with
                                | zero =>
                                  intro v326_15 bv326_15 hm326 f H locs ls g hG326_Y_qn hG326_C_a0_ ⟨V326, hV326, hF326, hN326, hA326⟩ hl
                                  exact absurd hm326 (by have h9_v326_15 := bv326_15; unfold bd at h9_v326_15; omega)
                                | succ n326 ih326 =>
                                  intro v326_15 bv326_15 hm326 f H locs ls g hG326_Y_qn hG326_C_a0_ ⟨V326, hV326, hF326, hN326, hA326⟩ hl
                                  refine lv_iload hx hb dX14_readCall_326 (lv_at hl 0 rfl) ?_
                                  refine lv_iload hx hb dX14_readCall_328 (lv_at hl 4 rfl) ?_
                                  refine lv_icmp_ge (tgt := 359) hx hb dX14_readCall_330 (by decide) (fun c_171 => ?_) (fun c_171 => ?_)
                                  · have fc_171 := le_f c_171
                                    refine lv_iload hx hb dX14_readCall_359 (lv_at hl 1 rfl) ?_
                                    have hf_172 : fin V73 V326 r_121 hm_ o_ := nd_call (Vb := V_) (A := A73) hN326 h_124.1 hw73 ⟨(by have h9_0 := bj73_13; unfold bd at h9_0; have h9_1 := bo_; unfold bd at h9_1; have h9_2 := b_17; unfold bd at h9_2; have h9_3 := h_124; unfold bd at h9_3; have h9_4 := b_16; unfold bd at h9_4; have h9_5 := bv326_15; unfold bd at h9_5; have h9_6 := bv73_11; unfold bd at h9_6; have h9_7 := bv73_12; unfold bd at h9_7; have h9_8 := b_27; unfold bd at h9_8; have h9_9 := b_73; unfold bd at h9_9; have h9_10 := bx2_; unfold bd at h9_10; have h9_11 := b_109; unfold bd at h9_11; have h9_12 := bx_1; unfold bd at h9_12; have h9_13 := h_11; unfold bd at h9_13; have h9_14 := h_102; unfold bd at h9_14; have h9_15 := h_126; unfold bd at h9_15; have h9_16 := h_32; unfold bd at h9_16; have h9_17 := bx_48; unfold bd at h9_17; have h9_18 := h_66; unfold bd at h9_18; have h9_19 := bx_74; unfold bd at h9_19; have h9_20 := h_9; unfold bd at h9_20; have h9_21 := h_100; unfold bd at h9_21; have h9_22 := b_120; unfold bd at h9_22; have h8_0 := kb_0; unfold bd at h8_0; have h8_1 := kb_1; unfold bd at h8_1; omega), (by have h9_0 := bj73_13; unfold bd at h9_0; have h9_1 := bo_; unfold bd at h9_1; have h9_2 := b_17; unfold bd at h9_2; have h9_3 := h_124; unfold bd at h9_3; have h9_4 := b_16; unfold bd at h9_4; have h9_5 := bv326_15; unfold bd at h9_5; have h9_6 := bv73_11; unfold bd at h9_6; have h9_7 := bv73_12; unfold bd at h9_7; have h9_8 := b_27; unfold bd at h9_8; have h9_9 := b_73; unfold bd at h9_9; have h9_10 := bx2_; unfold bd at h9_10; have h9_11 := b_109; unfold bd at h9_11; have h9_12 := bx_1; unfold bd at h9_12; have h9_13 := h_11; unfold bd at h9_13; have h9_14 := h_102; unfold bd at h9_14; have h9_15 := h_126; unfold bd at h9_15; have h9_16 := h_32; unfold bd at h9_16; have h9_17 := bx_48; unfold bd at h9_17; have h9_18 := h_66; unfold bd at h9_18; have h9_19 := bx_74; unfold bd at h9_19; have h9_20 := h_9; unfold bd at h9_20; have h9_21 := h_100; unfold bd at h9_21; have h9_22 := b_120; unfold bd at h9_22; have h8_0 := kb_0; unfold bd at h8_0; have h8_1 := kb_1; unfold bd at h8_1; omega)⟩ (by have h9_0 := bj73_13; unfold bd at h9_0; have h9_1 := bo_; unfold bd at h9_1; have h9_2 := b_17; unfold bd at h9_2; have h9_3 := h_124; unfold bd at h9_3; have h9_4 := b_16; unfold bd at h9_4; have h9_5 := bv326_15; unfold bd at h9_5; have h9_6 := bv73_11; unfold bd at h9_6; have h9_7 := bv73_12; unfold bd at h9_7; have h9_8 := b_27; unfold bd at h9_8; have h9_9 := b_73; unfold bd at h9_9; have h9_10 := bx2_; unfold bd at h9_10; have h9_11 := b_109; unfold bd at h9_11; have h9_12 := bx_1; unfold bd at h9_12; have h9_13 := h_11; unfold bd at h9_13; have h9_14 := h_102; unfold bd at h9_14; have h9_15 := h_126; unfold bd at h9_15; have h9_16 := h_32; unfold bd at h9_16; have h9_17 := bx_48; unfold bd at h9_17; have h9_18 := h_66; unfold bd at h9_18; have h9_19 := bx_74; unfold bd at h9_19; have h9_20 := h_9; unfold bd at h9_20; have h9_21 := h_100; unfold bd at h9_21; have h9_22 := b_120; unfold bd at h9_22; have h8_0 := kb_0; unfold bd at h8_0; have h8_1 := kb_1; unfold bd at h8_1; omega) (by rw [hX73.2.2.1 0 (by decide)]; exact ho) hop (by have h9_0 := bj73_13; unfold bd at h9_0; have h9_1 := bo_; unfold bd at h9_1; have h9_2 := b_17; unfold bd at h9_2; have h9_3 := h_124; unfold bd at h9_3; have h9_4 := b_16; unfold bd at h9_4; have h9_5 := bv326_15; unfold bd at h9_5; have h9_6 := bv73_11; unfold bd at h9_6; have h9_7 := bv73_12; unfold bd at h9_7; have h9_8 := b_27; unfold bd at h9_8; have h9_9 := b_73; unfold bd at h9_9; have h9_10 := bx2_; unfold bd at h9_10; have h9_11 := b_109; unfold bd at h9_11; have h9_12 := bx_1; unfold bd at h9_12; have h9_13 := h_11; unfold bd at h9_13; have h9_14 := h_102; unfold bd at h9_14; have h9_15 := h_126; unfold bd at h9_15; have h9_16 := h_32; unfold bd at h9_16; have h9_17 := bx_48; unfold bd at h9_17; have h9_18 := h_66; unfold bd at h9_18; have h9_19 := bx_74; unfold bd at h9_19; have h9_20 := h_9; unfold bd at h9_20; have h9_21 := h_100; unfold bd at h9_21; have h9_22 := b_120; unfold bd at h9_22; have h8_0 := kb_0; unfold bd at h8_0; have h8_1 := kb_1; unfold bd at h8_1; omega) (fun j hj => hA326 j (by omega)) hA73 (by have h9_0 := bj73_13; unfold bd at h9_0; have h9_1 := bo_; unfold bd at h9_1; have h9_2 := b_17; unfold bd at h9_2; have h9_3 := h_124; unfold bd at h9_3; have h9_4 := b_16; unfold bd at h9_4; have h9_5 := bv326_15; unfold bd at h9_5; have h9_6 := bv73_11; unfold bd at h9_6; have h9_7 := bv73_12; unfold bd at h9_7; have h9_8 := b_27; unfold bd at h9_8; have h9_9 := b_73; unfold bd at h9_9; have h9_10 := bx2_; unfold bd at h9_10; have h9_11 := b_109; unfold bd at h9_11; have h9_12 := bx_1; unfold bd at h9_12; have h9_13 := h_11; unfold bd at h9_13; have h9_14 := h_102; unfold bd at h9_14; have h9_15 := h_126; unfold bd at h9_15; have h9_16 := h_32; unfold bd at h9_16; have h9_17 := bx_48; unfold bd at h9_17; have h9_18 := h_66; unfold bd at h9_18; have h9_19 := bx_74; unfold bd at h9_19; have h9_20 := h_9; unfold bd at h9_20; have h9_21 := h_100; unfold bd at h9_21; have h9_22 := b_120; unfold bd at h9_22; have h8_0 := kb_0; unfold bd at h8_0; have h8_1 := kb_1; unfold bd at h8_1; omega) (fun q9 => hX73.fnd_.mpr (hf3 q9)) (fun q9 => by rw [hX73.1 3 (by decide) (by decide)]; exact ⟨(hf9 q9).1, hX73.fnd_.mpr (hf9 q9).2⟩)
                                    have ho_176 : (V326.i 47 r_121.toNatClampNeg).toInt = x1_.toInt := (congrArg Int32.toInt (hN326).2.2.2.1)
                                    obtain ⟨V_173, hV_174, hf_175, ho_176⟩ : ∃ V1 : PV, isV f q0_ V1 ∧ fin V73 V1 r_121 hm_ o_ ∧ (V1.i 47 r_121.toNatClampNeg).toInt = x1_.toInt := ⟨_, hV326, hf_172, ho_176⟩
                                    have hf_175n := hf_175.2.2.2
                                    have hx_177 := exN.tr hX73 hf_175.1
                                    obtain rfl : op_ = x_101 := Int32.toInt_inj.mp (by have h9_0 := bj73_13; unfold bd at h9_0; have h9_1 := bo_; unfold bd at h9_1; have h9_2 := b_17; unfold bd at h9_2; have h9_3 := h_124; unfold bd at h9_3; have h9_4 := b_16; unfold bd at h9_4; have h9_5 := bv326_15; unfold bd at h9_5; have h9_6 := bv73_11; unfold bd at h9_6; have h9_7 := bv73_12; unfold bd at h9_7; have h9_8 := b_27; unfold bd at h9_8; have h9_9 := b_73; unfold bd at h9_9; have h9_10 := bx2_; unfold bd at h9_10; have h9_11 := b_109; unfold bd at h9_11; have h9_12 := bx_1; unfold bd at h9_12; have h9_13 := h_11; unfold bd at h9_13; have h9_14 := h_102; unfold bd at h9_14; have h9_15 := h_126; unfold bd at h9_15; have h9_16 := h_32; unfold bd at h9_16; have h9_17 := bx_48; unfold bd at h9_17; have h9_18 := h_66; unfold bd at h9_18; have h9_19 := bx_74; unfold bd at h9_19; have h9_20 := h_9; unfold bd at h9_20; have h9_21 := h_100; unfold bd at h9_21; have h9_22 := b_120; unfold bd at h9_22; have h8_0 := kb_0; unfold bd at h8_0; have h8_1 := kb_1; unfold bd at h8_1; omega)
                                    have g := NW.drop hNW (g.sub (fx' := [(14, 25, a0_, .int op_), (14, 10, a0_, .int x_99)]) [6, 5] rfl) (fun x h9 => by rcases List.mem_cons.mp h9 with h9 | h9 <;> first | (rw [h9]; exact mo_a) | (rw [List.mem_singleton.mp h9]; exact mo_a))
                                    have hF_178 := NW.FR_b hNW mo_q hF326
                                    have h9c : cF f a0_ = _ := hG326_C_a0_
                                    subst hQ
                                    exact iretX (v := r_121) hx hb hr (fun t ht hW => g_retX g hK ⟨_, rfl, ⟨⟨_, hV_174, hF_178, hx_177, hf_175.2.1, hf_175.2.2.1, ho_176, (by omega), (by omega), (by omega)⟩, x_99, h_100, (g.fcts [0, 1] rfl)⟩⟩ ht hW) g.2.2.1.2.2 dX14_readCall_361 hlocks
                                  · have fc_171 := nle_f c_171
                                    have b_179 : bd 0 2 v326_15 := ltL fc_171 bv326_15 bv73_11 (by decide)
                                    have b_180 : bd 1 3 v73_11 := ltR fc_171 bv326_15 bv73_11 (by decide)
                                    refine lv_aload_n hx hb dX14_readCall_333 rfl (lv_at hl 7 rfl) ?_
                                    refine g_getk (C := RX14) (T := TX14) (N := 67) hx hb hts (mc_ inX14) hown hK g rfl 2 (by decide) rfl (hts _ (List.mem_cons_of_mem _ t_2148)) (fun _ h9 => h9) 8 rfl dX14_readCall_334 ?_
                                    refine g_getr (K := 207) (C := RX12) (T := TX12) (N := 60) hx hb hts (mc_ inX12) hown hK g mq0_ kq0_ (by decide) rfl 53 (by decide) rfl (hts _ (List.mem_cons_of_mem _ t_2010)) (fun _ h9 => h9) rfl dX14_readCall_337 (fun a_181 ma_181 ka_181 g => ?_)
                                    refine lv_iconst (v := 3) hx hb dX14_readCall_340 (by decide) ?_
                                    refine lv_iload hx hb dX14_readCall_341 (lv_at hl 1 rfl) ?_
                                    refine lv_imul hx hb dX14_readCall_343 ?_
                                    refine lv_topi (fun y_182 ey_182 => ?_)
                                    have ty_182 := cmul_bd ey_182 (c := 3) (by decide) h_124 (by decide)
                                    have b_183 : bd 0 7497 y_182 := mulc_rg ty_182 h_124 (by decide)
                                    refine lv_iload hx hb dX14_readCall_344 (lv_at hl 0 rfl) ?_
                                    refine lv_iadd hx hb dX14_readCall_346 ?_
                                    refine lv_topi (fun y_184 ey_184 => ?_)
                                    have ty_184 := add_bd ey_184 b_183 b_179 (by decide)
                                    have b_185 : bd 0 7499 y_184 := add_rg ty_184 b_183 b_179 (by decide)
                                    refine lv_aload hx hb dX14_readCall_347 (lv_at hl 5 rfl) ?_
                                    refine lv_iload hx hb dX14_readCall_349 (lv_at hl 0 rfl) ?_
                                    refine g_iald hx hb hK g mqn kqn (by decide) rfl (in_bd b_179 (by decide)) dX14_readCall_351 (fun x_186 bx_186 cx_186 => ?_)
                                    have vAx_186 : x_186 = A73 v326_15.toNatClampNeg := cx_186.trans (hG326_Y_qn.at_ _)
                                    have gp_187 := g
                                    have go_ := g
                                    refine g_iastX hx hb hK g ma_181 ka_181 (by decide) rfl (in_bd b_185 (by decide)) (bdT x_186) (by decide) dX14_readCall_352 (fun f H locs hM_188 u_191 g => ?_)
                                    have hG_189 := isY.frame hM_188 go_.2.2.2.1 mqn kqn (by decide) (by decide) hG326_Y_qn
                                    have hG_190 := cEq.frame hM_188 go_.2.2.2.1 ma0_ ka0_ (by decide) (by decide) hG326_C_a0_
                                    have hV_192 := isV.ui hV326 gp_187 0 rfl mq0_ kq0_ rfl u_191
                                    have hF_193 := FR.arr hF326 gp_187 0 rfl mq0_ kq0_ rfl rfl u_191.1
                                    have hN_194 := NN.s53 (v := x_186) (k := y_184.toNatClampNeg) hN326 (by rw [tnZ (by have h9_0 := bj73_13; unfold bd at h9_0; have h9_1 := bo_; unfold bd at h9_1; have h9_2 := b_17; unfold bd at h9_2; have h9_3 := h_124; unfold bd at h9_3; have h9_4 := b_16; unfold bd at h9_4; have h9_5 := b_179; unfold bd at h9_5; have h9_6 := b_180; unfold bd at h9_6; have h9_7 := bv73_12; unfold bd at h9_7; have h9_8 := b_27; unfold bd at h9_8; have h9_9 := b_73; unfold bd at h9_9; have h9_10 := bx2_; unfold bd at h9_10; have h9_11 := b_109; unfold bd at h9_11; have h9_12 := bx_1; unfold bd at h9_12; have h9_13 := h_11; unfold bd at h9_13; have h9_14 := h_102; unfold bd at h9_14; have h9_15 := h_126; unfold bd at h9_15; have h9_16 := h_32; unfold bd at h9_16; have h9_17 := bx_48; unfold bd at h9_17; have h9_18 := h_66; unfold bd at h9_18; have h9_19 := bx_74; unfold bd at h9_19; have h9_20 := h_9; unfold bd at h9_20; have h9_21 := h_100; unfold bd at h9_21; have h9_22 := b_120; unfold bd at h9_22; have h9_23 := b_183; unfold bd at h9_23; have h9_24 := b_185; unfold bd at h9_24; have h8_0 := kb_0; unfold bd at h8_0; have h8_1 := kb_1; unfold bd at h8_1; omega)]; have h9_0 := bj73_13; unfold bd at h9_0; have h9_1 := bo_; unfold bd at h9_1; have h9_2 := b_17; unfold bd at h9_2; have h9_3 := h_124; unfold bd at h9_3; have h9_4 := b_16; unfold bd at h9_4; have h9_5 := b_179; unfold bd at h9_5; have h9_6 := b_180; unfold bd at h9_6; have h9_7 := bv73_12; unfold bd at h9_7; have h9_8 := b_27; unfold bd at h9_8; have h9_9 := b_73; unfold bd at h9_9; have h9_10 := bx2_; unfold bd at h9_10; have h9_11 := b_109; unfold bd at h9_11; have h9_12 := bx_1; unfold bd at h9_12; have h9_13 := h_11; unfold bd at h9_13; have h9_14 := h_102; unfold bd at h9_14; have h9_15 := h_126; unfold bd at h9_15; have h9_16 := h_32; unfold bd at h9_16; have h9_17 := bx_48; unfold bd at h9_17; have h9_18 := h_66; unfold bd at h9_18; have h9_19 := bx_74; unfold bd at h9_19; have h9_20 := h_9; unfold bd at h9_20; have h9_21 := h_100; unfold bd at h9_21; have h9_22 := b_120; unfold bd at h9_22; have h9_23 := b_183; unfold bd at h9_23; have h9_24 := b_185; unfold bd at h9_24; have h8_0 := kb_0; unfold bd at h8_0; have h8_1 := kb_1; unfold bd at h8_1; omega)
                                    obtain ⟨y_195, ey_195⟩ : ∃ z : Int32, z = v326_15 + 1 := ⟨_, rfl⟩
                                    refine lv_iinc (v := y_195) (lv' := [(15, .int y_195), (14, .int r_121), (13, .int v73_13), (12, .int v73_12), (11, .int v73_11), (10, .ref qn), (9, .int x_1), (0, .ref a0_), (1, .int x1_), (2, .int x2_), (3, .long x3_), (5, .long x4_), (7, .int x5_), (8, .int x6_)]) hx hb dX14_readCall_353 hl (k := 0) rfl (by rw [ey_195]; rfl) (by decide) rfl (fun ls hl => ?_)
                                    have ty_195 := add_bd ey_195 b_179 kb_1 (by decide)
                                    have b_196 : bd 1 3 y_195 := add_rg ty_195 b_179 kb_1 (by decide)
                                    refine lv_goto (tgt := 326) hx hb dX14_readCall_356 (by decide) ?_
                                    have hl9 := lv_sub hl [0, 1, 2, 3, 4, 5, 6, 7, 8, 9, 10, 11, 12, 13] (by rfl : lv_pick [(15, .int y_195), (14, .int r_121), (13, .int v73_13), (12, .int v73_12), (11, .int v73_11), (10, .ref qn), (9, .int x_1), (0, .ref a0_), (1, .int x1_), (2, .int x2_), (3, .long x3_), (5, .long x4_), (7, .int x5_), (8, .int x6_)] [0, 1, 2, 3, 4, 5, 6, 7, 8, 9, 10, 11, 12, 13] = [(15, .int y_195), (14, .int r_121), (13, .int v73_13), (12, .int v73_12), (11, .int v73_11), (10, .ref qn), (9, .int x_1), (0, .ref a0_), (1, .int x1_), (2, .int x2_), (3, .long x3_), (5, .long x4_), (7, .int x5_), (8, .int x6_)])
                                    have g9 := g.sub (fx' := [(12, 56, q0_, .ref a_161), (12, 55, q0_, .ref a_152), (12, 52, q0_, .ref a_143), (12, 50, q0_, .ref a_134), (12, 57, q0_, .int x_125), (14, 10, a0_, .int x_99), (14, 25, a0_, .int x_101), (12, 19, q0_, .ref g46_12_19_q0_), (14, 2, a0_, .ref q0_), (14, 16, a0_, .int o_)]) [1, 2, 3, 4, 5, 6, 7, 8, 9, 10] rfl
                                    exact ih326  y_195 (bd_sub b_196 (by decide)) (by have h9_0 := b_196; unfold bd at h9_0; have h9_1 := bv326_15; unfold bd at h9_1; have h9_2 := kb_0; unfold bd at h9_2; have h9_3 := kb_1; unfold bd at h9_3; omega) _ _ _ _ g9 hG_189 hG_190 ⟨_, hV_192, hF_193, hN_194, (arr_s hA326 b_179.1 (by have h9_0 := bj73_13; unfold bd at h9_0; have h9_1 := bo_; unfold bd at h9_1; have h9_2 := b_17; unfold bd at h9_2; have h9_3 := h_124; unfold bd at h9_3; have h9_4 := b_16; unfold bd at h9_4; have h9_5 := b_179; unfold bd at h9_5; have h9_6 := b_180; unfold bd at h9_6; have h9_7 := bv73_12; unfold bd at h9_7; have h9_8 := b_27; unfold bd at h9_8; have h9_9 := b_73; unfold bd at h9_9; have h9_10 := bx2_; unfold bd at h9_10; have h9_11 := b_109; unfold bd at h9_11; have h9_12 := bx_1; unfold bd at h9_12; have h9_13 := h_11; unfold bd at h9_13; have h9_14 := h_102; unfold bd at h9_14; have h9_15 := h_126; unfold bd at h9_15; have h9_16 := h_32; unfold bd at h9_16; have h9_17 := bx_48; unfold bd at h9_17; have h9_18 := h_66; unfold bd at h9_18; have h9_19 := bx_74; unfold bd at h9_19; have h9_20 := h_9; unfold bd at h9_20; have h9_21 := h_100; unfold bd at h9_21; have h9_22 := b_120; unfold bd at h9_22; have h9_23 := b_183; unfold bd at h9_23; have h9_24 := b_185; unfold bd at h9_24; have h9_25 := b_196; unfold bd at h9_25; have h8_0 := kb_0; unfold bd at h8_0; have h8_1 := kb_1; unfold bd at h8_1; omega) (ix3 h_124.1 b_179.1 (by have h9_0 := bj73_13; unfold bd at h9_0; have h9_1 := bo_; unfold bd at h9_1; have h9_2 := b_17; unfold bd at h9_2; have h9_3 := h_124; unfold bd at h9_3; have h9_4 := b_16; unfold bd at h9_4; have h9_5 := b_179; unfold bd at h9_5; have h9_6 := b_180; unfold bd at h9_6; have h9_7 := bv73_12; unfold bd at h9_7; have h9_8 := b_27; unfold bd at h9_8; have h9_9 := b_73; unfold bd at h9_9; have h9_10 := bx2_; unfold bd at h9_10; have h9_11 := b_109; unfold bd at h9_11; have h9_12 := bx_1; unfold bd at h9_12; have h9_13 := h_11; unfold bd at h9_13; have h9_14 := h_102; unfold bd at h9_14; have h9_15 := h_126; unfold bd at h9_15; have h9_16 := h_32; unfold bd at h9_16; have h9_17 := bx_48; unfold bd at h9_17; have h9_18 := h_66; unfold bd at h9_18; have h9_19 := bx_74; unfold bd at h9_19; have h9_20 := h_9; unfold bd at h9_20; have h9_21 := h_100; unfold bd at h9_21; have h9_22 := b_120; unfold bd at h9_22; have h9_23 := b_183; unfold bd at h9_23; have h9_24 := b_185; unfold bd at h9_24; have h9_25 := b_196; unfold bd at h9_25; have h8_0 := kb_0; unfold bd at h8_0; have h8_1 := kb_1; unfold bd at h8_1; omega)) vAx_186)⟩ hl9
                              have hl9 := lv_sub hl [0, 1, 2, 3, 4, 5, 6, 7, 8, 9, 10, 11, 12, 13] (by rfl : lv_pick [(15, .int 0), (14, .int r_121), (13, .int v73_13), (12, .int v73_12), (11, .int v73_11), (10, .ref qn), (9, .int x_1), (0, .ref a0_), (1, .int x1_), (2, .int x2_), (3, .long x3_), (5, .long x4_), (7, .int x5_), (8, .int x6_)] [0, 1, 2, 3, 4, 5, 6, 7, 8, 9, 10, 11, 12, 13] = [(15, .int 0), (14, .int r_121), (13, .int v73_13), (12, .int v73_12), (11, .int v73_11), (10, .ref qn), (9, .int x_1), (0, .ref a0_), (1, .int x1_), (2, .int x2_), (3, .long x3_), (5, .long x4_), (7, .int x5_), (8, .int x6_)])
                              have g9 := g.sub (fx' := [(12, 56, q0_, .ref a_161), (12, 55, q0_, .ref a_152), (12, 52, q0_, .ref a_143), (12, 50, q0_, .ref a_134), (12, 57, q0_, .int x_125), (14, 10, a0_, .int x_99), (14, 25, a0_, .int x_101), (12, 19, q0_, .ref g46_12_19_q0_), (14, 2, a0_, .ref q0_), (14, 16, a0_, .int o_)]) [0, 1, 2, 3, 4, 5, 6, 7, 8, 9] rfl
                              exact loop_170 (9) 0 (bd_sub kb_0 (by decide)) (by have h9_0 := kb_0; unfold bd at h9_0; have h9_1 := kb_1; unfold bd at h9_1; omega) _ _ _ _ g9 hG_164 hG_165 ⟨_, hV_167, hF_168, hN_169, (fun j h9 => absurd h9 (by have h8 : (0 : Int32).toInt = 0 := (by decide); omega))⟩ hl9
                          · have fc_108 := neq_f c_108
                            have b_197 : bd 1 1 x6_ := neX fc_108 bx6_ kb_0 (by decide)
                            refine lv_iload hx hb dX14_readCall_245 (lv_at hl 1 rfl) ?_
                            refine lv_bipush (v := 12) hx hb dX14_readCall_247 (by decide) ?_
                            have kb_12 : bd 12 12 (12 : Int32) := ⟨by decide, by decide⟩
                            refine lv_icmp_ge (tgt := 256) hx hb dX14_readCall_249 (by decide) (fun c_198 => ?_) (fun c_198 => ?_)
                            · have fc_198 := le_f c_198
                              have b_199 : bd 12 12 v73_12 := leR fc_198 kb_12 bv73_12 (by decide)
                              refine lv_iconst (v := 0) hx hb dX14_readCall_256 (by decide) ?_
                              refine lv_bipush (v := 7) hx hb dX14_readCall_257 (by decide) ?_
                              refine lv_iload hx hb dX14_readCall_259 (lv_at hl 10 rfl) ?_
                              have go_ := g
                              refine g_callEv (As := [.int 0, .int 7, .int x5_]) (rest := []) ⟨hx, hb, hml, hown, hts⟩ (r_X14_need_2 l dC dI L9 kd9 tys fr_93 H.size g.2.2.2.1 a0_ ma0_ ka0_ 0 kb_0 7 x5_) (cwV 3 hts (gV_ t_2403 t_2405 t_100 t_198 t_2406) rfl rfl rfl (by decide +kernel) ⟨(show 1 + 1 ≤ N + 1 + 24 by omega), (show 8 + (4 + 11) + 22 ≤ 60 * (N + 1) + 700 by omega)⟩) (pre3V g hK ma0_ ka0_ (by decide) (q := (RX14, TX14, 67)) rfl) rfl hl.1 rfl (lv_room (Nat.le_of_ble_eq_true rfl)) dX14_readCall_261 (cl_f hck73) g hK (by decide) (by decide) (fx' := [(14, 10, a0_, .int x_99), (14, 25, a0_, .int x_101), (12, 19, q0_, .ref g46_12_19_q0_), (14, 2, a0_, .ref q0_), (14, 16, a0_, .int o_)]) rfl (fun xr_200 fr_200 H locs mxr_200 kxr_200 hp hMr_200 g => ?_) (fun fr_200 H locs hp hMr_200 g => ?_)
                              · have hG_201 := isV.frame hMr_200 go_.2.2.2.1 mq0_ kq0_ (by decide) (by decide) hG_104
                                have hG_202 := FR.frame hMr_200 go_.2.2.2.1 mq0_ kq0_ (by decide) (by decide) hG_105
                                have hG_203 := isY.frame hMr_200 go_.2.2.2.1 mqn kqn (by decide) (by decide) hG_106
                                have hG_204 := cEq.frame hMr_200 go_.2.2.2.1 ma0_ ka0_ (by decide) (by decide) hE_107
                                obtain ⟨mo9, ko9⟩ := NW.old hNW mxr_200 kxr_200 (by decide)
                                have g := NW.drop hNW (g.sub (fx' := []) [] rfl) (fun x h9 => by cases h9)
                                subst hQ
                                exact leavesX hempty hlocks (fun t ht hW => g_thrX g hK mo9 ko9 (by omega) ht hW) g.2.2.1.2.2
                              · exact hp.elim
                            · have fc_198 := nle_f c_198
                              have b_205 : bd 0 11 v73_12 := ltL fc_198 bv73_12 kb_12 (by decide)
                              refine lv_iconst (v := 1) hx hb dX14_readCall_252 (by decide) ?_
                              refine lv_goto (tgt := 257) hx hb dX14_readCall_253 (by decide) ?_
                              refine lv_bipush (v := 7) hx hb dX14_readCall_257 (by decide) ?_
                              refine lv_iload hx hb dX14_readCall_259 (lv_at hl 10 rfl) ?_
                              have go_ := g
                              refine g_callEv (As := [.int 1, .int 7, .int x5_]) (rest := []) ⟨hx, hb, hml, hown, hts⟩ (r_X14_need_3 l dC dI L9 kd9 tys fr_93 H.size g.2.2.2.1 a0_ ma0_ ka0_ 1 kb_1 7 x5_) (cwV 3 hts (gV_ t_2403 t_2405 t_100 t_198 t_2406) rfl rfl rfl (by decide +kernel) ⟨(show 0 + 1 ≤ N + 1 + 24 by omega), (show 8 + (4 + 11) + 0 ≤ 60 * (N + 1) + 700 by omega)⟩) (pre3V g hK ma0_ ka0_ (by decide) (q := (RX14, TX14, 67)) rfl) rfl hl.1 rfl (lv_room (Nat.le_of_ble_eq_true rfl)) dX14_readCall_261 (cl_f hck73) g hK (by decide) (by decide) (fx' := [(14, 10, a0_, .int x_99), (14, 25, a0_, .int x_101), (12, 19, q0_, .ref g46_12_19_q0_), (14, 2, a0_, .ref q0_), (14, 16, a0_, .int o_)]) rfl (fun xr_206 fr_206 H locs mxr_206 kxr_206 hp hMr_206 g => ?_) (fun fr_206 H locs hp hMr_206 g => ?_)
                              · have hG_207 := isV.frame hMr_206 go_.2.2.2.1 mq0_ kq0_ (by decide) (by decide) hG_104
                                have hG_208 := FR.frame hMr_206 go_.2.2.2.1 mq0_ kq0_ (by decide) (by decide) hG_105
                                have hG_209 := isY.frame hMr_206 go_.2.2.2.1 mqn kqn (by decide) (by decide) hG_106
                                have hG_210 := cEq.frame hMr_206 go_.2.2.2.1 ma0_ ka0_ (by decide) (by decide) hE_107
                                exact hp.elim
                              · have hG_211 := isV.frame hMr_206 go_.2.2.2.1 mq0_ kq0_ (by decide) (by decide) hG_104
                                have hG_212 := FR.frame hMr_206 go_.2.2.2.1 mq0_ kq0_ (by decide) (by decide) hG_105
                                have hG_213 := isY.frame hMr_206 go_.2.2.2.1 mqn kqn (by decide) (by decide) hG_106
                                have hG_214 := cEq.frame hMr_206 go_.2.2.2.1 ma0_ ka0_ (by decide) (by decide) hE_107
                                refine lv_aload_n hx hb dX14_readCall_264 rfl (lv_at hl 5 rfl) ?_
                                refine lv_iload_n hx hb dX14_readCall_265 rfl (lv_at hl 6 rfl) ?_
                                refine lv_iconst (v := (-1)) hx hb dX14_readCall_266 (by decide) ?_
                                refine lv_iconst (v := (-1)) hx hb dX14_readCall_267 (by decide) ?_
                                refine lv_iconst (v := 1) hx hb dX14_readCall_268 (by decide) ?_
                                refine lv_iload hx hb dX14_readCall_269 (lv_at hl 1 rfl) ?_
                                refine lv_iadd hx hb dX14_readCall_271 ?_
                                refine lv_topi (fun y_215 ey_215 => ?_)
                                have ty_215 := add_bd ey_215 kb_1 b_205 (by decide)
                                have b_216 : bd 1 12 y_215 := add_rg ty_215 kb_1 b_205 (by decide)
                                have hnb : (V73.n 57).toInt ≤ 2499 := by omega
                                have go_ := g
                                refine g_calli (va_runV (As := [.int x1_, .int (-1), .int (-1), .int y_215]) (rest := []) ⟨hx, hb, hml, hown, hts⟩ (r_X14_node l dC dI L9 kd9 tys fr_206 H.size g.2.2.2.1 a0_ ma0_ ka0_ x1_ (-1) (-1) y_215 q0_ mq0_ kq0_ o_ bo_ V73 hG_211 hnb (g.fcts [3, 4] rfl)) (cwV 4 hts (gV_ t_2480 t_2482 t_117 t_198 t_2483) rfl rfl rfl (by decide +kernel) ⟨(show 0 + 1 ≤ N + 1 + 24 by omega), (show 8 + (6 + 11) + 0 ≤ 60 * (N + 1) + 700 by omega)⟩) (pre3V g hK ma0_ ka0_ (by decide) (q := (RX14, TX14, 67)) rfl) rfl rfl hl.1 rfl (lv_room (Nat.le_of_ble_eq_true rfl)) dX14_readCall_272 (cl_f hck73)) g hK (by decide) (by decide) (fx' := [(14, 10, a0_, .int x_99), (14, 25, a0_, .int x_101), (12, 19, q0_, .ref g46_12_19_q0_), (14, 2, a0_, .ref q0_), (14, 16, a0_, .int o_)]) rfl (fun r_217 fr_217 H locs hp hMr_217 g => ?_)
                                obtain ⟨hx_218, hx_219, h_220, x_221, h_222, hF_223⟩ := hp
                                have hG_224 := isY.frame hMr_217 go_.2.2.2.1 mqn kqn (by decide) (by decide) hG_213
                                have hG_225 := cEq.frame hMr_217 go_.2.2.2.1 ma0_ ka0_ (by decide) (by decide) hG_214
                                have hF_226 := FR.call (mds := []) (mas := []) hG_212 go_ mq0_ kq0_ rfl hx_219
                                obtain ⟨V_227, hV_228, hN_229⟩ := hx_218
                                have g := g.more hF_223
                                refine lv_istore (lv' := [(14, .int r_217), (13, .int v73_13), (12, .int v73_12), (11, .int v73_11), (10, .ref qn), (9, .int x_1), (0, .ref a0_), (1, .int x1_), (2, .int x2_), (3, .long x3_), (5, .long x4_), (7, .int x5_), (8, .int x6_)]) hx hb dX14_readCall_275 hl (by decide) rfl (fun ls hl => ?_)
                                refine lv_aload_n hx hb dX14_readCall_277 rfl (lv_at hl 6 rfl) ?_
                                refine g_getk (C := RX14) (T := TX14) (N := 67) hx hb hts (mc_ inX14) hown hK g rfl 2 (by decide) rfl (hts _ (List.mem_cons_of_mem _ t_2148)) (fun _ h9 => h9) 4 rfl dX14_readCall_278 ?_
                                refine g_getr (K := 204) (C := RX12) (T := TX12) (N := 60) hx hb hts (mc_ inX12) hown hK g mq0_ kq0_ (by decide) rfl 50 (by decide) rfl (hts _ (List.mem_cons_of_mem _ t_2004)) (fun _ h9 => h9) rfl dX14_readCall_281 (fun a_230 ma_230 ka_230 g => ?_)
                                refine lv_iload hx hb dX14_readCall_284 (lv_at hl 0 rfl) ?_
                                refine lv_iload_n hx hb dX14_readCall_286 rfl (lv_at hl 8 rfl) ?_
                                have gp_231 := g
                                have go_ := g
                                refine g_iastX hx hb hK g ma_230 ka_230 (by decide) rfl (in_bd h_220 (by decide)) (bd_sub bx2_ (by decide)) (by decide) dX14_readCall_287 (fun f H locs hM_232 u_235 g => ?_)
                                have hG_233 := isY.frame hM_232 go_.2.2.2.1 mqn kqn (by decide) (by decide) hG_224
                                have hG_234 := cEq.frame hM_232 go_.2.2.2.1 ma0_ ka0_ (by decide) (by decide) hG_225
                                have hV_236 := isV.ui hV_228 gp_231 0 rfl mq0_ kq0_ rfl u_235
                                have hF_237 := FR.arr hF_226 gp_231 0 rfl mq0_ kq0_ rfl rfl u_235.1
                                have hN_238 := NN.s50 (v := x2_) hN_229 h_220.1
                                refine lv_aload_n hx hb dX14_readCall_288 rfl (lv_at hl 6 rfl) ?_
                                refine g_getk (C := RX14) (T := TX14) (N := 67) hx hb hts (mc_ inX14) hown hK g rfl 2 (by decide) rfl (hts _ (List.mem_cons_of_mem _ t_2148)) (fun _ h9 => h9) 5 rfl dX14_readCall_289 ?_
                                refine g_getr (K := 206) (C := RX12) (T := TX12) (N := 60) hx hb hts (mc_ inX12) hown hK g mq0_ kq0_ (by decide) rfl 52 (by decide) rfl (hts _ (List.mem_cons_of_mem _ t_2008)) (fun _ h9 => h9) rfl dX14_readCall_292 (fun a_239 ma_239 ka_239 g => ?_)
                                refine lv_iload hx hb dX14_readCall_295 (lv_at hl 0 rfl) ?_
                                refine lv_iload hx hb dX14_readCall_297 (lv_at hl 3 rfl) ?_
                                have gp_240 := g
                                have go_ := g
                                refine g_iastX hx hb hK g ma_239 ka_239 (by decide) rfl (in_bd h_220 (by decide)) bv73_11 (by decide) dX14_readCall_299 (fun f H locs hM_241 u_244 g => ?_)
                                have hG_242 := isY.frame hM_241 go_.2.2.2.1 mqn kqn (by decide) (by decide) hG_233
                                have hG_243 := cEq.frame hM_241 go_.2.2.2.1 ma0_ ka0_ (by decide) (by decide) hG_234
                                have hV_245 := isV.ui hV_236 gp_240 0 rfl mq0_ kq0_ rfl u_244
                                have hF_246 := FR.arr hF_237 gp_240 0 rfl mq0_ kq0_ rfl rfl u_244.1
                                have hN_247 := NN.s52 (v := v73_11) hN_238 h_220.1
                                refine lv_aload_n hx hb dX14_readCall_300 rfl (lv_at hl 6 rfl) ?_
                                refine g_getk (C := RX14) (T := TX14) (N := 67) hx hb hts (mc_ inX14) hown hK g rfl 2 (by decide) rfl (hts _ (List.mem_cons_of_mem _ t_2148)) (fun _ h9 => h9) 6 rfl dX14_readCall_301 ?_
                                refine g_getr (K := 209) (C := RX12) (T := TX12) (N := 60) hx hb hts (mc_ inX12) hown hK g mq0_ kq0_ (by decide) rfl 55 (by decide) rfl (hts _ (List.mem_cons_of_mem _ t_2014)) (fun _ h9 => h9) rfl dX14_readCall_304 (fun a_248 ma_248 ka_248 g => ?_)
                                refine lv_iload hx hb dX14_readCall_307 (lv_at hl 0 rfl) ?_
                                refine lv_lload_n hx hb dX14_readCall_309 rfl (lv_at hl 9 rfl) ?_
                                have gp_249 := g
                                have go_ := g
                                refine g_lastX hx hb hK g ma_248 ka_248 (by decide) rfl (in_bd h_220 (by decide)) (by decide) dX14_readCall_310 (fun f H locs hM_250 u_253 g => ?_)
                                have hG_251 := isY.frame hM_250 go_.2.2.2.1 mqn kqn (by decide) (by decide) hG_242
                                have hG_252 := cEq.frame hM_250 go_.2.2.2.1 ma0_ ka0_ (by decide) (by decide) hG_243
                                have hV_254 := isV.ul hV_245 gp_249 0 rfl mq0_ kq0_ rfl u_253
                                have hF_255 := FR.arr hF_246 gp_249 0 rfl mq0_ kq0_ rfl rfl u_253.1
                                have hN_256 := NN.s55 (w := x3_) hN_247 h_220.1
                                refine lv_aload_n hx hb dX14_readCall_311 rfl (lv_at hl 6 rfl) ?_
                                refine g_getk (C := RX14) (T := TX14) (N := 67) hx hb hts (mc_ inX14) hown hK g rfl 2 (by decide) rfl (hts _ (List.mem_cons_of_mem _ t_2148)) (fun _ h9 => h9) 7 rfl dX14_readCall_312 ?_
                                refine g_getr (K := 210) (C := RX12) (T := TX12) (N := 60) hx hb hts (mc_ inX12) hown hK g mq0_ kq0_ (by decide) rfl 56 (by decide) rfl (hts _ (List.mem_cons_of_mem _ t_2016)) (fun _ h9 => h9) rfl dX14_readCall_315 (fun a_257 ma_257 ka_257 g => ?_)
                                refine lv_iload hx hb dX14_readCall_318 (lv_at hl 0 rfl) ?_
                                refine lv_lload hx hb dX14_readCall_320 (lv_at hl 10 rfl) ?_
                                have gp_258 := g
                                have go_ := g
                                refine g_lastX hx hb hK g ma_257 ka_257 (by decide) rfl (in_bd h_220 (by decide)) (by decide) dX14_readCall_322 (fun f H locs hM_259 u_262 g => ?_)
                                have hG_260 := isY.frame hM_259 go_.2.2.2.1 mqn kqn (by decide) (by decide) hG_251
                                have hG_261 := cEq.frame hM_259 go_.2.2.2.1 ma0_ ka0_ (by decide) (by decide) hG_252
                                have hV_263 := isV.ul hV_254 gp_258 0 rfl mq0_ kq0_ rfl u_262
                                have hF_264 := FR.arr hF_255 gp_258 0 rfl mq0_ kq0_ rfl rfl u_262.1
                                have hN_265 := NN.s56 (w := x4_) hN_256 h_220.1
                                refine lv_iconst (v := 0) hx hb dX14_readCall_323 (by decide) ?_
                                refine lv_istore (lv' := [(15, .int 0), (14, .int r_217), (13, .int v73_13), (12, .int v73_12), (11, .int v73_11), (10, .ref qn), (9, .int x_1), (0, .ref a0_), (1, .int x1_), (2, .int x2_), (3, .long x3_), (5, .long x4_), (7, .int x5_), (8, .int x6_)]) hx hb dX14_readCall_324 hl (by decide) rfl (fun ls hl => ?_)
                                have loop_266 : ∀ (n : Nat) (v326_15 : Int32), bd 0 3 v326_15 → (3 - v326_15.toInt < (n : Int)) → ∀ (f : Nat → va_E) (H : Heap) (locs : List Loc) (ls : Array Slot), G3 (dC, dI) L9 kd9 tys s f9 [(12, 57), (12, 58), (14, 6), (14, 7), (14, 8), (14, 9), (14, 10), (14, 11), (14, 12), (14, 13), (14, 14), (14, 15), (14, 25)] [180, 201, 202, 203, 204, 205, 206, 207, 208, 209, 210] f H locs [(12, 56, q0_, .ref a_257), (12, 55, q0_, .ref a_248), (12, 52, q0_, .ref a_239), (12, 50, q0_, .ref a_230), (12, 57, q0_, .int x_221), (14, 10, a0_, .int x_99), (14, 25, a0_, .int x_101), (12, 19, q0_, .ref g46_12_19_q0_), (14, 2, a0_, .ref q0_), (14, 16, a0_, .int o_)] → isY f qn A73 → cEq f a0_ E_107 → (∃ V1 : PV, isV f q0_ V1 ∧ FR L9 kd9 f9 f q0_ ∧ NN V73 V1 r_217 x1_ (-1) (-1) x2_ y_215 v73_11 o_ x3_ x4_ ∧ (∀ j : Nat, (j : Int) < v326_15.toInt → V1.i 53 (3 * r_217.toNatClampNeg + j) = A73 j)) → lv_has ls 16 [(15, .int v326_15), (14, .int r_217), (13, .int v73_13), (12, .int v73_12), (11, .int v73_11), (10, .ref qn), (9, .int x_1), (0, .ref a0_), (1, .int x1_), (2, .int x2_), (3, .long x3_), (5, .long x4_), (7, .int x5_), (8, .int x6_)] → W p l e ({ frames := (N + 1) + 24, cells := K_, slots := 3 * K_, locals := 60 * (N + 1) + 700 } : Room) s m [.ref a0_, .int x1_, .int x2_, .long x3_, .long x4_, .int x5_, .int x6_].toArray below meth c H locs cl73 (3 * cl73) Q (F0 m 326 ls []) := by
                                  intro n326
                                  induction n326 with
                                  | zero =>
                                    intro v326_15 bv326_15 hm326 f H locs ls g hG326_Y_qn hG326_C_a0_ ⟨V326, hV326, hF326, hN326, hA326⟩ hl
                                    exact absurd hm326 (by have h9_v326_15 := bv326_15; unfold bd at h9_v326_15; omega)
                                  | succ n326 ih326 =>
                                    intro v326_15 bv326_15 hm326 f H locs ls g hG326_Y_qn hG326_C_a0_ ⟨V326, hV326, hF326, hN326, hA326⟩ hl
                                    refine lv_iload hx hb dX14_readCall_326 (lv_at hl 0 rfl) ?_
                                    refine lv_iload hx hb dX14_readCall_328 (lv_at hl 4 rfl) ?_
                                    refine lv_icmp_ge (tgt := 359) hx hb dX14_readCall_330 (by decide) (fun c_267 => ?_) (fun c_267 => ?_)
                                    · have fc_267 := le_f c_267
                                      refine lv_iload hx hb dX14_readCall_359 (lv_at hl 1 rfl) ?_
                                      have hf_268 : fin V73 V326 r_217 hm_ o_ := nd_call (Vb := V_) (A := A73) hN326 h_220.1 hw73 ⟨(by have h9_0 := bj73_13; unfold bd at h9_0; have h9_1 := bo_; unfold bd at h9_1; have h9_2 := b_17; unfold bd at h9_2; have h9_3 := h_220; unfold bd at h9_3; have h9_4 := b_16; unfold bd at h9_4; have h9_5 := bv326_15; unfold bd at h9_5; have h9_6 := bv73_11; unfold bd at h9_6; have h9_7 := b_205; unfold bd at h9_7; have h9_8 := b_27; unfold bd at h9_8; have h9_9 := b_73; unfold bd at h9_9; have h9_10 := bx2_; unfold bd at h9_10; have h9_11 := b_197; unfold bd at h9_11; have h9_12 := bx_1; unfold bd at h9_12; have h9_13 := h_11; unfold bd at h9_13; have h9_14 := h_102; unfold bd at h9_14; have h9_15 := h_222; unfold bd at h9_15; have h9_16 := h_32; unfold bd at h9_16; have h9_17 := bx_48; unfold bd at h9_17; have h9_18 := h_66; unfold bd at h9_18; have h9_19 := bx_74; unfold bd at h9_19; have h9_20 := h_9; unfold bd at h9_20; have h9_21 := h_100; unfold bd at h9_21; have h9_22 := b_216; unfold bd at h9_22; have h8_0 := kb_0; unfold bd at h8_0; have h8_1 := kb_1; unfold bd at h8_1; have h8_2 := kb_12; unfold bd at h8_2; omega), (by have h9_0 := bj73_13; unfold bd at h9_0; have h9_1 := bo_; unfold bd at h9_1; have h9_2 := b_17; unfold bd at h9_2; have h9_3 := h_220; unfold bd at h9_3; have h9_4 := b_16; unfold bd at h9_4; have h9_5 := bv326_15; unfold bd at h9_5; have h9_6 := bv73_11; unfold bd at h9_6; have h9_7 := b_205; unfold bd at h9_7; have h9_8 := b_27; unfold bd at h9_8; have h9_9 := b_73; unfold bd at h9_9; have h9_10 := bx2_; unfold bd at h9_10; have h9_11 := b_197; unfold bd at h9_11; have h9_12 := bx_1; unfold bd at h9_12; have h9_13 := h_11; unfold bd at h9_13; have h9_14 := h_102; unfold bd at h9_14; have h9_15 := h_222; unfold bd at h9_15; have h9_16 := h_32; unfold bd at h9_16; have h9_17 := bx_48; unfold bd at h9_17; have h9_18 := h_66; unfold bd at h9_18; have h9_19 := bx_74; unfold bd at h9_19; have h9_20 := h_9; unfold bd at h9_20; have h9_21 := h_100; unfold bd at h9_21; have h9_22 := b_216; unfold bd at h9_22; have h8_0 := kb_0; unfold bd at h8_0; have h8_1 := kb_1; unfold bd at h8_1; have h8_2 := kb_12; unfold bd at h8_2; omega)⟩ (by have h9_0 := bj73_13; unfold bd at h9_0; have h9_1 := bo_; unfold bd at h9_1; have h9_2 := b_17; unfold bd at h9_2; have h9_3 := h_220; unfold bd at h9_3; have h9_4 := b_16; unfold bd at h9_4; have h9_5 := bv326_15; unfold bd at h9_5; have h9_6 := bv73_11; unfold bd at h9_6; have h9_7 := b_205; unfold bd at h9_7; have h9_8 := b_27; unfold bd at h9_8; have h9_9 := b_73; unfold bd at h9_9; have h9_10 := bx2_; unfold bd at h9_10; have h9_11 := b_197; unfold bd at h9_11; have h9_12 := bx_1; unfold bd at h9_12; have h9_13 := h_11; unfold bd at h9_13; have h9_14 := h_102; unfold bd at h9_14; have h9_15 := h_222; unfold bd at h9_15; have h9_16 := h_32; unfold bd at h9_16; have h9_17 := bx_48; unfold bd at h9_17; have h9_18 := h_66; unfold bd at h9_18; have h9_19 := bx_74; unfold bd at h9_19; have h9_20 := h_9; unfold bd at h9_20; have h9_21 := h_100; unfold bd at h9_21; have h9_22 := b_216; unfold bd at h9_22; have h8_0 := kb_0; unfold bd at h8_0; have h8_1 := kb_1; unfold bd at h8_1; have h8_2 := kb_12; unfold bd at h8_2; omega) (by rw [hX73.2.2.1 0 (by decide)]; exact ho) hop (by have h9_0 := bj73_13; unfold bd at h9_0; have h9_1 := bo_; unfold bd at h9_1; have h9_2 := b_17; unfold bd at h9_2; have h9_3 := h_220; unfold bd at h9_3; have h9_4 := b_16; unfold bd at h9_4; have h9_5 := bv326_15; unfold bd at h9_5; have h9_6 := bv73_11; unfold bd at h9_6; have h9_7 := b_205; unfold bd at h9_7; have h9_8 := b_27; unfold bd at h9_8; have h9_9 := b_73; unfold bd at h9_9; have h9_10 := bx2_; unfold bd at h9_10; have h9_11 := b_197; unfold bd at h9_11; have h9_12 := bx_1; unfold bd at h9_12; have h9_13 := h_11; unfold bd at h9_13; have h9_14 := h_102; unfold bd at h9_14; have h9_15 := h_222; unfold bd at h9_15; have h9_16 := h_32; unfold bd at h9_16; have h9_17 := bx_48; unfold bd at h9_17; have h9_18 := h_66; unfold bd at h9_18; have h9_19 := bx_74; unfold bd at h9_19; have h9_20 := h_9; unfold bd at h9_20; have h9_21 := h_100; unfold bd at h9_21; have h9_22 := b_216; unfold bd at h9_22; have h8_0 := kb_0; unfold bd at h8_0; have h8_1 := kb_1; unfold bd at h8_1; have h8_2 := kb_12; unfold bd at h8_2; omega) (fun j hj => hA326 j (by omega)) hA73 (by have h9_0 := bj73_13; unfold bd at h9_0; have h9_1 := bo_; unfold bd at h9_1; have h9_2 := b_17; unfold bd at h9_2; have h9_3 := h_220; unfold bd at h9_3; have h9_4 := b_16; unfold bd at h9_4; have h9_5 := bv326_15; unfold bd at h9_5; have h9_6 := bv73_11; unfold bd at h9_6; have h9_7 := b_205; unfold bd at h9_7; have h9_8 := b_27; unfold bd at h9_8; have h9_9 := b_73; unfold bd at h9_9; have h9_10 := bx2_; unfold bd at h9_10; have h9_11 := b_197; unfold bd at h9_11; have h9_12 := bx_1; unfold bd at h9_12; have h9_13 := h_11; unfold bd at h9_13; have h9_14 := h_102; unfold bd at h9_14; have h9_15 := h_222; unfold bd at h9_15; have h9_16 := h_32; unfold bd at h9_16; have h9_17 := bx_48; unfold bd at h9_17; have h9_18 := h_66; unfold bd at h9_18; have h9_19 := bx_74; unfold bd at h9_19; have h9_20 := h_9; unfold bd at h9_20; have h9_21 := h_100; unfold bd at h9_21; have h9_22 := b_216; unfold bd at h9_22; have h8_0 := kb_0; unfold bd at h8_0; have h8_1 := kb_1; unfold bd at h8_1; have h8_2 := kb_12; unfold bd at h8_2; omega) (fun q9 => hX73.fnd_.mpr (hf3 q9)) (fun q9 => by rw [hX73.1 3 (by decide) (by decide)]; exact ⟨(hf9 q9).1, hX73.fnd_.mpr (hf9 q9).2⟩)
                                      have ho_272 : (V326.i 47 r_217.toNatClampNeg).toInt = x1_.toInt := (congrArg Int32.toInt (hN326).2.2.2.1)
                                      obtain ⟨V_269, hV_270, hf_271, ho_272⟩ : ∃ V1 : PV, isV f q0_ V1 ∧ fin V73 V1 r_217 hm_ o_ ∧ (V1.i 47 r_217.toNatClampNeg).toInt = x1_.toInt := ⟨_, hV326, hf_268, ho_272⟩
                                      have hf_271n := hf_271.2.2.2
                                      have hx_273 := exN.tr hX73 hf_271.1
                                      obtain rfl : op_ = x_101 := Int32.toInt_inj.mp (by have h9_0 := bj73_13; unfold bd at h9_0; have h9_1 := bo_; unfold bd at h9_1; have h9_2 := b_17; unfold bd at h9_2; have h9_3 := h_220; unfold bd at h9_3; have h9_4 := b_16; unfold bd at h9_4; have h9_5 := bv326_15; unfold bd at h9_5; have h9_6 := bv73_11; unfold bd at h9_6; have h9_7 := b_205; unfold bd at h9_7; have h9_8 := b_27; unfold bd at h9_8; have h9_9 := b_73; unfold bd at h9_9; have h9_10 := bx2_; unfold bd at h9_10; have h9_11 := b_197; unfold bd at h9_11; have h9_12 := bx_1; unfold bd at h9_12; have h9_13 := h_11; unfold bd at h9_13; have h9_14 := h_102; unfold bd at h9_14; have h9_15 := h_222; unfold bd at h9_15; have h9_16 := h_32; unfold bd at h9_16; have h9_17 := bx_48; unfold bd at h9_17; have h9_18 := h_66; unfold bd at h9_18; have h9_19 := bx_74; unfold bd at h9_19; have h9_20 := h_9; unfold bd at h9_20; have h9_21 := h_100; unfold bd at h9_21; have h9_22 := b_216; unfold bd at h9_22; have h8_0 := kb_0; unfold bd at h8_0; have h8_1 := kb_1; unfold bd at h8_1; have h8_2 := kb_12; unfold bd at h8_2; omega)
                                      have g := NW.drop hNW (g.sub (fx' := [(14, 25, a0_, .int op_), (14, 10, a0_, .int x_99)]) [6, 5] rfl) (fun x h9 => by rcases List.mem_cons.mp h9 with h9 | h9 <;> first | (rw [h9]; exact mo_a) | (rw [List.mem_singleton.mp h9]; exact mo_a))
                                      have hF_274 := NW.FR_b hNW mo_q hF326
                                      have h9c : cF f a0_ = _ := hG326_C_a0_
                                      subst hQ
                                      exact iretX (v := r_217) hx hb hr (fun t ht hW => g_retX g hK ⟨_, rfl, ⟨⟨_, hV_270, hF_274, hx_273, hf_271.2.1, hf_271.2.2.1, ho_272, (by omega), (by omega), (by omega)⟩, x_99, h_100, (g.fcts [0, 1] rfl)⟩⟩ ht hW) g.2.2.1.2.2 dX14_readCall_361 hlocks
                                    · have fc_267 := nle_f c_267
                                      have b_275 : bd 0 2 v326_15 := ltL fc_267 bv326_15 bv73_11 (by decide)
                                      have b_276 : bd 1 3 v73_11 := ltR fc_267 bv326_15 bv73_11 (by decide)
                                      refine lv_aload_n hx hb dX14_readCall_333 rfl (lv_at hl 7 rfl) ?_
                                      refine g_getk (C := RX14) (T := TX14) (N := 67) hx hb hts (mc_ inX14) hown hK g rfl 2 (by decide) rfl (hts _ (List.mem_cons_of_mem _ t_2148)) (fun _ h9 => h9) 8 rfl dX14_readCall_334 ?_
                                      refine g_getr (K := 207) (C := RX12) (T := TX12) (N := 60) hx hb hts (mc_ inX12) hown hK g mq0_ kq0_ (by decide) rfl 53 (by decide) rfl (hts _ (List.mem_cons_of_mem _ t_2010)) (fun _ h9 => h9) rfl dX14_readCall_337 (fun a_277 ma_277 ka_277 g => ?_)
                                      refine lv_iconst (v := 3) hx hb dX14_readCall_340 (by decide) ?_
                                      refine lv_iload hx hb dX14_readCall_341 (lv_at hl 1 rfl) ?_
                                      refine lv_imul hx hb dX14_readCall_343 ?_
                                      refine lv_topi (fun y_278 ey_278 => ?_)
                                      have ty_278 := cmul_bd ey_278 (c := 3) (by decide) h_220 (by decide)
                                      have b_279 : bd 0 7497 y_278 := mulc_rg ty_278 h_220 (by decide)
                                      refine lv_iload hx hb dX14_readCall_344 (lv_at hl 0 rfl) ?_
                                      refine lv_iadd hx hb dX14_readCall_346 ?_
                                      refine lv_topi (fun y_280 ey_280 => ?_)
                                      have ty_280 := add_bd ey_280 b_279 b_275 (by decide)
                                      have b_281 : bd 0 7499 y_280 := add_rg ty_280 b_279 b_275 (by decide)
                                      refine lv_aload hx hb dX14_readCall_347 (lv_at hl 5 rfl) ?_
                                      refine lv_iload hx hb dX14_readCall_349 (lv_at hl 0 rfl) ?_
                                      refine g_iald hx hb hK g mqn kqn (by decide) rfl (in_bd b_275 (by decide)) dX14_readCall_351 (fun x_282 bx_282 cx_282 => ?_)
                                      have vAx_282 : x_282 = A73 v326_15.toNatClampNeg := cx_282.trans (hG326_Y_qn.at_ _)
                                      have gp_283 := g
                                      have go_ := g
                                      refine g_iastX hx hb hK g ma_277 ka_277 (by decide) rfl (in_bd b_281 (by decide)) (bdT x_282) (by decide) dX14_readCall_352 (fun f H locs hM_284 u_287 g => ?_)
                                      have hG_285 := isY.frame hM_284 go_.2.2.2.1 mqn kqn (by decide) (by decide) hG326_Y_qn
                                      have hG_286 := cEq.frame hM_284 go_.2.2.2.1 ma0_ ka0_ (by decide) (by decide) hG326_C_a0_
                                      have hV_288 := isV.ui hV326 gp_283 0 rfl mq0_ kq0_ rfl u_287
                                      have hF_289 := FR.arr hF326 gp_283 0 rfl mq0_ kq0_ rfl rfl u_287.1
                                      have hN_290 := NN.s53 (v := x_282) (k := y_280.toNatClampNeg) hN326 (by rw [tnZ (by have h9_0 := bj73_13; unfold bd at h9_0; have h9_1 := bo_; unfold bd at h9_1; have h9_2 := b_17; unfold bd at h9_2; have h9_3 := h_220; unfold bd at h9_3; have h9_4 := b_16; unfold bd at h9_4; have h9_5 := b_275; unfold bd at h9_5; have h9_6 := b_276; unfold bd at h9_6; have h9_7 := b_205; unfold bd at h9_7; have h9_8 := b_27; unfold bd at h9_8; have h9_9 := b_73; unfold bd at h9_9; have h9_10 := bx2_; unfold bd at h9_10; have h9_11 := b_197; unfold bd at h9_11; have h9_12 := bx_1; unfold bd at h9_12; have h9_13 := h_11; unfold bd at h9_13; have h9_14 := h_102; unfold bd at h9_14; have h9_15 := h_222; unfold bd at h9_15; have h9_16 := h_32; unfold bd at h9_16; have h9_17 := bx_48; unfold bd at h9_17; have h9_18 := h_66; unfold bd at h9_18; have h9_19 := bx_74; unfold bd at h9_19; have h9_20 := h_9; unfold bd at h9_20; have h9_21 := h_100; unfold bd at h9_21; have h9_22 := b_216; unfold bd at h9_22; have h9_23 := b_279; unfold bd at h9_23; have h9_24 := b_281; unfold bd at h9_24; have h8_0 := kb_0; unfold bd at h8_0; have h8_1 := kb_1; unfold bd at h8_1; have h8_2 := kb_12; unfold bd at h8_2; omega)]; have h9_0 := bj73_13; unfold bd at h9_0; have h9_1 := bo_; unfold bd at h9_1; have h9_2 := b_17; unfold bd at h9_2; have h9_3 := h_220; unfold bd at h9_3; have h9_4 := b_16; unfold bd at h9_4; have h9_5 := b_275; unfold bd at h9_5; have h9_6 := b_276; unfold bd at h9_6; have h9_7 := b_205; unfold bd at h9_7; have h9_8 := b_27; unfold bd at h9_8; have h9_9 := b_73; unfold bd at h9_9; have h9_10 := bx2_; unfold bd at h9_10; have h9_11 := b_197; unfold bd at h9_11; have h9_12 := bx_1; unfold bd at h9_12; have h9_13 := h_11; unfold bd at h9_13; have h9_14 := h_102; unfold bd at h9_14; have h9_15 := h_222; unfold bd at h9_15; have h9_16 := h_32; unfold bd at h9_16; have h9_17 := bx_48; unfold bd at h9_17; have h9_18 := h_66; unfold bd at h9_18; have h9_19 := bx_74; unfold bd at h9_19; have h9_20 := h_9; unfold bd at h9_20; have h9_21 := h_100; unfold bd at h9_21; have h9_22 := b_216; unfold bd at h9_22; have h9_23 := b_279; unfold bd at h9_23; have h9_24 := b_281; unfold bd at h9_24; have h8_0 := kb_0; unfold bd at h8_0; have h8_1 := kb_1; unfold bd at h8_1; have h8_2 := kb_12; unfold bd at h8_2; omega)
                                      obtain ⟨y_291, ey_291⟩ : ∃ z : Int32, z = v326_15 + 1 := ⟨_, rfl⟩
                                      refine lv_iinc (v := y_291) (lv' := [(15, .int y_291), (14, .int r_217), (13, .int v73_13), (12, .int v73_12), (11, .int v73_11), (10, .ref qn), (9, .int x_1), (0, .ref a0_), (1, .int x1_), (2, .int x2_), (3, .long x3_), (5, .long x4_), (7, .int x5_), (8, .int x6_)]) hx hb dX14_readCall_353 hl (k := 0) rfl (by rw [ey_291]; rfl) (by decide) rfl (fun ls hl => ?_)
                                      have ty_291 := add_bd ey_291 b_275 kb_1 (by decide)
                                      have b_292 : bd 1 3 y_291 := add_rg ty_291 b_275 kb_1 (by decide)
                                      refine lv_goto (tgt := 326) hx hb dX14_readCall_356 (by decide) ?_
                                      have hl9 := lv_sub hl [0, 1, 2, 3, 4, 5, 6, 7, 8, 9, 10, 11, 12, 13] (by rfl : lv_pick [(15, .int y_291), (14, .int r_217), (13, .int v73_13), (12, .int v73_12), (11, .int v73_11), (10, .ref qn), (9, .int x_1), (0, .ref a0_), (1, .int x1_), (2, .int x2_), (3, .long x3_), (5, .long x4_), (7, .int x5_), (8, .int x6_)] [0, 1, 2, 3, 4, 5, 6, 7, 8, 9, 10, 11, 12, 13] = [(15, .int y_291), (14, .int r_217), (13, .int v73_13), (12, .int v73_12), (11, .int v73_11), (10, .ref qn), (9, .int x_1), (0, .ref a0_), (1, .int x1_), (2, .int x2_), (3, .long x3_), (5, .long x4_), (7, .int x5_), (8, .int x6_)])
                                      have g9 := g.sub (fx' := [(12, 56, q0_, .ref a_257), (12, 55, q0_, .ref a_248), (12, 52, q0_, .ref a_239), (12, 50, q0_, .ref a_230), (12, 57, q0_, .int x_221), (14, 10, a0_, .int x_99), (14, 25, a0_, .int x_101), (12, 19, q0_, .ref g46_12_19_q0_), (14, 2, a0_, .ref q0_), (14, 16, a0_, .int o_)]) [1, 2, 3, 4, 5, 6, 7, 8, 9, 10] rfl
                                      exact ih326  y_291 (bd_sub b_292 (by decide)) (by have h9_0 := b_292; unfold bd at h9_0; have h9_1 := bv326_15; unfold bd at h9_1; have h9_2 := kb_0; unfold bd at h9_2; have h9_3 := kb_1; unfold bd at h9_3; have h9_4 := kb_12; unfold bd at h9_4; omega) _ _ _ _ g9 hG_285 hG_286 ⟨_, hV_288, hF_289, hN_290, (arr_s hA326 b_275.1 (by have h9_0 := bj73_13; unfold bd at h9_0; have h9_1 := bo_; unfold bd at h9_1; have h9_2 := b_17; unfold bd at h9_2; have h9_3 := h_220; unfold bd at h9_3; have h9_4 := b_16; unfold bd at h9_4; have h9_5 := b_275; unfold bd at h9_5; have h9_6 := b_276; unfold bd at h9_6; have h9_7 := b_205; unfold bd at h9_7; have h9_8 := b_27; unfold bd at h9_8; have h9_9 := b_73; unfold bd at h9_9; have h9_10 := bx2_; unfold bd at h9_10; have h9_11 := b_197; unfold bd at h9_11; have h9_12 := bx_1; unfold bd at h9_12; have h9_13 := h_11; unfold bd at h9_13; have h9_14 := h_102; unfold bd at h9_14; have h9_15 := h_222; unfold bd at h9_15; have h9_16 := h_32; unfold bd at h9_16; have h9_17 := bx_48; unfold bd at h9_17; have h9_18 := h_66; unfold bd at h9_18; have h9_19 := bx_74; unfold bd at h9_19; have h9_20 := h_9; unfold bd at h9_20; have h9_21 := h_100; unfold bd at h9_21; have h9_22 := b_216; unfold bd at h9_22; have h9_23 := b_279; unfold bd at h9_23; have h9_24 := b_281; unfold bd at h9_24; have h9_25 := b_292; unfold bd at h9_25; have h8_0 := kb_0; unfold bd at h8_0; have h8_1 := kb_1; unfold bd at h8_1; have h8_2 := kb_12; unfold bd at h8_2; omega) (ix3 h_220.1 b_275.1 (by have h9_0 := bj73_13; unfold bd at h9_0; have h9_1 := bo_; unfold bd at h9_1; have h9_2 := b_17; unfold bd at h9_2; have h9_3 := h_220; unfold bd at h9_3; have h9_4 := b_16; unfold bd at h9_4; have h9_5 := b_275; unfold bd at h9_5; have h9_6 := b_276; unfold bd at h9_6; have h9_7 := b_205; unfold bd at h9_7; have h9_8 := b_27; unfold bd at h9_8; have h9_9 := b_73; unfold bd at h9_9; have h9_10 := bx2_; unfold bd at h9_10; have h9_11 := b_197; unfold bd at h9_11; have h9_12 := bx_1; unfold bd at h9_12; have h9_13 := h_11; unfold bd at h9_13; have h9_14 := h_102; unfold bd at h9_14; have h9_15 := h_222; unfold bd at h9_15; have h9_16 := h_32; unfold bd at h9_16; have h9_17 := bx_48; unfold bd at h9_17; have h9_18 := h_66; unfold bd at h9_18; have h9_19 := bx_74; unfold bd at h9_19; have h9_20 := h_9; unfold bd at h9_20; have h9_21 := h_100; unfold bd at h9_21; have h9_22 := b_216; unfold bd at h9_22; have h9_23 := b_279; unfold bd at h9_23; have h9_24 := b_281; unfold bd at h9_24; have h9_25 := b_292; unfold bd at h9_25; have h8_0 := kb_0; unfold bd at h8_0; have h8_1 := kb_1; unfold bd at h8_1; have h8_2 := kb_12; unfold bd at h8_2; omega)) vAx_282)⟩ hl9
                                have hl9 := lv_sub hl [0, 1, 2, 3, 4, 5, 6, 7, 8, 9, 10, 11, 12, 13] (by rfl : lv_pick [(15, .int 0), (14, .int r_217), (13, .int v73_13), (12, .int v73_12), (11, .int v73_11), (10, .ref qn), (9, .int x_1), (0, .ref a0_), (1, .int x1_), (2, .int x2_), (3, .long x3_), (5, .long x4_), (7, .int x5_), (8, .int x6_)] [0, 1, 2, 3, 4, 5, 6, 7, 8, 9, 10, 11, 12, 13] = [(15, .int 0), (14, .int r_217), (13, .int v73_13), (12, .int v73_12), (11, .int v73_11), (10, .ref qn), (9, .int x_1), (0, .ref a0_), (1, .int x1_), (2, .int x2_), (3, .long x3_), (5, .long x4_), (7, .int x5_), (8, .int x6_)])
                                have g9 := g.sub (fx' := [(12, 56, q0_, .ref a_257), (12, 55, q0_, .ref a_248), (12, 52, q0_, .ref a_239), (12, 50, q0_, .ref a_230), (12, 57, q0_, .int x_221), (14, 10, a0_, .int x_99), (14, 25, a0_, .int x_101), (12, 19, q0_, .ref g46_12_19_q0_), (14, 2, a0_, .ref q0_), (14, 16, a0_, .int o_)]) [0, 1, 2, 3, 4, 5, 6, 7, 8, 9] rfl
                                exact loop_266 (9) 0 (bd_sub kb_0 (by decide)) (by have h9_0 := kb_0; unfold bd at h9_0; have h9_1 := kb_1; unfold bd at h9_1; have h9_2 := kb_12; unfold bd at h9_2; omega) _ _ _ _ g9 hG_260 hG_261 ⟨_, hV_263, hF_264, hN_265, (fun j h9 => absurd h9 (by have h8 : (0 : Int32).toInt = 0 := (by decide); omega))⟩ hl9
            · have fc_26 := neq_f c_26
              have b_293 : bd 1 1 v73_13 := neX fc_26 bv73_13 kb_0 (by decide)
              have b_294 : bd 0 2 v73_11 := ⟨(by have h9_0 := bj73_13; unfold bd at h9_0; have h9_1 := bo_; unfold bd at h9_1; have h9_2 := b_17; unfold bd at h9_2; have h9_3 := b_16; unfold bd at h9_3; have h9_4 := bv73_11; unfold bd at h9_4; have h9_5 := bv73_12; unfold bd at h9_5; have h9_6 := b_293; unfold bd at h9_6; have h9_7 := bw73_14_10_a0_; unfold bd at h9_7; have h9_8 := bx2_; unfold bd at h9_8; have h9_9 := bx6_; unfold bd at h9_9; have h9_10 := bx_1; unfold bd at h9_10; have h9_11 := h_11; unfold bd at h9_11; have h9_12 := h_9; unfold bd at h9_12; have h8_0 := kb_0; unfold bd at h8_0; omega), (by have h9_0 := bj73_13; unfold bd at h9_0; have h9_1 := bo_; unfold bd at h9_1; have h9_2 := b_17; unfold bd at h9_2; have h9_3 := b_16; unfold bd at h9_3; have h9_4 := bv73_11; unfold bd at h9_4; have h9_5 := bv73_12; unfold bd at h9_5; have h9_6 := b_293; unfold bd at h9_6; have h9_7 := bw73_14_10_a0_; unfold bd at h9_7; have h9_8 := bx2_; unfold bd at h9_8; have h9_9 := bx6_; unfold bd at h9_9; have h9_10 := bx_1; unfold bd at h9_10; have h9_11 := h_11; unfold bd at h9_11; have h9_12 := h_9; unfold bd at h9_12; have h8_0 := kb_0; unfold bd at h8_0; omega)⟩
              refine lv_aload hx hb dX14_readCall_78 (lv_at hl 3 rfl) ?_
              refine lv_iload hx hb dX14_readCall_80 (lv_at hl 2 rfl) ?_
              refine lv_aload_n hx hb dX14_readCall_82 rfl (lv_at hl 5 rfl) ?_
              refine lv_iconst (v := 1) hx hb dX14_readCall_83 (by decide) ?_
              have qc__295 : cF f a0_ = _ := hC73
              have kb_1 : bd 1 1 (1 : Int32) := ⟨by decide, by decide⟩
              have go_ := g
              refine g_callXi (As := [.int 1]) (rest := [.int v73_11, .ref qn]) ⟨hx, hb, hml, hown, hts⟩ (ih.1 l dC dI L9 kd9 tys f H.size g.2.2.2.1 adK adV a0_ ma0_ ka0_ (1 : Int32) (bd_sub kb_1 (by decide)) q0_ mq0_ kq0_ V73 o_ bo_ x_10 (bd_sub h_11 (by decide)) w73_14_10_a0_ bw73_14_10_a0_ hV73 hw73 (by rw [hX73.2.2.1 0 (by decide)]; exact ho) (by omega) (K_ - cl73) (by omega) (by have h9_0 := bj73_13; unfold bd at h9_0; have h9_1 := bo_; unfold bd at h9_1; have h9_2 := b_17; unfold bd at h9_2; have h9_3 := b_16; unfold bd at h9_3; have h9_4 := b_294; unfold bd at h9_4; have h9_5 := bv73_12; unfold bd at h9_5; have h9_6 := b_293; unfold bd at h9_6; have h9_7 := bw73_14_10_a0_; unfold bd at h9_7; have h9_8 := bx2_; unfold bd at h9_8; have h9_9 := bx6_; unfold bd at h9_9; have h9_10 := bx_1; unfold bd at h9_10; have h9_11 := h_11; unfold bd at h9_11; have h9_12 := h_9; unfold bd at h9_12; have h8_0 := kb_0; unfold bd at h8_0; have h8_1 := kb_1; unfold bd at h8_1; omega) (g.fcts [3, 4, 2, 1] rfl)) (cwV 1 hts (gV_ t_2464 t_2466 t_113 t_198 t_2467) rfl rfl rfl (by decide +kernel) ⟨(show N + 24 + 1 ≤ N + 1 + 24 by omega), (show 8 + (7 + 11) + (60 * N + 700) ≤ 60 * (N + 1) + 700 by omega)⟩) (pre3VA g hK hAm ma0_ ka0_ (by decide) (q := (RX14, TX14, 67)) rfl) rfl hl.1 rfl (lv_room (Nat.le_of_ble_eq_true rfl)) dX14_readCall_84 (cl_k (K := K_) (k := K_ - cl73) (show cl73 + (K_ - cl73) ≤ K_ by omega)) g hK (by decide) (by decide) (fx' := [(12, 19, q0_, .ref g46_12_19_q0_), (14, 2, a0_, .ref q0_), (14, 16, a0_, .int o_)]) rfl (fun xr_296 fr_296 H locs kr_296 cr_296 ecr_296 mxr_296 kxr_296 hp hMr_296 g => ?_) (fun r_296 fr_296 H locs kr_296 cr_296 ecr_296 hp hMr_296 g => ?_)
              · have hG_297 := isY.frame hMr_296 go_.2.2.2.1 mqn kqn (by decide) (by decide) hY73
                obtain ⟨mo9, ko9⟩ := NW.old hNW mxr_296 kxr_296 (by decide)
                have g := NW.drop hNW (g.sub (fx' := []) [] rfl) (fun x h9 => by cases h9)
                subst hQ
                exact leavesX hempty hlocks (fun t ht hW => g_thrX g hK mo9 ko9 (by omega) ht hW) g.2.2.1.2.2
              · obtain ⟨hx_298, x_299, h_300, hF_301⟩ := hp
                have hG_302 := isY.frame hMr_296 go_.2.2.2.1 mqn kqn (by decide) (by decide) hY73
                obtain ⟨V_303, E_304, hV_305, hF_306, hE_307, hX_308, hw_309, hv_310, hP_311, hn_312, hk_313, hc_314⟩ := rd_use hx_298 hC73
                have hF_315 := FR.call (mds := []) (mas := []) hF73 go_ mq0_ kq0_ rfl hF_306
                have mxE_304 : E_304 ≤ 1202 := by have h9 := cF_le g ma0_ ka0_; have h8 : cF _ _ = _ := hE_307; omega
                have hx_316 := exN.tr hX73 hX_308
                have hck_317 : cr_296 ≤ K_ := by omega
                have b_318 : bd 0 2499 r_296 := ⟨hv_310.1, (by have h9 := hv_310.2.1; omega)⟩
                have g := g.more hF_301
                have go_ := g
                refine g_iastN hx hb hK hNW g mqn kqn (in_bd b_294 (by decide)) dX14_readCall_87 (fun f9 f H locs hNW hM_321 u_319 hfu_320 g => ?_)
                have hF_322 := hfu_320 _ mo_q hF_315
                have hY_323 := isY.put hG_302 u_319
                have hG_324 := isV.frame hM_321 go_.2.2.2.1 mq0_ kq0_ (by decide) (by decide) hV_305
                have hG_325 := cEq.frame hM_321 go_.2.2.2.1 ma0_ ka0_ (by decide) (by decide) hE_307
                refine lv_aload_n hx hb dX14_readCall_88 rfl (lv_at hl 5 rfl) ?_
                refine g_getk (C := RX14) (T := TX14) (N := 67) hx hb hts (mc_ inX14) hown hK g rfl 2 (by decide) rfl (hts _ (List.mem_cons_of_mem _ t_2148)) (fun _ h9 => h9) 3 rfl dX14_readCall_89 ?_
                refine g_getr (K := 205) (C := RX12) (T := TX12) (N := 60) hx hb hts (mc_ inX12) hown hK g mq0_ kq0_ (by decide) rfl 51 (by decide) rfl (hts _ (List.mem_cons_of_mem _ t_2006)) (fun _ h9 => h9) rfl dX14_readCall_92 (fun a_326 ma_326 ka_326 g => ?_)
                refine lv_aload hx hb dX14_readCall_95 (lv_at hl 3 rfl) ?_
                refine lv_iload hx hb dX14_readCall_97 (lv_at hl 2 rfl) ?_
                refine g_iald hx hb hK g mqn kqn (by decide) rfl (in_bd b_294 (by decide)) dX14_readCall_99 (fun x_327 bx_327 cx_327 => ?_)
                obtain rfl : r_296 = x_327 := (by rw [cx_327, hY_323.at_]; exact (if_pos rfl).symm)
                refine g_iald hx hb hK g ma_326 ka_326 (by decide) rfl (in_bd b_318 (by decide)) dX14_readCall_100 (fun x_328 bx_328 cx_328 => ?_)
                have vx_328 : x_328 = V_303.i 51 r_296.toNatClampNeg := hG_324.at g 0 rfl rfl cx_328
                have b_329 : bd 1 12 x_328 := ev_hb hw_309 hv_310 vx_328
                refine lv_iload hx hb dX14_readCall_101 (lv_at hl 1 rfl) ?_
                refine lv_icmp_le (tgt := 122) hx hb dX14_readCall_103 (by decide) (fun c_330 => ?_) (fun c_330 => ?_)
                · have fc_330 := le_f c_330
                  have b_331 : bd 1 12 v73_12 := leR fc_330 b_329 bv73_12 (by decide)
                  refine lv_iload hx hb dX14_readCall_122 (lv_at hl 1 rfl) ?_
                  refine lv_istore (lv' := [(12, .int v73_12), (13, .int v73_13), (11, .int v73_11), (10, .ref qn), (9, .int x_1), (0, .ref a0_), (1, .int x1_), (2, .int x2_), (3, .long x3_), (5, .long x4_), (7, .int x5_), (8, .int x6_)]) hx hb dX14_readCall_124 hl (by decide) rfl (fun ls hl => ?_)
                  obtain ⟨y_332, ey_332⟩ : ∃ z : Int32, z = v73_11 + 1 := ⟨_, rfl⟩
                  refine lv_iinc (v := y_332) (lv' := [(11, .int y_332), (12, .int v73_12), (13, .int v73_13), (10, .ref qn), (9, .int x_1), (0, .ref a0_), (1, .int x1_), (2, .int x2_), (3, .long x3_), (5, .long x4_), (7, .int x5_), (8, .int x6_)]) hx hb dX14_readCall_126 hl (k := 2) rfl (by rw [ey_332]; rfl) (by decide) rfl (fun ls hl => ?_)
                  have ty_332 := add_bd ey_332 b_294 kb_1 (by decide)
                  have b_333 : bd 1 3 y_332 := add_rg ty_332 b_294 kb_1 (by decide)
                  refine lv_aload_n hx hb dX14_readCall_129 rfl (lv_at hl 5 rfl) ?_
                  refine lv_bipush (v := 44) hx hb dX14_readCall_130 (by decide) ?_
                  have go_ := g
                  refine g_calli (va_runV (As := [.int 44]) (rest := []) ⟨hx, hb, hml, hown, hts⟩ (r_X14_isSign l dC dI L9 kd9 tys f H.size g.2.2.2.1 a0_ ma0_ ka0_ 44) (cwV 1 hts (gV_ t_2435 t_2437 t_108 t_198 t_2438) rfl rfl rfl (by decide +kernel) ⟨(show 0 + 1 ≤ N + 1 + 24 by omega), (show 8 + (2 + 11) + 0 ≤ 60 * (N + 1) + 700 by omega)⟩) (pre3V g hK ma0_ ka0_ (by decide) (q := (RX14, TX14, 67)) rfl) rfl rfl hl.1 rfl (lv_room (Nat.le_of_ble_eq_true rfl)) dX14_readCall_132 (cl_f hck_317)) g hK (by decide) (by decide) (fx' := [(12, 51, q0_, .ref a_326), (14, 25, a0_, .int x_10), (14, 10, a0_, .int x_299), (12, 19, q0_, .ref g46_12_19_q0_), (14, 2, a0_, .ref q0_), (14, 16, a0_, .int o_)]) rfl (fun r_334 fr_334 H locs hp hMr_334 g => ?_)
                  rcases hp with ⟨h_335, -⟩ | ⟨h_336, x_337, h_338, hF_339⟩
                  · have hG_340 := isY.frame hMr_334 go_.2.2.2.1 mqn kqn (by decide) (by decide) hY_323
                    have hG_341 := isV.frame hMr_334 go_.2.2.2.1 mq0_ kq0_ (by decide) (by decide) hG_324
                    have hG_342 := FR.frame hMr_334 go_.2.2.2.1 mq0_ kq0_ (by decide) (by decide) hF_322
                    have hG_343 := cEq.frame hMr_334 go_.2.2.2.1 ma0_ ka0_ (by decide) (by decide) hG_325
                    obtain rfl : r_334 = 0 := h_335
                    refine lv_istore (lv' := [(13, .int 0), (11, .int y_332), (12, .int v73_12), (10, .ref qn), (9, .int x_1), (0, .ref a0_), (1, .int x1_), (2, .int x2_), (3, .long x3_), (5, .long x4_), (7, .int x5_), (8, .int x6_)]) hx hb dX14_readCall_135 hl (by decide) rfl (fun ls hl => ?_)
                    refine lv_iload hx hb dX14_readCall_137 (lv_at hl 0 rfl) ?_
                    refine lv_if_ne (tgt := 145) hx hb dX14_readCall_139 (by decide) (fun c_ => absurd c_ (by decide)) (fun c_ => ?_)
                    refine lv_goto (tgt := 73) hx hb dX14_readCall_142 (by decide) ?_
                    have hl9 := lv_sub hl [0, 2, 1, 3, 4, 5, 6, 7, 8, 9, 10, 11] (by rfl : lv_pick [(13, .int 0), (11, .int y_332), (12, .int v73_12), (10, .ref qn), (9, .int x_1), (0, .ref a0_), (1, .int x1_), (2, .int x2_), (3, .long x3_), (5, .long x4_), (7, .int x5_), (8, .int x6_)] [0, 2, 1, 3, 4, 5, 6, 7, 8, 9, 10, 11] = [(13, .int 0), (12, .int v73_12), (11, .int y_332), (10, .ref qn), (9, .int x_1), (0, .ref a0_), (1, .int x1_), (2, .int x2_), (3, .long x3_), (5, .long x4_), (7, .int x5_), (8, .int x6_)])
                    have g9 := g.sub (fx' := [(12, 19, q0_, .ref g46_12_19_q0_), (14, 10, a0_, .int x_299), (14, 25, a0_, .int x_10), (14, 2, a0_, .ref q0_), (14, 16, a0_, .int o_)]) [3, 2, 1, 4, 5] rfl
                    exact ih73  0 v73_12 y_332 x_299 (bd_sub kb_0 (by decide)) (bd_sub b_331 (by decide)) (bd_sub b_333 (by decide)) h_300 (by have h9_0 := b_331; unfold bd at h9_0; have h9_1 := b_333; unfold bd at h9_1; have h9_2 := bv73_11; unfold bd at h9_2; have h9_3 := bv73_12; unfold bd at h9_3; have h9_4 := bv73_13; unfold bd at h9_4; have h9_5 := bw73_14_10_a0_; unfold bd at h9_5; have h9_6 := h_300; unfold bd at h9_6; have h9_7 := kb_0; unfold bd at h9_7; have h9_8 := kb_1; unfold bd at h9_8; omega) _ _ _ _ _ _ g9 ⟨_, _, _, hG_341, hG_342, hG_343, hx_316, hw_309, (by omega), (by omega), (by omega), (by omega), hck_317, (by omega), hNW, hG_340, (arg_s hA73 hX_308 (EV.at_ hv_310 vx_328) b_294.1 (by have h9_0 := bj73_13; unfold bd at h9_0; have h9_1 := bo_; unfold bd at h9_1; have h9_2 := b_17; unfold bd at h9_2; have h9_3 := b_318; unfold bd at h9_3; have h9_4 := b_16; unfold bd at h9_4; have h9_5 := b_294; unfold bd at h9_5; have h9_6 := b_331; unfold bd at h9_6; have h9_7 := b_293; unfold bd at h9_7; have h9_8 := bw73_14_10_a0_; unfold bd at h9_8; have h9_9 := bx2_; unfold bd at h9_9; have h9_10 := bx6_; unfold bd at h9_10; have h9_11 := bx_1; unfold bd at h9_11; have h9_12 := h_11; unfold bd at h9_12; have h9_13 := h_300; unfold bd at h9_13; have h9_14 := b_329; unfold bd at h9_14; have h9_15 := h_9; unfold bd at h9_15; have h9_16 := b_333; unfold bd at h9_16; have h8_0 := kb_0; unfold bd at h8_0; have h8_1 := kb_1; unfold bd at h8_1; omega) (by have h9_0 := bj73_13; unfold bd at h9_0; have h9_1 := bo_; unfold bd at h9_1; have h9_2 := b_17; unfold bd at h9_2; have h9_3 := b_318; unfold bd at h9_3; have h9_4 := b_16; unfold bd at h9_4; have h9_5 := b_294; unfold bd at h9_5; have h9_6 := b_331; unfold bd at h9_6; have h9_7 := b_293; unfold bd at h9_7; have h9_8 := bw73_14_10_a0_; unfold bd at h9_8; have h9_9 := bx2_; unfold bd at h9_9; have h9_10 := bx6_; unfold bd at h9_10; have h9_11 := bx_1; unfold bd at h9_11; have h9_12 := h_11; unfold bd at h9_12; have h9_13 := h_300; unfold bd at h9_13; have h9_14 := b_329; unfold bd at h9_14; have h9_15 := h_9; unfold bd at h9_15; have h9_16 := b_333; unfold bd at h9_16; have h8_0 := kb_0; unfold bd at h8_0; have h8_1 := kb_1; unfold bd at h8_1; omega) (by have h9_0 := bj73_13; unfold bd at h9_0; have h9_1 := bo_; unfold bd at h9_1; have h9_2 := b_17; unfold bd at h9_2; have h9_3 := b_318; unfold bd at h9_3; have h9_4 := b_16; unfold bd at h9_4; have h9_5 := b_294; unfold bd at h9_5; have h9_6 := b_331; unfold bd at h9_6; have h9_7 := b_293; unfold bd at h9_7; have h9_8 := bw73_14_10_a0_; unfold bd at h9_8; have h9_9 := bx2_; unfold bd at h9_9; have h9_10 := bx6_; unfold bd at h9_10; have h9_11 := bx_1; unfold bd at h9_11; have h9_12 := h_11; unfold bd at h9_12; have h9_13 := h_300; unfold bd at h9_13; have h9_14 := b_329; unfold bd at h9_14; have h9_15 := h_9; unfold bd at h9_15; have h9_16 := b_333; unfold bd at h9_16; have h8_0 := kb_0; unfold bd at h8_0; have h8_1 := kb_1; unfold bd at h8_1; omega)), (by have h9_0 := bj73_13; unfold bd at h9_0; have h9_1 := bo_; unfold bd at h9_1; have h9_2 := b_17; unfold bd at h9_2; have h9_3 := b_318; unfold bd at h9_3; have h9_4 := b_16; unfold bd at h9_4; have h9_5 := b_294; unfold bd at h9_5; have h9_6 := b_331; unfold bd at h9_6; have h9_7 := b_293; unfold bd at h9_7; have h9_8 := bw73_14_10_a0_; unfold bd at h9_8; have h9_9 := bx2_; unfold bd at h9_9; have h9_10 := bx6_; unfold bd at h9_10; have h9_11 := bx_1; unfold bd at h9_11; have h9_12 := h_11; unfold bd at h9_12; have h9_13 := h_300; unfold bd at h9_13; have h9_14 := b_329; unfold bd at h9_14; have h9_15 := h_9; unfold bd at h9_15; have h9_16 := b_333; unfold bd at h9_16; have h8_0 := kb_0; unfold bd at h8_0; have h8_1 := kb_1; unfold bd at h8_1; omega)⟩ hl9
                  · have hG_344 := isY.frame hMr_334 go_.2.2.2.1 mqn kqn (by decide) (by decide) hY_323
                    have hG_345 := isV.frame hMr_334 go_.2.2.2.1 mq0_ kq0_ (by decide) (by decide) hG_324
                    have hG_346 := FR.frame hMr_334 go_.2.2.2.1 mq0_ kq0_ (by decide) (by decide) hF_322
                    have hG_347 := cEq.frame hMr_334 go_.2.2.2.1 ma0_ ka0_ (by decide) (by decide) hG_325
                    obtain rfl : r_334 = 1 := h_336
                    have g := g.more hF_339
                    refine lv_istore (lv' := [(13, .int 1), (11, .int y_332), (12, .int v73_12), (10, .ref qn), (9, .int x_1), (0, .ref a0_), (1, .int x1_), (2, .int x2_), (3, .long x3_), (5, .long x4_), (7, .int x5_), (8, .int x6_)]) hx hb dX14_readCall_135 hl (by decide) rfl (fun ls hl => ?_)
                    refine lv_iload hx hb dX14_readCall_137 (lv_at hl 0 rfl) ?_
                    refine lv_if_ne (tgt := 145) hx hb dX14_readCall_139 (by decide) (fun c_ => ?_) (fun c_ => absurd c_ (by decide))
                    refine lv_aload_n hx hb dX14_readCall_145 rfl (lv_at hl 5 rfl) ?_
                    have hs_348 := sE_1 g 0 rfl (by have h9_0 := bj73_13; unfold bd at h9_0; have h9_1 := bo_; unfold bd at h9_1; have h9_2 := b_17; unfold bd at h9_2; have h9_3 := b_318; unfold bd at h9_3; have h9_4 := b_16; unfold bd at h9_4; have h9_5 := b_294; unfold bd at h9_5; have h9_6 := b_331; unfold bd at h9_6; have h9_7 := b_293; unfold bd at h9_7; have h9_8 := bw73_14_10_a0_; unfold bd at h9_8; have h9_9 := bx2_; unfold bd at h9_9; have h9_10 := bx6_; unfold bd at h9_10; have h9_11 := bx_1; unfold bd at h9_11; have h9_12 := h_11; unfold bd at h9_12; have h9_13 := h_300; unfold bd at h9_13; have h9_14 := b_329; unfold bd at h9_14; have h9_15 := h_338; unfold bd at h9_15; have h9_16 := h_9; unfold bd at h9_16; have h9_17 := b_333; unfold bd at h9_17; have h8_0 := kb_0; unfold bd at h8_0; have h8_1 := kb_1; unfold bd at h8_1; omega)
                    have go_ := g
                    refine g_callEv (As := []) (rest := []) ⟨hx, hb, hml, hown, hts⟩ (r_X14_room l dC dI L9 kd9 tys fr_334 H.size g.2.2.2.1 a0_ ma0_ ka0_) (cwV 0 hts (gV_ t_2415 t_2417 t_103 t_198 t_2418) rfl rfl rfl (by decide +kernel) ⟨(show 2 + 1 ≤ N + 1 + 24 by omega), (show 8 + (1 + 11) + 45 ≤ 60 * (N + 1) + 700 by omega)⟩) (pre3V g hK ma0_ ka0_ (by decide) (q := (RX14, TX14, 67)) rfl) rfl hl.1 rfl (lv_room (Nat.le_of_ble_eq_true rfl)) dX14_readCall_146 (cl_f hck_317) g hK (by decide) (by decide) (fx' := [(14, 6, a0_, .int x_337), (12, 51, q0_, .ref a_326), (14, 25, a0_, .int x_10), (14, 10, a0_, .int x_299), (12, 19, q0_, .ref g46_12_19_q0_), (14, 2, a0_, .ref q0_), (14, 16, a0_, .int o_)]) rfl (fun xr_349 fr_349 H locs mxr_349 kxr_349 hp hMr_349 g => ?_) (fun fr_349 H locs hp hMr_349 g => ?_)
                    · have hG_350 := isY.frame hMr_349 go_.2.2.2.1 mqn kqn (by decide) (by decide) hG_344
                      have hG_351 := isV.frame hMr_349 go_.2.2.2.1 mq0_ kq0_ (by decide) (by decide) hG_345
                      have hG_352 := FR.frame hMr_349 go_.2.2.2.1 mq0_ kq0_ (by decide) (by decide) hG_346
                      have hG_353 := cEq.frame hMr_349 go_.2.2.2.1 ma0_ ka0_ (by decide) (by decide) hG_347
                      obtain ⟨mo9, ko9⟩ := NW.old hNW mxr_349 kxr_349 (by decide)
                      have g := NW.drop hNW (g.sub (fx' := []) [] rfl) (fun x h9 => by cases h9)
                      subst hQ
                      exact leavesX hempty hlocks (fun t ht hW => g_thrX g hK mo9 ko9 (by omega) ht hW) g.2.2.1.2.2
                    · obtain ⟨x_354, h_355, hF_356⟩ := hp
                      have hG_357 := isY.frame hMr_349 go_.2.2.2.1 mqn kqn (by decide) (by decide) hG_344
                      have hG_358 := isV.frame hMr_349 go_.2.2.2.1 mq0_ kq0_ (by decide) (by decide) hG_345
                      have hG_359 := FR.frame hMr_349 go_.2.2.2.1 mq0_ kq0_ (by decide) (by decide) hG_346
                      have hG_360 := cEq.frame hMr_349 go_.2.2.2.1 ma0_ ka0_ (by decide) (by decide) hG_347
                      have g := g.more hF_356
                      have e_361 := fx_same g 4 0 rfl rfl
                      have b_362 : bd 0 1200 x_299 := eqX (eq_f e_361.symm) h_300 h_355 (by decide)
                      have g := g.sub (fx' := [(14, 6, a0_, .int x_337), (12, 51, q0_, .ref a_326), (14, 25, a0_, .int x_10), (14, 10, a0_, .int x_299), (12, 19, q0_, .ref g46_12_19_q0_), (14, 2, a0_, .ref q0_), (14, 16, a0_, .int o_)]) [1, 2, 3, 4, 5, 6, 7] rfl
                      refine lv_aload_n hx hb dX14_readCall_149 rfl (lv_at hl 5 rfl) ?_
                      refine lv_iload hx hb dX14_readCall_150 (lv_at hl 1 rfl) ?_
                      refine lv_aload_n hx hb dX14_readCall_152 rfl (lv_at hl 5 rfl) ?_
                      refine g_getk (C := RX14) (T := TX14) (N := 67) hx hb hts (mc_ inX14) hown hK g rfl 2 (by decide) rfl (hts _ (List.mem_cons_of_mem _ t_2148)) (fun _ h9 => h9) 5 rfl dX14_readCall_153 ?_
                      refine g_getk (C := RX12) (T := TX12) (N := 60) hx hb hts (mc_ inX12) hown hK g rfl 19 (by decide) rfl (hts _ (List.mem_cons_of_mem _ t_1944)) (fun _ h9 => h9) 4 rfl dX14_readCall_156 ?_
                      refine lv_iload_n hx hb dX14_readCall_159 rfl (lv_at hl 7 rfl) ?_
                      refine g_iald hx hb hK g mg46_12_19_q0_ kg46_12_19_q0_ (by decide) rfl (in_bd bx2_ (by decide)) dX14_readCall_160 (fun x_363 bx_363 cx_363 => ?_)
                      have vx_363 : x_363 = V_303.i 19 x2_.toNatClampNeg := hG_358.at g 4 rfl rfl cx_363
                      refine lv_icmp_ge (tgt := 168) hx hb dX14_readCall_161 (by decide) (fun c_364 => ?_) (fun c_364 => ?_)
                      · have fc_364 := le_f c_364
                        refine lv_iconst (v := 0) hx hb dX14_readCall_168 (by decide) ?_
                        refine lv_bipush (v := 6) hx hb dX14_readCall_169 (by decide) ?_
                        refine lv_aload_n hx hb dX14_readCall_171 rfl (lv_at hl 5 rfl) ?_
                        refine g_geti (C := RX14) (T := TX14) (N := 67) hx hb hts (mc_ inX14) hown hK g ma0_ ka0_ (by decide) rfl 8 (by decide) rfl (hts _ (List.mem_cons_of_mem _ t_2154)) (fun _ h9 => h9) rfl dX14_readCall_172 (fun x_365 bx_365 g => ?_)
                        have hs_366 := sE_1 g 1 rfl (by have h9_0 := bj73_13; unfold bd at h9_0; have h9_1 := bo_; unfold bd at h9_1; have h9_2 := b_17; unfold bd at h9_2; have h9_3 := b_318; unfold bd at h9_3; have h9_4 := b_16; unfold bd at h9_4; have h9_5 := b_294; unfold bd at h9_5; have h9_6 := b_331; unfold bd at h9_6; have h9_7 := b_293; unfold bd at h9_7; have h9_8 := bw73_14_10_a0_; unfold bd at h9_8; have h9_9 := bx2_; unfold bd at h9_9; have h9_10 := bx6_; unfold bd at h9_10; have h9_11 := bx_1; unfold bd at h9_11; have h9_12 := h_11; unfold bd at h9_12; have h9_13 := b_362; unfold bd at h9_13; have h9_14 := b_329; unfold bd at h9_14; have h9_15 := h_338; unfold bd at h9_15; have h9_16 := h_355; unfold bd at h9_16; have h9_17 := bx_363; unfold bd at h9_17; have h9_18 := bx_365; unfold bd at h9_18; have h9_19 := h_9; unfold bd at h9_19; have h9_20 := b_333; unfold bd at h9_20; have h8_0 := kb_0; unfold bd at h8_0; have h8_1 := kb_1; unfold bd at h8_1; omega)
                        have go_ := g
                        refine g_callEv (As := [.int 0, .int 6, .int x_365]) (rest := []) ⟨hx, hb, hml, hown, hts⟩ (r_X14_need_2 l dC dI L9 kd9 tys fr_349 H.size g.2.2.2.1 a0_ ma0_ ka0_ 0 kb_0 6 x_365) (cwV 3 hts (gV_ t_2403 t_2405 t_100 t_198 t_2406) rfl rfl rfl (by decide +kernel) ⟨(show 1 + 1 ≤ N + 1 + 24 by omega), (show 8 + (4 + 11) + 22 ≤ 60 * (N + 1) + 700 by omega)⟩) (pre3V g hK ma0_ ka0_ (by decide) (q := (RX14, TX14, 67)) rfl) rfl hl.1 rfl (lv_room (Nat.le_of_ble_eq_true rfl)) dX14_readCall_175 (cl_f hck_317) g hK (by decide) (by decide) (fx' := [(14, 8, a0_, .int x_365), (14, 6, a0_, .int x_337), (12, 51, q0_, .ref a_326), (14, 25, a0_, .int x_10), (14, 10, a0_, .int x_299), (12, 19, q0_, .ref g46_12_19_q0_), (14, 2, a0_, .ref q0_), (14, 16, a0_, .int o_)]) rfl (fun xr_367 fr_367 H locs mxr_367 kxr_367 hp hMr_367 g => ?_) (fun fr_367 H locs hp hMr_367 g => ?_)
                        · have hG_368 := isY.frame hMr_367 go_.2.2.2.1 mqn kqn (by decide) (by decide) hG_357
                          have hG_369 := isV.frame hMr_367 go_.2.2.2.1 mq0_ kq0_ (by decide) (by decide) hG_358
                          have hG_370 := FR.frame hMr_367 go_.2.2.2.1 mq0_ kq0_ (by decide) (by decide) hG_359
                          have hG_371 := cEq.frame hMr_367 go_.2.2.2.1 ma0_ ka0_ (by decide) (by decide) hG_360
                          obtain ⟨mo9, ko9⟩ := NW.old hNW mxr_367 kxr_367 (by decide)
                          have g := NW.drop hNW (g.sub (fx' := []) [] rfl) (fun x h9 => by cases h9)
                          subst hQ
                          exact leavesX hempty hlocks (fun t ht hW => g_thrX g hK mo9 ko9 (by omega) ht hW) g.2.2.1.2.2
                        · exact hp.elim
                      · have fc_364 := nle_f c_364
                        have b_372 : bd 1 2 y_332 := ltL fc_364 b_333 bx_363 (by decide)
                        have b_373 : bd 0 1 v73_11 := add_inv ty_332 b_372 b_294 kb_1 (by decide)
                        have b_374 : bd 2 3 x_363 := ltR fc_364 b_333 bx_363 (by decide)
                        refine lv_iconst (v := 1) hx hb dX14_readCall_164 (by decide) ?_
                        refine lv_goto (tgt := 169) hx hb dX14_readCall_165 (by decide) ?_
                        refine lv_bipush (v := 6) hx hb dX14_readCall_169 (by decide) ?_
                        refine lv_aload_n hx hb dX14_readCall_171 rfl (lv_at hl 5 rfl) ?_
                        refine g_geti (C := RX14) (T := TX14) (N := 67) hx hb hts (mc_ inX14) hown hK g ma0_ ka0_ (by decide) rfl 8 (by decide) rfl (hts _ (List.mem_cons_of_mem _ t_2154)) (fun _ h9 => h9) rfl dX14_readCall_172 (fun x_375 bx_375 g => ?_)
                        have hs_376 := sE_1 g 1 rfl (by have h9_0 := bj73_13; unfold bd at h9_0; have h9_1 := bo_; unfold bd at h9_1; have h9_2 := b_17; unfold bd at h9_2; have h9_3 := b_318; unfold bd at h9_3; have h9_4 := b_16; unfold bd at h9_4; have h9_5 := b_373; unfold bd at h9_5; have h9_6 := b_331; unfold bd at h9_6; have h9_7 := b_293; unfold bd at h9_7; have h9_8 := bw73_14_10_a0_; unfold bd at h9_8; have h9_9 := bx2_; unfold bd at h9_9; have h9_10 := bx6_; unfold bd at h9_10; have h9_11 := bx_1; unfold bd at h9_11; have h9_12 := h_11; unfold bd at h9_12; have h9_13 := b_362; unfold bd at h9_13; have h9_14 := b_329; unfold bd at h9_14; have h9_15 := h_338; unfold bd at h9_15; have h9_16 := h_355; unfold bd at h9_16; have h9_17 := b_374; unfold bd at h9_17; have h9_18 := bx_375; unfold bd at h9_18; have h9_19 := h_9; unfold bd at h9_19; have h9_20 := b_372; unfold bd at h9_20; have h8_0 := kb_0; unfold bd at h8_0; have h8_1 := kb_1; unfold bd at h8_1; omega)
                        have go_ := g
                        refine g_callEv (As := [.int 1, .int 6, .int x_375]) (rest := []) ⟨hx, hb, hml, hown, hts⟩ (r_X14_need_3 l dC dI L9 kd9 tys fr_349 H.size g.2.2.2.1 a0_ ma0_ ka0_ 1 kb_1 6 x_375) (cwV 3 hts (gV_ t_2403 t_2405 t_100 t_198 t_2406) rfl rfl rfl (by decide +kernel) ⟨(show 0 + 1 ≤ N + 1 + 24 by omega), (show 8 + (4 + 11) + 0 ≤ 60 * (N + 1) + 700 by omega)⟩) (pre3V g hK ma0_ ka0_ (by decide) (q := (RX14, TX14, 67)) rfl) rfl hl.1 rfl (lv_room (Nat.le_of_ble_eq_true rfl)) dX14_readCall_175 (cl_f hck_317) g hK (by decide) (by decide) (fx' := [(14, 8, a0_, .int x_375), (14, 6, a0_, .int x_337), (12, 51, q0_, .ref a_326), (14, 25, a0_, .int x_10), (14, 10, a0_, .int x_299), (12, 19, q0_, .ref g46_12_19_q0_), (14, 2, a0_, .ref q0_), (14, 16, a0_, .int o_)]) rfl (fun xr_377 fr_377 H locs mxr_377 kxr_377 hp hMr_377 g => ?_) (fun fr_377 H locs hp hMr_377 g => ?_)
                        · have hG_378 := isY.frame hMr_377 go_.2.2.2.1 mqn kqn (by decide) (by decide) hG_357
                          have hG_379 := isV.frame hMr_377 go_.2.2.2.1 mq0_ kq0_ (by decide) (by decide) hG_358
                          have hG_380 := FR.frame hMr_377 go_.2.2.2.1 mq0_ kq0_ (by decide) (by decide) hG_359
                          have hG_381 := cEq.frame hMr_377 go_.2.2.2.1 ma0_ ka0_ (by decide) (by decide) hG_360
                          exact hp.elim
                        · have hG_382 := isY.frame hMr_377 go_.2.2.2.1 mqn kqn (by decide) (by decide) hG_357
                          have hG_383 := isV.frame hMr_377 go_.2.2.2.1 mq0_ kq0_ (by decide) (by decide) hG_358
                          have hG_384 := FR.frame hMr_377 go_.2.2.2.1 mq0_ kq0_ (by decide) (by decide) hG_359
                          have hG_385 := cEq.frame hMr_377 go_.2.2.2.1 ma0_ ka0_ (by decide) (by decide) hG_360
                          refine lv_aload_n hx hb dX14_readCall_178 rfl (lv_at hl 5 rfl) ?_
                          have hs_386 := sE_1 g 1 rfl (by have h9_0 := bj73_13; unfold bd at h9_0; have h9_1 := bo_; unfold bd at h9_1; have h9_2 := b_17; unfold bd at h9_2; have h9_3 := b_318; unfold bd at h9_3; have h9_4 := b_16; unfold bd at h9_4; have h9_5 := b_373; unfold bd at h9_5; have h9_6 := b_331; unfold bd at h9_6; have h9_7 := b_293; unfold bd at h9_7; have h9_8 := bw73_14_10_a0_; unfold bd at h9_8; have h9_9 := bx2_; unfold bd at h9_9; have h9_10 := bx6_; unfold bd at h9_10; have h9_11 := bx_1; unfold bd at h9_11; have h9_12 := h_11; unfold bd at h9_12; have h9_13 := b_362; unfold bd at h9_13; have h9_14 := b_329; unfold bd at h9_14; have h9_15 := h_338; unfold bd at h9_15; have h9_16 := h_355; unfold bd at h9_16; have h9_17 := b_374; unfold bd at h9_17; have h9_18 := bx_375; unfold bd at h9_18; have h9_19 := h_9; unfold bd at h9_19; have h9_20 := b_372; unfold bd at h9_20; have h8_0 := kb_0; unfold bd at h8_0; have h8_1 := kb_1; unfold bd at h8_1; omega)
                          have go_ := g
                          refine g_callEv (As := []) (rest := []) ⟨hx, hb, hml, hown, hts⟩ (r_X14_next_2 l dC dI L9 kd9 tys fr_377 H.size g.2.2.2.1 adK adV a0_ ma0_ ka0_ x_299 (bd_sub b_362 (by decide)) (g.fcts [4] rfl)) (cwV 0 hts (gV_ t_2411 t_2413 t_102 t_198 t_2414) rfl rfl rfl (by decide +kernel) ⟨(show 6 + 1 ≤ N + 1 + 24 by omega), (show 8 + (1 + 11) + 135 ≤ 60 * (N + 1) + 700 by omega)⟩) (pre3VA g hK hAm ma0_ ka0_ (by decide) (q := (RX14, TX14, 67)) rfl) rfl hl.1 rfl (lv_room (Nat.le_of_ble_eq_true rfl)) dX14_readCall_179 (cl_f hck_317) g hK (by decide) (by decide) (fx' := [(12, 51, q0_, .ref a_326), (14, 25, a0_, .int x_10), (12, 19, q0_, .ref g46_12_19_q0_), (14, 2, a0_, .ref q0_), (14, 16, a0_, .int o_)]) rfl (fun xr_387 fr_387 H locs mxr_387 kxr_387 hp hMr_387 g => ?_) (fun fr_387 H locs hp hMr_387 g => ?_)
                          · have hG_388 := isY.frame hMr_387 go_.2.2.2.1 mqn kqn (by decide) (by decide) hG_382
                            have hG_389 := isV.frame hMr_387 go_.2.2.2.1 mq0_ kq0_ (by decide) (by decide) hG_383
                            have hG_390 := FR.frame hMr_387 go_.2.2.2.1 mq0_ kq0_ (by decide) (by decide) hG_384
                            obtain ⟨mo9, ko9⟩ := NW.old hNW mxr_387 kxr_387 (by decide)
                            have g := NW.drop hNW (g.sub (fx' := []) [] rfl) (fun x h9 => by cases h9)
                            subst hQ
                            exact leavesX hempty hlocks (fun t ht hW => g_thrX g hK mo9 ko9 (by omega) ht hW) g.2.2.1.2.2
                          · obtain ⟨hx_391, h_392, x_393, h_394, hF_395⟩ := hp
                            have hG_396 := isY.frame hMr_387 go_.2.2.2.1 mqn kqn (by decide) (by decide) hG_382
                            have hG_397 := isV.frame hMr_387 go_.2.2.2.1 mq0_ kq0_ (by decide) (by decide) hG_383
                            have hG_398 := FR.frame hMr_387 go_.2.2.2.1 mq0_ kq0_ (by decide) (by decide) hG_384
                            obtain ⟨E_399, hE_399⟩ : ∃ E : Int, cEq fr_387 a0_ E := ⟨_, rfl⟩
                            have mxE_399 : E_399 ≤ 1202 := by have h9 := cF_le g ma0_ ka0_; have h8 : cF _ _ = _ := hE_399; omega
                            have lE_399 : E_304 + 1 ≤ E_399 := by have h9 := hx_391; have h8 : cF _ _ = _ := hE_399; have h7 : cF _ _ = _ := hG_385; have h6 := hs_386; have h5 := tk_c (f := fr_377) (t := a0_); omega
                            have g := g.more hF_395
                            refine lv_goto (tgt := 73) hx hb dX14_readCall_182 (by decide) ?_
                            have hl9 := lv_sub hl [0, 2, 1, 3, 4, 5, 6, 7, 8, 9, 10, 11] (by rfl : lv_pick [(13, .int 1), (11, .int y_332), (12, .int v73_12), (10, .ref qn), (9, .int x_1), (0, .ref a0_), (1, .int x1_), (2, .int x2_), (3, .long x3_), (5, .long x4_), (7, .int x5_), (8, .int x6_)] [0, 2, 1, 3, 4, 5, 6, 7, 8, 9, 10, 11] = [(13, .int 1), (12, .int v73_12), (11, .int y_332), (10, .ref qn), (9, .int x_1), (0, .ref a0_), (1, .int x1_), (2, .int x2_), (3, .long x3_), (5, .long x4_), (7, .int x5_), (8, .int x6_)])
                            have g9 := g.sub (fx' := [(12, 19, q0_, .ref g46_12_19_q0_), (14, 10, a0_, .int x_393), (14, 25, a0_, .int x_10), (14, 2, a0_, .ref q0_), (14, 16, a0_, .int o_)]) [3, 0, 2, 4, 5] rfl
                            exact ih73  1 v73_12 y_332 x_393 (bd_sub kb_1 (by decide)) (bd_sub b_331 (by decide)) (bd_sub b_372 (by decide)) h_394 (by have h9_0 := b_331; unfold bd at h9_0; have h9_1 := b_372; unfold bd at h9_1; have h9_2 := bv73_11; unfold bd at h9_2; have h9_3 := bv73_12; unfold bd at h9_3; have h9_4 := bv73_13; unfold bd at h9_4; have h9_5 := bw73_14_10_a0_; unfold bd at h9_5; have h9_6 := h_394; unfold bd at h9_6; have h9_7 := kb_0; unfold bd at h9_7; have h9_8 := kb_1; unfold bd at h9_8; omega) _ _ _ _ _ _ g9 ⟨_, _, _, hG_397, hG_398, hE_399, hx_316, hw_309, (by omega), (by omega), (by omega), (by omega), hck_317, (by omega), hNW, hG_396, (arg_s hA73 hX_308 (EV.at_ hv_310 vx_328) b_373.1 (by have h9_0 := bj73_13; unfold bd at h9_0; have h9_1 := bo_; unfold bd at h9_1; have h9_2 := b_17; unfold bd at h9_2; have h9_3 := b_318; unfold bd at h9_3; have h9_4 := b_16; unfold bd at h9_4; have h9_5 := b_373; unfold bd at h9_5; have h9_6 := b_331; unfold bd at h9_6; have h9_7 := b_293; unfold bd at h9_7; have h9_8 := bw73_14_10_a0_; unfold bd at h9_8; have h9_9 := bx2_; unfold bd at h9_9; have h9_10 := bx6_; unfold bd at h9_10; have h9_11 := bx_1; unfold bd at h9_11; have h9_12 := h_11; unfold bd at h9_12; have h9_13 := b_362; unfold bd at h9_13; have h9_14 := b_329; unfold bd at h9_14; have h9_15 := h_338; unfold bd at h9_15; have h9_16 := h_355; unfold bd at h9_16; have h9_17 := b_374; unfold bd at h9_17; have h9_18 := bx_375; unfold bd at h9_18; have h9_19 := h_394; unfold bd at h9_19; have h9_20 := h_9; unfold bd at h9_20; have h9_21 := b_372; unfold bd at h9_21; have h8_0 := kb_0; unfold bd at h8_0; have h8_1 := kb_1; unfold bd at h8_1; omega) (by have h9_0 := bj73_13; unfold bd at h9_0; have h9_1 := bo_; unfold bd at h9_1; have h9_2 := b_17; unfold bd at h9_2; have h9_3 := b_318; unfold bd at h9_3; have h9_4 := b_16; unfold bd at h9_4; have h9_5 := b_373; unfold bd at h9_5; have h9_6 := b_331; unfold bd at h9_6; have h9_7 := b_293; unfold bd at h9_7; have h9_8 := bw73_14_10_a0_; unfold bd at h9_8; have h9_9 := bx2_; unfold bd at h9_9; have h9_10 := bx6_; unfold bd at h9_10; have h9_11 := bx_1; unfold bd at h9_11; have h9_12 := h_11; unfold bd at h9_12; have h9_13 := b_362; unfold bd at h9_13; have h9_14 := b_329; unfold bd at h9_14; have h9_15 := h_338; unfold bd at h9_15; have h9_16 := h_355; unfold bd at h9_16; have h9_17 := b_374; unfold bd at h9_17; have h9_18 := bx_375; unfold bd at h9_18; have h9_19 := h_394; unfold bd at h9_19; have h9_20 := h_9; unfold bd at h9_20; have h9_21 := b_372; unfold bd at h9_21; have h8_0 := kb_0; unfold bd at h8_0; have h8_1 := kb_1; unfold bd at h8_1; omega) (by have h9_0 := bj73_13; unfold bd at h9_0; have h9_1 := bo_; unfold bd at h9_1; have h9_2 := b_17; unfold bd at h9_2; have h9_3 := b_318; unfold bd at h9_3; have h9_4 := b_16; unfold bd at h9_4; have h9_5 := b_373; unfold bd at h9_5; have h9_6 := b_331; unfold bd at h9_6; have h9_7 := b_293; unfold bd at h9_7; have h9_8 := bw73_14_10_a0_; unfold bd at h9_8; have h9_9 := bx2_; unfold bd at h9_9; have h9_10 := bx6_; unfold bd at h9_10; have h9_11 := bx_1; unfold bd at h9_11; have h9_12 := h_11; unfold bd at h9_12; have h9_13 := b_362; unfold bd at h9_13; have h9_14 := b_329; unfold bd at h9_14; have h9_15 := h_338; unfold bd at h9_15; have h9_16 := h_355; unfold bd at h9_16; have h9_17 := b_374; unfold bd at h9_17; have h9_18 := bx_375; unfold bd at h9_18; have h9_19 := h_394; unfold bd at h9_19; have h9_20 := h_9; unfold bd at h9_20; have h9_21 := b_372; unfold bd at h9_21; have h8_0 := kb_0; unfold bd at h8_0; have h8_1 := kb_1; unfold bd at h8_1; omega)), (by have h9_0 := bj73_13; unfold bd at h9_0; have h9_1 := bo_; unfold bd at h9_1; have h9_2 := b_17; unfold bd at h9_2; have h9_3 := b_318; unfold bd at h9_3; have h9_4 := b_16; unfold bd at h9_4; have h9_5 := b_373; unfold bd at h9_5; have h9_6 := b_331; unfold bd at h9_6; have h9_7 := b_293; unfold bd at h9_7; have h9_8 := bw73_14_10_a0_; unfold bd at h9_8; have h9_9 := bx2_; unfold bd at h9_9; have h9_10 := bx6_; unfold bd at h9_10; have h9_11 := bx_1; unfold bd at h9_11; have h9_12 := h_11; unfold bd at h9_12; have h9_13 := b_362; unfold bd at h9_13; have h9_14 := b_329; unfold bd at h9_14; have h9_15 := h_338; unfold bd at h9_15; have h9_16 := h_355; unfold bd at h9_16; have h9_17 := b_374; unfold bd at h9_17; have h9_18 := bx_375; unfold bd at h9_18; have h9_19 := h_394; unfold bd at h9_19; have h9_20 := h_9; unfold bd at h9_20; have h9_21 := b_372; unfold bd at h9_21; have h8_0 := kb_0; unfold bd at h8_0; have h8_1 := kb_1; unfold bd at h8_1; omega)⟩ hl9
                · have fc_330 := nle_f c_330
                  have b_400 : bd 0 11 v73_12 := ltL fc_330 bv73_12 b_329 (by decide)
                  refine lv_aload_n hx hb dX14_readCall_106 rfl (lv_at hl 5 rfl) ?_
                  refine g_getk (C := RX14) (T := TX14) (N := 67) hx hb hts (mc_ inX14) hown hK g rfl 2 (by decide) rfl (hts _ (List.mem_cons_of_mem _ t_2148)) (fun _ h9 => h9) 4 rfl dX14_readCall_107 ?_
                  refine g_getk (C := RX12) (T := TX12) (N := 60) hx hb hts (mc_ inX12) hown hK g rfl 51 (by decide) rfl (hts _ (List.mem_cons_of_mem _ t_2006)) (fun _ h9 => h9) 0 rfl dX14_readCall_110 ?_
                  refine lv_aload hx hb dX14_readCall_113 (lv_at hl 3 rfl) ?_
                  refine lv_iload hx hb dX14_readCall_115 (lv_at hl 2 rfl) ?_
                  refine g_iald hx hb hK g mqn kqn (by decide) rfl (in_bd b_294 (by decide)) dX14_readCall_117 (fun x_401 bx_401 cx_401 => ?_)
                  obtain rfl : r_296 = x_401 := (by rw [cx_401, hY_323.at_]; exact (if_pos rfl).symm)
                  refine g_iald hx hb hK g ma_326 ka_326 (by decide) rfl (in_bd b_318 (by decide)) dX14_readCall_118 (fun x_402 bx_402 cx_402 => ?_)
                  obtain rfl : x_328 = x_402 := el_same cx_328 cx_402 rfl
                  refine lv_goto (tgt := 124) hx hb dX14_readCall_119 (by decide) ?_
                  refine lv_istore (lv' := [(12, .int x_328), (13, .int v73_13), (11, .int v73_11), (10, .ref qn), (9, .int x_1), (0, .ref a0_), (1, .int x1_), (2, .int x2_), (3, .long x3_), (5, .long x4_), (7, .int x5_), (8, .int x6_)]) hx hb dX14_readCall_124 hl (by decide) rfl (fun ls hl => ?_)
                  obtain ⟨y_403, ey_403⟩ : ∃ z : Int32, z = v73_11 + 1 := ⟨_, rfl⟩
                  refine lv_iinc (v := y_403) (lv' := [(11, .int y_403), (12, .int x_328), (13, .int v73_13), (10, .ref qn), (9, .int x_1), (0, .ref a0_), (1, .int x1_), (2, .int x2_), (3, .long x3_), (5, .long x4_), (7, .int x5_), (8, .int x6_)]) hx hb dX14_readCall_126 hl (k := 2) rfl (by rw [ey_403]; rfl) (by decide) rfl (fun ls hl => ?_)
                  have ty_403 := add_bd ey_403 b_294 kb_1 (by decide)
                  have b_404 : bd 1 3 y_403 := add_rg ty_403 b_294 kb_1 (by decide)
                  refine lv_aload_n hx hb dX14_readCall_129 rfl (lv_at hl 5 rfl) ?_
                  refine lv_bipush (v := 44) hx hb dX14_readCall_130 (by decide) ?_
                  have go_ := g
                  refine g_calli (va_runV (As := [.int 44]) (rest := []) ⟨hx, hb, hml, hown, hts⟩ (r_X14_isSign l dC dI L9 kd9 tys f H.size g.2.2.2.1 a0_ ma0_ ka0_ 44) (cwV 1 hts (gV_ t_2435 t_2437 t_108 t_198 t_2438) rfl rfl rfl (by decide +kernel) ⟨(show 0 + 1 ≤ N + 1 + 24 by omega), (show 8 + (2 + 11) + 0 ≤ 60 * (N + 1) + 700 by omega)⟩) (pre3V g hK ma0_ ka0_ (by decide) (q := (RX14, TX14, 67)) rfl) rfl rfl hl.1 rfl (lv_room (Nat.le_of_ble_eq_true rfl)) dX14_readCall_132 (cl_f hck_317)) g hK (by decide) (by decide) (fx' := [(12, 51, q0_, .ref a_326), (14, 25, a0_, .int x_10), (14, 10, a0_, .int x_299), (12, 19, q0_, .ref g46_12_19_q0_), (14, 2, a0_, .ref q0_), (14, 16, a0_, .int o_)]) rfl (fun r_405 fr_405 H locs hp hMr_405 g => ?_)
                  rcases hp with ⟨h_406, -⟩ | ⟨h_407, x_408, h_409, hF_410⟩
                  · have hG_411 := isY.frame hMr_405 go_.2.2.2.1 mqn kqn (by decide) (by decide) hY_323
                    have hG_412 := isV.frame hMr_405 go_.2.2.2.1 mq0_ kq0_ (by decide) (by decide) hG_324
                    have hG_413 := FR.frame hMr_405 go_.2.2.2.1 mq0_ kq0_ (by decide) (by decide) hF_322
                    have hG_414 := cEq.frame hMr_405 go_.2.2.2.1 ma0_ ka0_ (by decide) (by decide) hG_325
                    obtain rfl : r_405 = 0 := h_406
                    refine lv_istore (lv' := [(13, .int 0), (11, .int y_403), (12, .int x_328), (10, .ref qn), (9, .int x_1), (0, .ref a0_), (1, .int x1_), (2, .int x2_), (3, .long x3_), (5, .long x4_), (7, .int x5_), (8, .int x6_)]) hx hb dX14_readCall_135 hl (by decide) rfl (fun ls hl => ?_)
                    refine lv_iload hx hb dX14_readCall_137 (lv_at hl 0 rfl) ?_
                    refine lv_if_ne (tgt := 145) hx hb dX14_readCall_139 (by decide) (fun c_ => absurd c_ (by decide)) (fun c_ => ?_)
                    refine lv_goto (tgt := 73) hx hb dX14_readCall_142 (by decide) ?_
                    have hl9 := lv_sub hl [0, 2, 1, 3, 4, 5, 6, 7, 8, 9, 10, 11] (by rfl : lv_pick [(13, .int 0), (11, .int y_403), (12, .int x_328), (10, .ref qn), (9, .int x_1), (0, .ref a0_), (1, .int x1_), (2, .int x2_), (3, .long x3_), (5, .long x4_), (7, .int x5_), (8, .int x6_)] [0, 2, 1, 3, 4, 5, 6, 7, 8, 9, 10, 11] = [(13, .int 0), (12, .int x_328), (11, .int y_403), (10, .ref qn), (9, .int x_1), (0, .ref a0_), (1, .int x1_), (2, .int x2_), (3, .long x3_), (5, .long x4_), (7, .int x5_), (8, .int x6_)])
                    have g9 := g.sub (fx' := [(12, 19, q0_, .ref g46_12_19_q0_), (14, 10, a0_, .int x_299), (14, 25, a0_, .int x_10), (14, 2, a0_, .ref q0_), (14, 16, a0_, .int o_)]) [3, 2, 1, 4, 5] rfl
                    exact ih73  0 x_328 y_403 x_299 (bd_sub kb_0 (by decide)) (bd_sub b_329 (by decide)) (bd_sub b_404 (by decide)) h_300 (by have h9_0 := b_329; unfold bd at h9_0; have h9_1 := b_404; unfold bd at h9_1; have h9_2 := bv73_11; unfold bd at h9_2; have h9_3 := bv73_12; unfold bd at h9_3; have h9_4 := bv73_13; unfold bd at h9_4; have h9_5 := bw73_14_10_a0_; unfold bd at h9_5; have h9_6 := h_300; unfold bd at h9_6; have h9_7 := kb_0; unfold bd at h9_7; have h9_8 := kb_1; unfold bd at h9_8; omega) _ _ _ _ _ _ g9 ⟨_, _, _, hG_412, hG_413, hG_414, hx_316, hw_309, (by omega), (by omega), (by omega), (by omega), hck_317, (by omega), hNW, hG_411, (arg_s hA73 hX_308 (EV.at_ hv_310 vx_328) b_294.1 (by have h9_0 := bj73_13; unfold bd at h9_0; have h9_1 := bo_; unfold bd at h9_1; have h9_2 := b_17; unfold bd at h9_2; have h9_3 := b_318; unfold bd at h9_3; have h9_4 := b_16; unfold bd at h9_4; have h9_5 := b_294; unfold bd at h9_5; have h9_6 := b_400; unfold bd at h9_6; have h9_7 := b_293; unfold bd at h9_7; have h9_8 := bw73_14_10_a0_; unfold bd at h9_8; have h9_9 := bx2_; unfold bd at h9_9; have h9_10 := bx6_; unfold bd at h9_10; have h9_11 := bx_1; unfold bd at h9_11; have h9_12 := h_11; unfold bd at h9_12; have h9_13 := h_300; unfold bd at h9_13; have h9_14 := b_329; unfold bd at h9_14; have h9_15 := h_9; unfold bd at h9_15; have h9_16 := b_404; unfold bd at h9_16; have h8_0 := kb_0; unfold bd at h8_0; have h8_1 := kb_1; unfold bd at h8_1; omega) (by have h9_0 := bj73_13; unfold bd at h9_0; have h9_1 := bo_; unfold bd at h9_1; have h9_2 := b_17; unfold bd at h9_2; have h9_3 := b_318; unfold bd at h9_3; have h9_4 := b_16; unfold bd at h9_4; have h9_5 := b_294; unfold bd at h9_5; have h9_6 := b_400; unfold bd at h9_6; have h9_7 := b_293; unfold bd at h9_7; have h9_8 := bw73_14_10_a0_; unfold bd at h9_8; have h9_9 := bx2_; unfold bd at h9_9; have h9_10 := bx6_; unfold bd at h9_10; have h9_11 := bx_1; unfold bd at h9_11; have h9_12 := h_11; unfold bd at h9_12; have h9_13 := h_300; unfold bd at h9_13; have h9_14 := b_329; unfold bd at h9_14; have h9_15 := h_9; unfold bd at h9_15; have h9_16 := b_404; unfold bd at h9_16; have h8_0 := kb_0; unfold bd at h8_0; have h8_1 := kb_1; unfold bd at h8_1; omega) (by have h9_0 := bj73_13; unfold bd at h9_0; have h9_1 := bo_; unfold bd at h9_1; have h9_2 := b_17; unfold bd at h9_2; have h9_3 := b_318; unfold bd at h9_3; have h9_4 := b_16; unfold bd at h9_4; have h9_5 := b_294; unfold bd at h9_5; have h9_6 := b_400; unfold bd at h9_6; have h9_7 := b_293; unfold bd at h9_7; have h9_8 := bw73_14_10_a0_; unfold bd at h9_8; have h9_9 := bx2_; unfold bd at h9_9; have h9_10 := bx6_; unfold bd at h9_10; have h9_11 := bx_1; unfold bd at h9_11; have h9_12 := h_11; unfold bd at h9_12; have h9_13 := h_300; unfold bd at h9_13; have h9_14 := b_329; unfold bd at h9_14; have h9_15 := h_9; unfold bd at h9_15; have h9_16 := b_404; unfold bd at h9_16; have h8_0 := kb_0; unfold bd at h8_0; have h8_1 := kb_1; unfold bd at h8_1; omega)), (by have h9_0 := bj73_13; unfold bd at h9_0; have h9_1 := bo_; unfold bd at h9_1; have h9_2 := b_17; unfold bd at h9_2; have h9_3 := b_318; unfold bd at h9_3; have h9_4 := b_16; unfold bd at h9_4; have h9_5 := b_294; unfold bd at h9_5; have h9_6 := b_400; unfold bd at h9_6; have h9_7 := b_293; unfold bd at h9_7; have h9_8 := bw73_14_10_a0_; unfold bd at h9_8; have h9_9 := bx2_; unfold bd at h9_9; have h9_10 := bx6_; unfold bd at h9_10; have h9_11 := bx_1; unfold bd at h9_11; have h9_12 := h_11; unfold bd at h9_12; have h9_13 := h_300; unfold bd at h9_13; have h9_14 := b_329; unfold bd at h9_14; have h9_15 := h_9; unfold bd at h9_15; have h9_16 := b_404; unfold bd at h9_16; have h8_0 := kb_0; unfold bd at h8_0; have h8_1 := kb_1; unfold bd at h8_1; omega)⟩ hl9
                  · have hG_415 := isY.frame hMr_405 go_.2.2.2.1 mqn kqn (by decide) (by decide) hY_323
                    have hG_416 := isV.frame hMr_405 go_.2.2.2.1 mq0_ kq0_ (by decide) (by decide) hG_324
                    have hG_417 := FR.frame hMr_405 go_.2.2.2.1 mq0_ kq0_ (by decide) (by decide) hF_322
                    have hG_418 := cEq.frame hMr_405 go_.2.2.2.1 ma0_ ka0_ (by decide) (by decide) hG_325
                    obtain rfl : r_405 = 1 := h_407
                    have g := g.more hF_410
                    refine lv_istore (lv' := [(13, .int 1), (11, .int y_403), (12, .int x_328), (10, .ref qn), (9, .int x_1), (0, .ref a0_), (1, .int x1_), (2, .int x2_), (3, .long x3_), (5, .long x4_), (7, .int x5_), (8, .int x6_)]) hx hb dX14_readCall_135 hl (by decide) rfl (fun ls hl => ?_)
                    refine lv_iload hx hb dX14_readCall_137 (lv_at hl 0 rfl) ?_
                    refine lv_if_ne (tgt := 145) hx hb dX14_readCall_139 (by decide) (fun c_ => ?_) (fun c_ => absurd c_ (by decide))
                    refine lv_aload_n hx hb dX14_readCall_145 rfl (lv_at hl 5 rfl) ?_
                    have hs_419 := sE_1 g 0 rfl (by have h9_0 := bj73_13; unfold bd at h9_0; have h9_1 := bo_; unfold bd at h9_1; have h9_2 := b_17; unfold bd at h9_2; have h9_3 := b_318; unfold bd at h9_3; have h9_4 := b_16; unfold bd at h9_4; have h9_5 := b_294; unfold bd at h9_5; have h9_6 := b_400; unfold bd at h9_6; have h9_7 := b_293; unfold bd at h9_7; have h9_8 := bw73_14_10_a0_; unfold bd at h9_8; have h9_9 := bx2_; unfold bd at h9_9; have h9_10 := bx6_; unfold bd at h9_10; have h9_11 := bx_1; unfold bd at h9_11; have h9_12 := h_11; unfold bd at h9_12; have h9_13 := h_300; unfold bd at h9_13; have h9_14 := b_329; unfold bd at h9_14; have h9_15 := h_409; unfold bd at h9_15; have h9_16 := h_9; unfold bd at h9_16; have h9_17 := b_404; unfold bd at h9_17; have h8_0 := kb_0; unfold bd at h8_0; have h8_1 := kb_1; unfold bd at h8_1; omega)
                    have go_ := g
                    refine g_callEv (As := []) (rest := []) ⟨hx, hb, hml, hown, hts⟩ (r_X14_room l dC dI L9 kd9 tys fr_405 H.size g.2.2.2.1 a0_ ma0_ ka0_) (cwV 0 hts (gV_ t_2415 t_2417 t_103 t_198 t_2418) rfl rfl rfl (by decide +kernel) ⟨(show 2 + 1 ≤ N + 1 + 24 by omega), (show 8 + (1 + 11) + 45 ≤ 60 * (N + 1) + 700 by omega)⟩) (pre3V g hK ma0_ ka0_ (by decide) (q := (RX14, TX14, 67)) rfl) rfl hl.1 rfl (lv_room (Nat.le_of_ble_eq_true rfl)) dX14_readCall_146 (cl_f hck_317) g hK (by decide) (by decide) (fx' := [(14, 6, a0_, .int x_408), (12, 51, q0_, .ref a_326), (14, 25, a0_, .int x_10), (14, 10, a0_, .int x_299), (12, 19, q0_, .ref g46_12_19_q0_), (14, 2, a0_, .ref q0_), (14, 16, a0_, .int o_)]) rfl (fun xr_420 fr_420 H locs mxr_420 kxr_420 hp hMr_420 g => ?_) (fun fr_420 H locs hp hMr_420 g => ?_)
                    · have hG_421 := isY.frame hMr_420 go_.2.2.2.1 mqn kqn (by decide) (by decide) hG_415
                      have hG_422 := isV.frame hMr_420 go_.2.2.2.1 mq0_ kq0_ (by decide) (by decide) hG_416
                      have hG_423 := FR.frame hMr_420 go_.2.2.2.1 mq0_ kq0_ (by decide) (by decide) hG_417
                      have hG_424 := cEq.frame hMr_420 go_.2.2.2.1 ma0_ ka0_ (by decide) (by decide) hG_418
                      obtain ⟨mo9, ko9⟩ := NW.old hNW mxr_420 kxr_420 (by decide)
                      have g := NW.drop hNW (g.sub (fx' := []) [] rfl) (fun x h9 => by cases h9)
                      subst hQ
                      exact leavesX hempty hlocks (fun t ht hW => g_thrX g hK mo9 ko9 (by omega) ht hW) g.2.2.1.2.2
                    · obtain ⟨x_425, h_426, hF_427⟩ := hp
                      have hG_428 := isY.frame hMr_420 go_.2.2.2.1 mqn kqn (by decide) (by decide) hG_415
                      have hG_429 := isV.frame hMr_420 go_.2.2.2.1 mq0_ kq0_ (by decide) (by decide) hG_416
                      have hG_430 := FR.frame hMr_420 go_.2.2.2.1 mq0_ kq0_ (by decide) (by decide) hG_417
                      have hG_431 := cEq.frame hMr_420 go_.2.2.2.1 ma0_ ka0_ (by decide) (by decide) hG_418
                      have g := g.more hF_427
                      have e_432 := fx_same g 4 0 rfl rfl
                      have b_433 : bd 0 1200 x_299 := eqX (eq_f e_432.symm) h_300 h_426 (by decide)
                      have g := g.sub (fx' := [(14, 6, a0_, .int x_408), (12, 51, q0_, .ref a_326), (14, 25, a0_, .int x_10), (14, 10, a0_, .int x_299), (12, 19, q0_, .ref g46_12_19_q0_), (14, 2, a0_, .ref q0_), (14, 16, a0_, .int o_)]) [1, 2, 3, 4, 5, 6, 7] rfl
                      refine lv_aload_n hx hb dX14_readCall_149 rfl (lv_at hl 5 rfl) ?_
                      refine lv_iload hx hb dX14_readCall_150 (lv_at hl 1 rfl) ?_
                      refine lv_aload_n hx hb dX14_readCall_152 rfl (lv_at hl 5 rfl) ?_
                      refine g_getk (C := RX14) (T := TX14) (N := 67) hx hb hts (mc_ inX14) hown hK g rfl 2 (by decide) rfl (hts _ (List.mem_cons_of_mem _ t_2148)) (fun _ h9 => h9) 5 rfl dX14_readCall_153 ?_
                      refine g_getk (C := RX12) (T := TX12) (N := 60) hx hb hts (mc_ inX12) hown hK g rfl 19 (by decide) rfl (hts _ (List.mem_cons_of_mem _ t_1944)) (fun _ h9 => h9) 4 rfl dX14_readCall_156 ?_
                      refine lv_iload_n hx hb dX14_readCall_159 rfl (lv_at hl 7 rfl) ?_
                      refine g_iald hx hb hK g mg46_12_19_q0_ kg46_12_19_q0_ (by decide) rfl (in_bd bx2_ (by decide)) dX14_readCall_160 (fun x_434 bx_434 cx_434 => ?_)
                      have vx_434 : x_434 = V_303.i 19 x2_.toNatClampNeg := hG_429.at g 4 rfl rfl cx_434
                      refine lv_icmp_ge (tgt := 168) hx hb dX14_readCall_161 (by decide) (fun c_435 => ?_) (fun c_435 => ?_)
                      · have fc_435 := le_f c_435
                        refine lv_iconst (v := 0) hx hb dX14_readCall_168 (by decide) ?_
                        refine lv_bipush (v := 6) hx hb dX14_readCall_169 (by decide) ?_
                        refine lv_aload_n hx hb dX14_readCall_171 rfl (lv_at hl 5 rfl) ?_
                        refine g_geti (C := RX14) (T := TX14) (N := 67) hx hb hts (mc_ inX14) hown hK g ma0_ ka0_ (by decide) rfl 8 (by decide) rfl (hts _ (List.mem_cons_of_mem _ t_2154)) (fun _ h9 => h9) rfl dX14_readCall_172 (fun x_436 bx_436 g => ?_)
                        have hs_437 := sE_1 g 1 rfl (by have h9_0 := bj73_13; unfold bd at h9_0; have h9_1 := bo_; unfold bd at h9_1; have h9_2 := b_17; unfold bd at h9_2; have h9_3 := b_318; unfold bd at h9_3; have h9_4 := b_16; unfold bd at h9_4; have h9_5 := b_294; unfold bd at h9_5; have h9_6 := b_400; unfold bd at h9_6; have h9_7 := b_293; unfold bd at h9_7; have h9_8 := bw73_14_10_a0_; unfold bd at h9_8; have h9_9 := bx2_; unfold bd at h9_9; have h9_10 := bx6_; unfold bd at h9_10; have h9_11 := bx_1; unfold bd at h9_11; have h9_12 := h_11; unfold bd at h9_12; have h9_13 := b_433; unfold bd at h9_13; have h9_14 := b_329; unfold bd at h9_14; have h9_15 := h_409; unfold bd at h9_15; have h9_16 := h_426; unfold bd at h9_16; have h9_17 := bx_434; unfold bd at h9_17; have h9_18 := bx_436; unfold bd at h9_18; have h9_19 := h_9; unfold bd at h9_19; have h9_20 := b_404; unfold bd at h9_20; have h8_0 := kb_0; unfold bd at h8_0; have h8_1 := kb_1; unfold bd at h8_1; omega)
                        have go_ := g
                        refine g_callEv (As := [.int 0, .int 6, .int x_436]) (rest := []) ⟨hx, hb, hml, hown, hts⟩ (r_X14_need_2 l dC dI L9 kd9 tys fr_420 H.size g.2.2.2.1 a0_ ma0_ ka0_ 0 kb_0 6 x_436) (cwV 3 hts (gV_ t_2403 t_2405 t_100 t_198 t_2406) rfl rfl rfl (by decide +kernel) ⟨(show 1 + 1 ≤ N + 1 + 24 by omega), (show 8 + (4 + 11) + 22 ≤ 60 * (N + 1) + 700 by omega)⟩) (pre3V g hK ma0_ ka0_ (by decide) (q := (RX14, TX14, 67)) rfl) rfl hl.1 rfl (lv_room (Nat.le_of_ble_eq_true rfl)) dX14_readCall_175 (cl_f hck_317) g hK (by decide) (by decide) (fx' := [(14, 8, a0_, .int x_436), (14, 6, a0_, .int x_408), (12, 51, q0_, .ref a_326), (14, 25, a0_, .int x_10), (14, 10, a0_, .int x_299), (12, 19, q0_, .ref g46_12_19_q0_), (14, 2, a0_, .ref q0_), (14, 16, a0_, .int o_)]) rfl (fun xr_438 fr_438 H locs mxr_438 kxr_438 hp hMr_438 g => ?_) (fun fr_438 H locs hp hMr_438 g => ?_)
                        · have hG_439 := isY.frame hMr_438 go_.2.2.2.1 mqn kqn (by decide) (by decide) hG_428
                          have hG_440 := isV.frame hMr_438 go_.2.2.2.1 mq0_ kq0_ (by decide) (by decide) hG_429
                          have hG_441 := FR.frame hMr_438 go_.2.2.2.1 mq0_ kq0_ (by decide) (by decide) hG_430
                          have hG_442 := cEq.frame hMr_438 go_.2.2.2.1 ma0_ ka0_ (by decide) (by decide) hG_431
                          obtain ⟨mo9, ko9⟩ := NW.old hNW mxr_438 kxr_438 (by decide)
                          have g := NW.drop hNW (g.sub (fx' := []) [] rfl) (fun x h9 => by cases h9)
                          subst hQ
                          exact leavesX hempty hlocks (fun t ht hW => g_thrX g hK mo9 ko9 (by omega) ht hW) g.2.2.1.2.2
                        · exact hp.elim
                      · have fc_435 := nle_f c_435
                        have b_443 : bd 1 2 y_403 := ltL fc_435 b_404 bx_434 (by decide)
                        have b_444 : bd 0 1 v73_11 := add_inv ty_403 b_443 b_294 kb_1 (by decide)
                        have b_445 : bd 2 3 x_434 := ltR fc_435 b_404 bx_434 (by decide)
                        refine lv_iconst (v := 1) hx hb dX14_readCall_164 (by decide) ?_
                        refine lv_goto (tgt := 169) hx hb dX14_readCall_165 (by decide) ?_
                        refine lv_bipush (v := 6) hx hb dX14_readCall_169 (by decide) ?_
                        refine lv_aload_n hx hb dX14_readCall_171 rfl (lv_at hl 5 rfl) ?_
                        refine g_geti (C := RX14) (T := TX14) (N := 67) hx hb hts (mc_ inX14) hown hK g ma0_ ka0_ (by decide) rfl 8 (by decide) rfl (hts _ (List.mem_cons_of_mem _ t_2154)) (fun _ h9 => h9) rfl dX14_readCall_172 (fun x_446 bx_446 g => ?_)
                        have hs_447 := sE_1 g 1 rfl (by have h9_0 := bj73_13; unfold bd at h9_0; have h9_1 := bo_; unfold bd at h9_1; have h9_2 := b_17; unfold bd at h9_2; have h9_3 := b_318; unfold bd at h9_3; have h9_4 := b_16; unfold bd at h9_4; have h9_5 := b_444; unfold bd at h9_5; have h9_6 := b_400; unfold bd at h9_6; have h9_7 := b_293; unfold bd at h9_7; have h9_8 := bw73_14_10_a0_; unfold bd at h9_8; have h9_9 := bx2_; unfold bd at h9_9; have h9_10 := bx6_; unfold bd at h9_10; have h9_11 := bx_1; unfold bd at h9_11; have h9_12 := h_11; unfold bd at h9_12; have h9_13 := b_433; unfold bd at h9_13; have h9_14 := b_329; unfold bd at h9_14; have h9_15 := h_409; unfold bd at h9_15; have h9_16 := h_426; unfold bd at h9_16; have h9_17 := b_445; unfold bd at h9_17; have h9_18 := bx_446; unfold bd at h9_18; have h9_19 := h_9; unfold bd at h9_19; have h9_20 := b_443; unfold bd at h9_20; have h8_0 := kb_0; unfold bd at h8_0; have h8_1 := kb_1; unfold bd at h8_1; omega)
                        have go_ := g
                        refine g_callEv (As := [.int 1, .int 6, .int x_446]) (rest := []) ⟨hx, hb, hml, hown, hts⟩ (r_X14_need_3 l dC dI L9 kd9 tys fr_420 H.size g.2.2.2.1 a0_ ma0_ ka0_ 1 kb_1 6 x_446) (cwV 3 hts (gV_ t_2403 t_2405 t_100 t_198 t_2406) rfl rfl rfl (by decide +kernel) ⟨(show 0 + 1 ≤ N + 1 + 24 by omega), (show 8 + (4 + 11) + 0 ≤ 60 * (N + 1) + 700 by omega)⟩) (pre3V g hK ma0_ ka0_ (by decide) (q := (RX14, TX14, 67)) rfl) rfl hl.1 rfl (lv_room (Nat.le_of_ble_eq_true rfl)) dX14_readCall_175 (cl_f hck_317) g hK (by decide) (by decide) (fx' := [(14, 8, a0_, .int x_446), (14, 6, a0_, .int x_408), (12, 51, q0_, .ref a_326), (14, 25, a0_, .int x_10), (14, 10, a0_, .int x_299), (12, 19, q0_, .ref g46_12_19_q0_), (14, 2, a0_, .ref q0_), (14, 16, a0_, .int o_)]) rfl (fun xr_448 fr_448 H locs mxr_448 kxr_448 hp hMr_448 g => ?_) (fun fr_448 H locs hp hMr_448 g => ?_)
                        · have hG_449 := isY.frame hMr_448 go_.2.2.2.1 mqn kqn (by decide) (by decide) hG_428
                          have hG_450 := isV.frame hMr_448 go_.2.2.2.1 mq0_ kq0_ (by decide) (by decide) hG_429
                          have hG_451 := FR.frame hMr_448 go_.2.2.2.1 mq0_ kq0_ (by decide) (by decide) hG_430
                          have hG_452 := cEq.frame hMr_448 go_.2.2.2.1 ma0_ ka0_ (by decide) (by decide) hG_431
                          exact hp.elim
                        · have hG_453 := isY.frame hMr_448 go_.2.2.2.1 mqn kqn (by decide) (by decide) hG_428
                          have hG_454 := isV.frame hMr_448 go_.2.2.2.1 mq0_ kq0_ (by decide) (by decide) hG_429
                          have hG_455 := FR.frame hMr_448 go_.2.2.2.1 mq0_ kq0_ (by decide) (by decide) hG_430
                          have hG_456 := cEq.frame hMr_448 go_.2.2.2.1 ma0_ ka0_ (by decide) (by decide) hG_431
                          refine lv_aload_n hx hb dX14_readCall_178 rfl (lv_at hl 5 rfl) ?_
                          have hs_457 := sE_1 g 1 rfl (by have h9_0 := bj73_13; unfold bd at h9_0; have h9_1 := bo_; unfold bd at h9_1; have h9_2 := b_17; unfold bd at h9_2; have h9_3 := b_318; unfold bd at h9_3; have h9_4 := b_16; unfold bd at h9_4; have h9_5 := b_444; unfold bd at h9_5; have h9_6 := b_400; unfold bd at h9_6; have h9_7 := b_293; unfold bd at h9_7; have h9_8 := bw73_14_10_a0_; unfold bd at h9_8; have h9_9 := bx2_; unfold bd at h9_9; have h9_10 := bx6_; unfold bd at h9_10; have h9_11 := bx_1; unfold bd at h9_11; have h9_12 := h_11; unfold bd at h9_12; have h9_13 := b_433; unfold bd at h9_13; have h9_14 := b_329; unfold bd at h9_14; have h9_15 := h_409; unfold bd at h9_15; have h9_16 := h_426; unfold bd at h9_16; have h9_17 := b_445; unfold bd at h9_17; have h9_18 := bx_446; unfold bd at h9_18; have h9_19 := h_9; unfold bd at h9_19; have h9_20 := b_443; unfold bd at h9_20; have h8_0 := kb_0; unfold bd at h8_0; have h8_1 := kb_1; unfold bd at h8_1; omega)
                          have go_ := g
                          refine g_callEv (As := []) (rest := []) ⟨hx, hb, hml, hown, hts⟩ (r_X14_next_2 l dC dI L9 kd9 tys fr_448 H.size g.2.2.2.1 adK adV a0_ ma0_ ka0_ x_299 (bd_sub b_433 (by decide)) (g.fcts [4] rfl)) (cwV 0 hts (gV_ t_2411 t_2413 t_102 t_198 t_2414) rfl rfl rfl (by decide +kernel) ⟨(show 6 + 1 ≤ N + 1 + 24 by omega), (show 8 + (1 + 11) + 135 ≤ 60 * (N + 1) + 700 by omega)⟩) (pre3VA g hK hAm ma0_ ka0_ (by decide) (q := (RX14, TX14, 67)) rfl) rfl hl.1 rfl (lv_room (Nat.le_of_ble_eq_true rfl)) dX14_readCall_179 (cl_f hck_317) g hK (by decide) (by decide) (fx' := [(12, 51, q0_, .ref a_326), (14, 25, a0_, .int x_10), (12, 19, q0_, .ref g46_12_19_q0_), (14, 2, a0_, .ref q0_), (14, 16, a0_, .int o_)]) rfl (fun xr_458 fr_458 H locs mxr_458 kxr_458 hp hMr_458 g => ?_) (fun fr_458 H locs hp hMr_458 g => ?_)
                          · have hG_459 := isY.frame hMr_458 go_.2.2.2.1 mqn kqn (by decide) (by decide) hG_453
                            have hG_460 := isV.frame hMr_458 go_.2.2.2.1 mq0_ kq0_ (by decide) (by decide) hG_454
                            have hG_461 := FR.frame hMr_458 go_.2.2.2.1 mq0_ kq0_ (by decide) (by decide) hG_455
                            obtain ⟨mo9, ko9⟩ := NW.old hNW mxr_458 kxr_458 (by decide)
                            have g := NW.drop hNW (g.sub (fx' := []) [] rfl) (fun x h9 => by cases h9)
                            subst hQ
                            exact leavesX hempty hlocks (fun t ht hW => g_thrX g hK mo9 ko9 (by omega) ht hW) g.2.2.1.2.2
                          · obtain ⟨hx_462, h_463, x_464, h_465, hF_466⟩ := hp
                            have hG_467 := isY.frame hMr_458 go_.2.2.2.1 mqn kqn (by decide) (by decide) hG_453
                            have hG_468 := isV.frame hMr_458 go_.2.2.2.1 mq0_ kq0_ (by decide) (by decide) hG_454
                            have hG_469 := FR.frame hMr_458 go_.2.2.2.1 mq0_ kq0_ (by decide) (by decide) hG_455
                            obtain ⟨E_470, hE_470⟩ : ∃ E : Int, cEq fr_458 a0_ E := ⟨_, rfl⟩
                            have mxE_470 : E_470 ≤ 1202 := by have h9 := cF_le g ma0_ ka0_; have h8 : cF _ _ = _ := hE_470; omega
                            have lE_470 : E_304 + 1 ≤ E_470 := by have h9 := hx_462; have h8 : cF _ _ = _ := hE_470; have h7 : cF _ _ = _ := hG_456; have h6 := hs_457; have h5 := tk_c (f := fr_448) (t := a0_); omega
                            have g := g.more hF_466
                            refine lv_goto (tgt := 73) hx hb dX14_readCall_182 (by decide) ?_
                            have hl9 := lv_sub hl [0, 2, 1, 3, 4, 5, 6, 7, 8, 9, 10, 11] (by rfl : lv_pick [(13, .int 1), (11, .int y_403), (12, .int x_328), (10, .ref qn), (9, .int x_1), (0, .ref a0_), (1, .int x1_), (2, .int x2_), (3, .long x3_), (5, .long x4_), (7, .int x5_), (8, .int x6_)] [0, 2, 1, 3, 4, 5, 6, 7, 8, 9, 10, 11] = [(13, .int 1), (12, .int x_328), (11, .int y_403), (10, .ref qn), (9, .int x_1), (0, .ref a0_), (1, .int x1_), (2, .int x2_), (3, .long x3_), (5, .long x4_), (7, .int x5_), (8, .int x6_)])
                            have g9 := g.sub (fx' := [(12, 19, q0_, .ref g46_12_19_q0_), (14, 10, a0_, .int x_464), (14, 25, a0_, .int x_10), (14, 2, a0_, .ref q0_), (14, 16, a0_, .int o_)]) [3, 0, 2, 4, 5] rfl
                            exact ih73  1 x_328 y_403 x_464 (bd_sub kb_1 (by decide)) (bd_sub b_329 (by decide)) (bd_sub b_443 (by decide)) h_465 (by have h9_0 := b_329; unfold bd at h9_0; have h9_1 := b_443; unfold bd at h9_1; have h9_2 := bv73_11; unfold bd at h9_2; have h9_3 := bv73_12; unfold bd at h9_3; have h9_4 := bv73_13; unfold bd at h9_4; have h9_5 := bw73_14_10_a0_; unfold bd at h9_5; have h9_6 := h_465; unfold bd at h9_6; have h9_7 := kb_0; unfold bd at h9_7; have h9_8 := kb_1; unfold bd at h9_8; omega) _ _ _ _ _ _ g9 ⟨_, _, _, hG_468, hG_469, hE_470, hx_316, hw_309, (by omega), (by omega), (by omega), (by omega), hck_317, (by omega), hNW, hG_467, (arg_s hA73 hX_308 (EV.at_ hv_310 vx_328) b_444.1 (by have h9_0 := bj73_13; unfold bd at h9_0; have h9_1 := bo_; unfold bd at h9_1; have h9_2 := b_17; unfold bd at h9_2; have h9_3 := b_318; unfold bd at h9_3; have h9_4 := b_16; unfold bd at h9_4; have h9_5 := b_444; unfold bd at h9_5; have h9_6 := b_400; unfold bd at h9_6; have h9_7 := b_293; unfold bd at h9_7; have h9_8 := bw73_14_10_a0_; unfold bd at h9_8; have h9_9 := bx2_; unfold bd at h9_9; have h9_10 := bx6_; unfold bd at h9_10; have h9_11 := bx_1; unfold bd at h9_11; have h9_12 := h_11; unfold bd at h9_12; have h9_13 := b_433; unfold bd at h9_13; have h9_14 := b_329; unfold bd at h9_14; have h9_15 := h_409; unfold bd at h9_15; have h9_16 := h_426; unfold bd at h9_16; have h9_17 := b_445; unfold bd at h9_17; have h9_18 := bx_446; unfold bd at h9_18; have h9_19 := h_465; unfold bd at h9_19; have h9_20 := h_9; unfold bd at h9_20; have h9_21 := b_443; unfold bd at h9_21; have h8_0 := kb_0; unfold bd at h8_0; have h8_1 := kb_1; unfold bd at h8_1; omega) (by have h9_0 := bj73_13; unfold bd at h9_0; have h9_1 := bo_; unfold bd at h9_1; have h9_2 := b_17; unfold bd at h9_2; have h9_3 := b_318; unfold bd at h9_3; have h9_4 := b_16; unfold bd at h9_4; have h9_5 := b_444; unfold bd at h9_5; have h9_6 := b_400; unfold bd at h9_6; have h9_7 := b_293; unfold bd at h9_7; have h9_8 := bw73_14_10_a0_; unfold bd at h9_8; have h9_9 := bx2_; unfold bd at h9_9; have h9_10 := bx6_; unfold bd at h9_10; have h9_11 := bx_1; unfold bd at h9_11; have h9_12 := h_11; unfold bd at h9_12; have h9_13 := b_433; unfold bd at h9_13; have h9_14 := b_329; unfold bd at h9_14; have h9_15 := h_409; unfold bd at h9_15; have h9_16 := h_426; unfold bd at h9_16; have h9_17 := b_445; unfold bd at h9_17; have h9_18 := bx_446; unfold bd at h9_18; have h9_19 := h_465; unfold bd at h9_19; have h9_20 := h_9; unfold bd at h9_20; have h9_21 := b_443; unfold bd at h9_21; have h8_0 := kb_0; unfold bd at h8_0; have h8_1 := kb_1; unfold bd at h8_1; omega) (by have h9_0 := bj73_13; unfold bd at h9_0; have h9_1 := bo_; unfold bd at h9_1; have h9_2 := b_17; unfold bd at h9_2; have h9_3 := b_318; unfold bd at h9_3; have h9_4 := b_16; unfold bd at h9_4; have h9_5 := b_444; unfold bd at h9_5; have h9_6 := b_400; unfold bd at h9_6; have h9_7 := b_293; unfold bd at h9_7; have h9_8 := bw73_14_10_a0_; unfold bd at h9_8; have h9_9 := bx2_; unfold bd at h9_9; have h9_10 := bx6_; unfold bd at h9_10; have h9_11 := bx_1; unfold bd at h9_11; have h9_12 := h_11; unfold bd at h9_12; have h9_13 := b_433; unfold bd at h9_13; have h9_14 := b_329; unfold bd at h9_14; have h9_15 := h_409; unfold bd at h9_15; have h9_16 := h_426; unfold bd at h9_16; have h9_17 := b_445; unfold bd at h9_17; have h9_18 := bx_446; unfold bd at h9_18; have h9_19 := h_465; unfold bd at h9_19; have h9_20 := h_9; unfold bd at h9_20; have h9_21 := b_443; unfold bd at h9_21; have h8_0 := kb_0; unfold bd at h8_0; have h8_1 := kb_1; unfold bd at h8_1; omega)), (by have h9_0 := bj73_13; unfold bd at h9_0; have h9_1 := bo_; unfold bd at h9_1; have h9_2 := b_17; unfold bd at h9_2; have h9_3 := b_318; unfold bd at h9_3; have h9_4 := b_16; unfold bd at h9_4; have h9_5 := b_444; unfold bd at h9_5; have h9_6 := b_400; unfold bd at h9_6; have h9_7 := b_293; unfold bd at h9_7; have h9_8 := bw73_14_10_a0_; unfold bd at h9_8; have h9_9 := bx2_; unfold bd at h9_9; have h9_10 := bx6_; unfold bd at h9_10; have h9_11 := bx_1; unfold bd at h9_11; have h9_12 := h_11; unfold bd at h9_12; have h9_13 := b_433; unfold bd at h9_13; have h9_14 := b_329; unfold bd at h9_14; have h9_15 := h_409; unfold bd at h9_15; have h9_16 := h_426; unfold bd at h9_16; have h9_17 := b_445; unfold bd at h9_17; have h9_18 := bx_446; unfold bd at h9_18; have h9_19 := h_465; unfold bd at h9_19; have h9_20 := h_9; unfold bd at h9_20; have h9_21 := b_443; unfold bd at h9_21; have h8_0 := kb_0; unfold bd at h8_0; have h8_1 := kb_1; unfold bd at h8_1; omega)⟩ hl9
        have kb_0 : bd 0 0 (0 : Int32) := ⟨by decide, by decide⟩
        have hl9 := lv_sub hl [0, 1, 2, 3, 4, 5, 6, 7, 8, 9, 10, 11] (by rfl : lv_pick [(13, .int j73_13), (12, .int 0), (11, .int 0), (10, .ref qn), (9, .int x_1), (0, .ref a0_), (1, .int x1_), (2, .int x2_), (3, .long x3_), (5, .long x4_), (7, .int x5_), (8, .int x6_)] [0, 1, 2, 3, 4, 5, 6, 7, 8, 9, 10, 11] = [(13, .int j73_13), (12, .int 0), (11, .int 0), (10, .ref qn), (9, .int x_1), (0, .ref a0_), (1, .int x1_), (2, .int x2_), (3, .long x3_), (5, .long x4_), (7, .int x5_), (8, .int x6_)])
        have g9 := g.sub (fx' := [(12, 19, q0_, .ref g46_12_19_q0_), (14, 10, a0_, .int x_8), (14, 25, a0_, .int x_10), (14, 2, a0_, .ref q0_), (14, 16, a0_, .int o_)]) [0, 1, 2, 3, 4] rfl
        exact loop_25 (1300) j73_13 0 0 x_8 bj73_13 (bd_sub kb_0 (by decide)) (bd_sub kb_0 (by decide)) h_9 (by have h9_0 := bj73_13; unfold bd at h9_0; have h9_1 := h_9; unfold bd at h9_1; have h9_2 := kb_0; unfold bd at h9_2; omega) _ _ _ _ _ _ g9 ⟨_, _, _, hJ73_V_q0_, hJ73_F_q0_, hJ73_C_a0_, exN.rf, hwf, (by omega), (by omega), (by omega), (by omega), hck_23, (by omega), hNW, isY.rf, (fun j h9 => absurd h9 (by have h8 : (0 : Int32).toInt = 0 := (by decide); omega)), (by have h9_0 := bj73_13; unfold bd at h9_0; have h9_1 := bo_; unfold bd at h9_1; have h9_2 := b_17; unfold bd at h9_2; have h9_3 := b_16; unfold bd at h9_3; have h9_4 := bx2_; unfold bd at h9_4; have h9_5 := bx6_; unfold bd at h9_5; have h9_6 := bx_1; unfold bd at h9_6; have h9_7 := h_11; unfold bd at h9_7; have h9_8 := h_9; unfold bd at h9_8; have h8_0 := kb_0; unfold bd at h8_0; omega)⟩ hl9
      refine lv_aload_n hx hb dX14_readCall_57 rfl (lv_at hl 4 rfl) ?_
      refine lv_bipush (v := 41) hx hb dX14_readCall_58 (by decide) ?_
      have go_ := g
      refine g_calli (va_runV (As := [.int 41]) (rest := []) ⟨hx, hb, hml, hown, hts⟩ (r_X14_isSign l dC dI L9 kd9 tys f H.size g.2.2.2.1 a0_ ma0_ ka0_ 41) (cwV 1 hts (gV_ t_2435 t_2437 t_108 t_198 t_2438) rfl rfl rfl (by decide +kernel) ⟨(show 0 + 1 ≤ N + 1 + 24 by omega), (show 8 + (2 + 11) + 0 ≤ 60 * (N + 1) + 700 by omega)⟩) (pre3V g hK ma0_ ka0_ (by decide) (q := (RX14, TX14, 67)) rfl) rfl rfl hl.1 rfl (lv_room (Nat.le_of_ble_eq_true rfl)) dX14_readCall_60 (cl_f hck_23)) g hK (by decide) (by decide) (fx' := [(12, 19, q0_, .ref g46_12_19_q0_), (14, 10, a0_, .int x_8), (14, 25, a0_, .int x_10), (14, 2, a0_, .ref q0_), (14, 16, a0_, .int o_)]) rfl (fun r_471 fr_471 H locs hp hMr_471 g => ?_)
      rcases hp with ⟨h_472, -⟩ | ⟨h_473, x_474, h_475, hF_476⟩
      · have hG_477 := isV.frame hMr_471 go_.2.2.2.1 mq0_ kq0_ (by decide) (by decide) hG_19
        have hG_478 := FR.frame hMr_471 go_.2.2.2.1 mq0_ kq0_ (by decide) (by decide) hG_20
        have hG_479 := cEq.frame hMr_471 go_.2.2.2.1 ma0_ ka0_ (by decide) (by decide) hG_21
        obtain rfl : r_471 = 0 := h_472
        refine lv_if_ne (tgt := 70) hx hb dX14_readCall_63 (by decide) (fun c_ => absurd c_ (by decide)) (fun c_ => ?_)
        refine lv_iconst (v := 1) hx hb dX14_readCall_66 (by decide) ?_
        refine lv_goto (tgt := 71) hx hb dX14_readCall_67 (by decide) ?_
        refine lv_istore (lv' := [(13, .int 1), (12, .int 0), (11, .int 0), (10, .ref qn), (9, .int x_1), (0, .ref a0_), (1, .int x1_), (2, .int x2_), (3, .long x3_), (5, .long x4_), (7, .int x5_), (8, .int x6_)]) hx hb dX14_readCall_71 hl (by decide) rfl (fun ls hl => ?_)
        have kb_1 : bd 1 1 (1 : Int32) := ⟨by decide, by decide⟩
        have hl9 := lv_sub hl [0, 1, 2, 3, 4, 5, 6, 7, 8, 9, 10, 11] (by rfl : lv_pick [(13, .int 1), (12, .int 0), (11, .int 0), (10, .ref qn), (9, .int x_1), (0, .ref a0_), (1, .int x1_), (2, .int x2_), (3, .long x3_), (5, .long x4_), (7, .int x5_), (8, .int x6_)] [0, 1, 2, 3, 4, 5, 6, 7, 8, 9, 10, 11] = [(13, .int 1), (12, .int 0), (11, .int 0), (10, .ref qn), (9, .int x_1), (0, .ref a0_), (1, .int x1_), (2, .int x2_), (3, .long x3_), (5, .long x4_), (7, .int x5_), (8, .int x6_)])
        have g9 := g.sub (fx' := [(12, 19, q0_, .ref g46_12_19_q0_), (14, 10, a0_, .int x_8), (14, 25, a0_, .int x_10), (14, 2, a0_, .ref q0_), (14, 16, a0_, .int o_)]) [0, 1, 2, 3, 4] rfl
        exact join_24 1 _ _ _ _ (bd_sub kb_1 (by decide)) g9 hG_477 hG_478 hG_479 hl9
      · have hG_480 := isV.frame hMr_471 go_.2.2.2.1 mq0_ kq0_ (by decide) (by decide) hG_19
        have hG_481 := FR.frame hMr_471 go_.2.2.2.1 mq0_ kq0_ (by decide) (by decide) hG_20
        have hG_482 := cEq.frame hMr_471 go_.2.2.2.1 ma0_ ka0_ (by decide) (by decide) hG_21
        obtain rfl : r_471 = 1 := h_473
        have g := g.more hF_476
        refine lv_if_ne (tgt := 70) hx hb dX14_readCall_63 (by decide) (fun c_ => ?_) (fun c_ => absurd c_ (by decide))
        refine lv_iconst (v := 0) hx hb dX14_readCall_70 (by decide) ?_
        refine lv_istore (lv' := [(13, .int 0), (12, .int 0), (11, .int 0), (10, .ref qn), (9, .int x_1), (0, .ref a0_), (1, .int x1_), (2, .int x2_), (3, .long x3_), (5, .long x4_), (7, .int x5_), (8, .int x6_)]) hx hb dX14_readCall_71 hl (by decide) rfl (fun ls hl => ?_)
        have kb_0 : bd 0 0 (0 : Int32) := ⟨by decide, by decide⟩
        have hl9 := lv_sub hl [0, 1, 2, 3, 4, 5, 6, 7, 8, 9, 10, 11] (by rfl : lv_pick [(13, .int 0), (12, .int 0), (11, .int 0), (10, .ref qn), (9, .int x_1), (0, .ref a0_), (1, .int x1_), (2, .int x2_), (3, .long x3_), (5, .long x4_), (7, .int x5_), (8, .int x6_)] [0, 1, 2, 3, 4, 5, 6, 7, 8, 9, 10, 11] = [(13, .int 0), (12, .int 0), (11, .int 0), (10, .ref qn), (9, .int x_1), (0, .ref a0_), (1, .int x1_), (2, .int x2_), (3, .long x3_), (5, .long x4_), (7, .int x5_), (8, .int x6_)])
        have g9 := g.sub (fx' := [(12, 19, q0_, .ref g46_12_19_q0_), (14, 10, a0_, .int x_8), (14, 25, a0_, .int x_10), (14, 2, a0_, .ref q0_), (14, 16, a0_, .int o_)]) [1, 2, 3, 4, 5] rfl
        exact join_24 0 _ _ _ _ (bd_sub kb_0 (by decide)) g9 hG_480 hG_481 hG_482 hl9
    refine lv_aload_n hx hb dX14_readCall_12 rfl (lv_at hl 1 rfl) ?_
    refine lv_aload_n hx hb dX14_readCall_13 rfl (lv_at hl 1 rfl) ?_
    refine g_getk (C := RX14) (T := TX14) (N := 67) hx hb hts (mc_ inX14) hown hK g rfl 2 (by decide) rfl (hts _ (List.mem_cons_of_mem _ t_2148)) (fun _ h9 => h9) 2 rfl dX14_readCall_14 ?_
    refine g_getr (K := 175) (C := RX12) (T := TX12) (N := 60) hx hb hts (mc_ inX12) hown hK g mq0_ kq0_ (by decide) rfl 19 (by decide) rfl (hts _ (List.mem_cons_of_mem _ t_1944)) (fun _ h9 => h9) rfl dX14_readCall_17 (fun a_483 ma_483 ka_483 g => ?_)
    refine lv_iload_n hx hb dX14_readCall_20 rfl (lv_at hl 3 rfl) ?_
    refine g_iald hx hb hK g ma_483 ka_483 (by decide) rfl (in_bd bx2_ (by decide)) dX14_readCall_21 (fun x_484 bx_484 cx_484 => ?_)
    have vx_484 : x_484 = V_.i 19 x2_.toNatClampNeg := hG_13.at g 0 rfl rfl cx_484
    have kb_0 : bd 0 0 (0 : Int32) := ⟨by decide, by decide⟩
    refine lv_if_gt (tgt := 34) hx hb dX14_readCall_22 (by decide) (fun c_485 => ?_) (fun c_485 => ?_)
    · have fc_485 := lt_f c_485
      have b_486 : bd 1 3 x_484 := ltR fc_485 kb_0 bx_484 (by decide)
      refine lv_iconst (v := 1) hx hb dX14_readCall_34 (by decide) ?_
      refine lv_goto (tgt := 39) hx hb dX14_readCall_35 (by decide) ?_
      refine lv_bipush (v := 6) hx hb dX14_readCall_39 (by decide) ?_
      refine lv_iload hx hb dX14_readCall_41 (lv_at hl 0 rfl) ?_
      have kb_1 : bd 1 1 (1 : Int32) := ⟨by decide, by decide⟩
      have go_ := g
      refine g_callEv (As := [.int 1, .int 6, .int x_1]) (rest := []) ⟨hx, hb, hml, hown, hts⟩ (r_X14_need_3 l dC dI L kd tys fr_2 H.size g.2.2.2.1 a0_ ma0_ ka0_ 1 kb_1 6 x_1) (cwV 3 hts (gV_ t_2403 t_2405 t_100 t_198 t_2406) rfl rfl rfl (by decide +kernel) ⟨(show 0 + 1 ≤ N + 1 + 24 by omega), (show 8 + (4 + 11) + 0 ≤ 60 * (N + 1) + 700 by omega)⟩) (pre3V g hK ma0_ ka0_ (by decide) (q := (RX14, TX14, 67)) rfl) rfl hl.1 rfl (lv_room (Nat.le_of_ble_eq_true rfl)) dX14_readCall_43 (cl_f hck_0) g hK (by decide) (by decide) (fx' := [(12, 19, q0_, .ref a_483), (14, 10, a0_, .int x_8), (14, 25, a0_, .int x_10), (14, 2, a0_, .ref q0_), (14, 16, a0_, .int o_)]) rfl (fun xr_487 fr_487 H locs mxr_487 kxr_487 hp hMr_487 g => ?_) (fun fr_487 H locs hp hMr_487 g => ?_)
      · have hG_488 := isV.frame hMr_487 go_.2.2.2.1 mq0_ kq0_ (by decide) (by decide) hG_13
        have hG_489 := FR.frame hMr_487 go_.2.2.2.1 mq0_ kq0_ (by decide) (by decide) hG_14
        have hG_490 := cEq.frame hMr_487 go_.2.2.2.1 ma0_ ka0_ (by decide) (by decide) hE_15
        exact hp.elim
      · have hG_491 := isV.frame hMr_487 go_.2.2.2.1 mq0_ kq0_ (by decide) (by decide) hG_13
        have hG_492 := FR.frame hMr_487 go_.2.2.2.1 mq0_ kq0_ (by decide) (by decide) hG_14
        have hG_493 := cEq.frame hMr_487 go_.2.2.2.1 ma0_ ka0_ (by decide) (by decide) hE_15
        have hl9 := lv_sub hl [0, 1, 2, 3, 4, 5, 6, 7] (by rfl : lv_pick [(9, .int x_1), (0, .ref a0_), (1, .int x1_), (2, .int x2_), (3, .long x3_), (5, .long x4_), (7, .int x5_), (8, .int x6_)] [0, 1, 2, 3, 4, 5, 6, 7] = [(9, .int x_1), (0, .ref a0_), (1, .int x1_), (2, .int x2_), (3, .long x3_), (5, .long x4_), (7, .int x5_), (8, .int x6_)])
        have g9 := g.sub (fx' := [(12, 19, q0_, .ref a_483), (14, 10, a0_, .int x_8), (14, 25, a0_, .int x_10), (14, 2, a0_, .ref q0_), (14, 16, a0_, .int o_)]) [0, 1, 2, 3, 4] rfl
        exact join_18 a_483 _ _ _ _ ma_483 ka_483 g9 hG_491 hG_492 hG_493 hl9
    · have fc_485 := nlt_f c_485
      have b_494 : bd 0 0 x_484 := leL fc_485 bx_484 kb_0 (by decide)
      refine lv_aload_n hx hb dX14_readCall_25 rfl (lv_at hl 1 rfl) ?_
      refine lv_bipush (v := 41) hx hb dX14_readCall_26 (by decide) ?_
      have go_ := g
      refine g_calli (va_runV (As := [.int 41]) (rest := [.ref a0_]) ⟨hx, hb, hml, hown, hts⟩ (r_X14_isSign l dC dI L kd tys fr_2 H.size g.2.2.2.1 a0_ ma0_ ka0_ 41) (cwV 1 hts (gV_ t_2435 t_2437 t_108 t_198 t_2438) rfl rfl rfl (by decide +kernel) ⟨(show 0 + 1 ≤ N + 1 + 24 by omega), (show 8 + (2 + 11) + 0 ≤ 60 * (N + 1) + 700 by omega)⟩) (pre3V g hK ma0_ ka0_ (by decide) (q := (RX14, TX14, 67)) rfl) rfl rfl hl.1 rfl (lv_room (Nat.le_of_ble_eq_true rfl)) dX14_readCall_28 (cl_f hck_0)) g hK (by decide) (by decide) (fx' := [(12, 19, q0_, .ref a_483), (14, 10, a0_, .int x_8), (14, 25, a0_, .int x_10), (14, 2, a0_, .ref q0_), (14, 16, a0_, .int o_)]) rfl (fun r_495 fr_495 H locs hp hMr_495 g => ?_)
      rcases hp with ⟨h_496, -⟩ | ⟨h_497, x_498, h_499, hF_500⟩
      · have hG_501 := isV.frame hMr_495 go_.2.2.2.1 mq0_ kq0_ (by decide) (by decide) hG_13
        have hG_502 := FR.frame hMr_495 go_.2.2.2.1 mq0_ kq0_ (by decide) (by decide) hG_14
        have hG_503 := cEq.frame hMr_495 go_.2.2.2.1 ma0_ ka0_ (by decide) (by decide) hE_15
        obtain rfl : r_495 = 0 := h_496
        refine lv_if_eq (tgt := 38) hx hb dX14_readCall_31 (by decide) (fun c_ => ?_) (fun c_ => absurd (by decide) c_)
        refine lv_iconst (v := 0) hx hb dX14_readCall_38 (by decide) ?_
        refine lv_bipush (v := 6) hx hb dX14_readCall_39 (by decide) ?_
        refine lv_iload hx hb dX14_readCall_41 (lv_at hl 0 rfl) ?_
        have go_ := g
        refine g_callEv (As := [.int 0, .int 6, .int x_1]) (rest := []) ⟨hx, hb, hml, hown, hts⟩ (r_X14_need_2 l dC dI L kd tys fr_495 H.size g.2.2.2.1 a0_ ma0_ ka0_ 0 kb_0 6 x_1) (cwV 3 hts (gV_ t_2403 t_2405 t_100 t_198 t_2406) rfl rfl rfl (by decide +kernel) ⟨(show 1 + 1 ≤ N + 1 + 24 by omega), (show 8 + (4 + 11) + 22 ≤ 60 * (N + 1) + 700 by omega)⟩) (pre3V g hK ma0_ ka0_ (by decide) (q := (RX14, TX14, 67)) rfl) rfl hl.1 rfl (lv_room (Nat.le_of_ble_eq_true rfl)) dX14_readCall_43 (cl_f hck_0) g hK (by decide) (by decide) (fx' := [(12, 19, q0_, .ref a_483), (14, 10, a0_, .int x_8), (14, 25, a0_, .int x_10), (14, 2, a0_, .ref q0_), (14, 16, a0_, .int o_)]) rfl (fun xr_504 fr_504 H locs mxr_504 kxr_504 hp hMr_504 g => ?_) (fun fr_504 H locs hp hMr_504 g => ?_)
        · have hG_505 := isV.frame hMr_504 go_.2.2.2.1 mq0_ kq0_ (by decide) (by decide) hG_501
          have hG_506 := FR.frame hMr_504 go_.2.2.2.1 mq0_ kq0_ (by decide) (by decide) hG_502
          have hG_507 := cEq.frame hMr_504 go_.2.2.2.1 ma0_ ka0_ (by decide) (by decide) hG_503
          subst hQ
          exact leavesX hempty hlocks (fun t ht hW => g_thrX g hK mxr_504 kxr_504 (by omega) ht hW) g.2.2.1.2.2
        · exact hp.elim
      · have hG_508 := isV.frame hMr_495 go_.2.2.2.1 mq0_ kq0_ (by decide) (by decide) hG_13
        have hG_509 := FR.frame hMr_495 go_.2.2.2.1 mq0_ kq0_ (by decide) (by decide) hG_14
        have hG_510 := cEq.frame hMr_495 go_.2.2.2.1 ma0_ ka0_ (by decide) (by decide) hE_15
        obtain rfl : r_495 = 1 := h_497
        have g := g.more hF_500
        refine lv_if_eq (tgt := 38) hx hb dX14_readCall_31 (by decide) (fun c_ => absurd c_ (by decide)) (fun c_ => ?_)
        refine lv_iconst (v := 1) hx hb dX14_readCall_34 (by decide) ?_
        refine lv_goto (tgt := 39) hx hb dX14_readCall_35 (by decide) ?_
        refine lv_bipush (v := 6) hx hb dX14_readCall_39 (by decide) ?_
        refine lv_iload hx hb dX14_readCall_41 (lv_at hl 0 rfl) ?_
        have hs_511 := sE_1 g 0 rfl (by have h9_0 := bo_; unfold bd at h9_0; have h9_1 := b_17; unfold bd at h9_1; have h9_2 := b_16; unfold bd at h9_2; have h9_3 := bx2_; unfold bd at h9_3; have h9_4 := bx6_; unfold bd at h9_4; have h9_5 := bx_1; unfold bd at h9_5; have h9_6 := h_11; unfold bd at h9_6; have h9_7 := b_494; unfold bd at h9_7; have h9_8 := h_499; unfold bd at h9_8; have h9_9 := h_9; unfold bd at h9_9; have h8_0 := kb_0; unfold bd at h8_0; omega)
        have kb_1 : bd 1 1 (1 : Int32) := ⟨by decide, by decide⟩
        have go_ := g
        refine g_callEv (As := [.int 1, .int 6, .int x_1]) (rest := []) ⟨hx, hb, hml, hown, hts⟩ (r_X14_need_3 l dC dI L kd tys fr_495 H.size g.2.2.2.1 a0_ ma0_ ka0_ 1 kb_1 6 x_1) (cwV 3 hts (gV_ t_2403 t_2405 t_100 t_198 t_2406) rfl rfl rfl (by decide +kernel) ⟨(show 0 + 1 ≤ N + 1 + 24 by omega), (show 8 + (4 + 11) + 0 ≤ 60 * (N + 1) + 700 by omega)⟩) (pre3V g hK ma0_ ka0_ (by decide) (q := (RX14, TX14, 67)) rfl) rfl hl.1 rfl (lv_room (Nat.le_of_ble_eq_true rfl)) dX14_readCall_43 (cl_f hck_0) g hK (by decide) (by decide) (fx' := [(14, 6, a0_, .int x_498), (12, 19, q0_, .ref a_483), (14, 10, a0_, .int x_8), (14, 25, a0_, .int x_10), (14, 2, a0_, .ref q0_), (14, 16, a0_, .int o_)]) rfl (fun xr_512 fr_512 H locs mxr_512 kxr_512 hp hMr_512 g => ?_) (fun fr_512 H locs hp hMr_512 g => ?_)
        · have hG_513 := isV.frame hMr_512 go_.2.2.2.1 mq0_ kq0_ (by decide) (by decide) hG_508
          have hG_514 := FR.frame hMr_512 go_.2.2.2.1 mq0_ kq0_ (by decide) (by decide) hG_509
          have hG_515 := cEq.frame hMr_512 go_.2.2.2.1 ma0_ ka0_ (by decide) (by decide) hG_510
          exact hp.elim
        · have hG_516 := isV.frame hMr_512 go_.2.2.2.1 mq0_ kq0_ (by decide) (by decide) hG_508
          have hG_517 := FR.frame hMr_512 go_.2.2.2.1 mq0_ kq0_ (by decide) (by decide) hG_509
          have hG_518 := cEq.frame hMr_512 go_.2.2.2.1 ma0_ ka0_ (by decide) (by decide) hG_510
          have hl9 := lv_sub hl [0, 1, 2, 3, 4, 5, 6, 7] (by rfl : lv_pick [(9, .int x_1), (0, .ref a0_), (1, .int x1_), (2, .int x2_), (3, .long x3_), (5, .long x4_), (7, .int x5_), (8, .int x6_)] [0, 1, 2, 3, 4, 5, 6, 7] = [(9, .int x_1), (0, .ref a0_), (1, .int x1_), (2, .int x2_), (3, .long x3_), (5, .long x4_), (7, .int x5_), (8, .int x6_)])
          have g9 := g.sub (fx' := [(12, 19, q0_, .ref a_483), (14, 10, a0_, .int x_8), (14, 25, a0_, .int x_10), (14, 2, a0_, .ref q0_), (14, 16, a0_, .int o_)]) [1, 2, 3, 4, 5] rfl
          exact join_18 a_483 _ _ _ _ ma_483 ka_483 g9 hG_516 hG_517 hG_518 hl9
