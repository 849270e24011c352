set_option maxHeartbeats 4000000 in
set_option maxRecDepth 100000 in
theorem r_X14_readCall (N : Nat) (ih : RecR N) (l : Launch) (dC : Nat → ClassId) (dI : Nat → Nat → Nat) (L : List Nat) (kd : Nat → Nat) (tys : List (ClassId × FieldType)) (f0 : Nat → va_E) (sz : Nat) (hWT : WT L kd tys f0) (adK adV : Nat → Nat) (a0_ : Nat) (ma0_ : a0_ ∈ L) (ka0_ : kd a0_ = 14) (x1_ : Int32) (x2_ : Int32) (bx2_ : bd 0 109 x2_) (x3_ : Int64) (x4_ : Int64) (x5_ : Int32) (x6_ : Int32) (bx6_ : bd 0 1 x6_) (q0_ : Nat) (mq0_ : q0_ ∈ L) (kq0_ : kd q0_ = 12) (V_ : PV) (o_ : Int32) (bo_ : bd 0 7 o_) (op_ : Int32) (bop_ : bd 0 40 op_) (t_ : Int32) (bt_ : bd 0 1201 t_) (hV : isV f0 q0_ V_) (hwf : wfN V_ (V_.n 57).toInt) (ho : (o_.toNatClampNeg : Int) < (V_.n 0).toInt) (hnn : (V_.n 57).toInt ≤ cF f0 a0_) (hm_ : Int) (hhm : 12 ≤ hm_ ∧ hm_ ≤ 13 ∧ (x6_.toInt = 0 → hm_ = 13)) (hop : x1_.toInt = 3 ∨ x1_.toInt = 9) (hf3 : x1_.toInt = 3 → fnd V_ o_.toNatClampNeg x3_ x4_) (hf9 : x1_.toInt = 9 → 0 ≤ (V_.i 3 o_.toNatClampNeg).toInt ∧ fnd V_ (V_.i 3 o_.toNatClampNeg).toNatClampNeg x3_ x4_) (K_ : Nat) (hK_ : 1205 ≤ 2 * (K_ : Int) + cF f0 a0_) (hN : 11 * (40 - op_.toInt) + 1 ≤ ((N + 1 : Nat) : Int)) (hfx : Fs L kd f0 [(14, 2, a0_, .ref q0_), (14, 16, a0_, .int o_), (14, 25, a0_, .int op_), (14, 10, a0_, .int t_)]) : MetX l yX14_readCall (.code yX14_readCall cX14_readCall 16 (some .int) :: lw_g) ({ frames := (N + 1) + 24, cells := K_, slots := 3 * K_, locals := 60 * (N + 1) + 700 }) (va_Pc [.ref a0_, .int x1_, .int x2_, .long x3_, .long x4_, .int x5_, .int x6_] (P3A (dC, dI) L tys f0 sz adK adV)) (q3Z (dC, dI) L kd tys [(12, 57), (12, 58), (14, 6), (14, 7), (14, 8), (14, 9), (14, 10), (14, 11), (14, 12), (14, 13), (14, 14), (14, 15), (14, 25)] [180, 201, 202, 203, 204, 205, 206, 207, 208, 209, 210] f0 sz (pXi (fun (r : Int32) (f : Nat → va_E) (k : Nat) => (rdP L kd f0 a0_ q0_ V_ o_ (hm_) 0 r f k (fun v => v.toInt = x1_.toInt)) ∧ ∃ z1_ : Int32, bd 0 1201 z1_ ∧ Fs L kd f [(14, 25, a0_, .int op_), (14, 10, a0_, .int z1_)])) (fun (f : Nat → va_E) (k : Nat) => FR L kd f0 f q0_ ∧ 2 * (k : Int) + cF f0 a0_ ≤ 1204)) (pA L sz) := by
  refine MetX.ofW (cc := cX14_readCall) (maxL := 16) (ret := (some .int)) (by decide) rfl ?_
  intro p e s m args below meth c s₁ B hml hempty hv
  obtain ⟨rfl, ⟨hsz, hP, hK, hD0⟩, hAm⟩ := hv
  have hx := B.exec
  have hb := B.bytes
  have hr := B.returns
  have hts := atoms_spec (ws := (.code yX14_readCall cX14_readCall 16 (some .int) :: lw_g)) B.pre
  have hown : s.vm.findClass RX14 = some m.cls := findClass_of_methodNamed B.named
  have hlocks := B.notSynchronized
  subst hsz
  have g : G3 (dC, dI) L kd tys s f0 [(12, 57), (12, 58), (14, 6), (14, 7), (14, 8), (14, 9), (14, 10), (14, 11), (14, 12), (14, 13), (14, 14), (14, 15), (14, 25)] [180, 201, 202, 203, 204, 205, 206, 207, 208, 209, 210] f0 s.heap [] [(14, 2, a0_, .ref q0_), (14, 16, a0_, .int o_), (14, 25, a0_, .int op_), (14, 10, a0_, .int t_)] := G3.start hP hD0 hWT hfx
  have hl := lv_entry ([.ref a0_, .int x1_, .int x2_, .long x3_, .long x4_, .int x5_, .int x6_]) (n := 16) (Nat.le_of_ble_eq_true rfl)
  rw [lg_entry_eq]
  generalize (lg_sl ([.ref a0_, .int x1_, .int x2_, .long x3_, .long x4_, .int x5_, .int x6_]) ++ List.replicate (16 - (lg_sl ([.ref a0_, .int x1_, .int x2_, .long x3_, .long x4_, .int x5_, .int x6_])).length) Slot.unset).toArray = ls at hl ⊢
  have hl : lv_has ls 16 [(0, .ref a0_), (1, .int x1_), (2, .int x2_), (3, .long x3_), (5, .long x4_), (7, .int x5_), (8, .int x6_)] := hl
  refine W_q (fun Q hQ => ?_)
  refine W_c0 (fun cl_0 hc_0 => ?_)
  have hck_0 : cl_0 ≤ K_ := by omega
  have hC_0 : cEq f0 a0_ (cF f0 a0_) := rfl
  have hm_0 : cF f0 a0_ ≤ 1202 := cF_le g ma0_ ka0_
  have hm_1 : -1 ≤ cF f0 a0_ := cF_ge g ma0_ ka0_
  refine lv_aload_n hx hb dX14_readCall_0 rfl (lv_at hl 0 rfl) ?_
  refine g_geti (C := RX14) (T := TX14) (N := 67) hx hb hts (mc_ inX14) hown hK g ma0_ ka0_ (by decide) rfl 8 (by decide) rfl (hts _ (List.mem_cons_of_mem _ t_2154)) (fun _ h9 => h9) rfl dX14_readCall_1 (fun x_1 bx_1 g => ?_)
  refine lv_istore (lv' := [(9, .int x_1), (0, .ref a0_), (1, .int x1_), (2, .int x2_), (3, .long x3_), (5, .long x4_), (7, .int x5_), (8, .int x6_)]) hx hb dX14_readCall_4 hl (by decide) rfl (fun ls hl => ?_)
  refine lv_aload_n hx hb dX14_readCall_6 rfl (lv_at hl 1 rfl) ?_
  refine lv_bipush (v := 40) hx hb dX14_readCall_7 (by decide) ?_
  have go_ := g
  refine g_callEv (As := [.int 40]) (rest := []) ⟨hx, hb, hml, hown, hts⟩ (r_X14_opening_2 l dC dI L kd tys f0 s.heap.size g.2.2.2.1 adK adV a0_ ma0_ ka0_ 40 t_ bt_ op_ bop_ (g.fcts [4, 3] rfl)) (cwV 1 hts (gV_ t_2484 t_2486 t_118 t_198 t_2487) rfl rfl rfl (by decide +kernel) ⟨(show 7 + 1 ≤ N + 1 + 24 by omega), (show 8 + (2 + 11) + 155 ≤ 60 * (N + 1) + 700 by omega)⟩) (pre3VA g hK hAm ma0_ ka0_ (by decide) (q := (RX14, TX14, 67)) rfl) rfl hl.1 rfl (lv_room (Nat.le_of_ble_eq_true rfl)) dX14_readCall_9 (cl_f hck_0) g hK (by decide) (by decide) (fx' := [(14, 2, a0_, .ref q0_), (14, 16, a0_, .int o_)]) rfl (fun xr_2 fr_2 H locs mxr_2 kxr_2 hp hMr_2 g => ?_) (fun fr_2 H locs hp hMr_2 g => ?_)
  · have hG_3 := isV.frame hMr_2 go_.2.2.2.1 mq0_ kq0_ (by decide) (by decide) hV
    have hG_4 := FR.frame hMr_2 go_.2.2.2.1 mq0_ kq0_ (by decide) (by decide) FR.refl
    subst hQ
    exact leavesX hempty hlocks (fun t ht hW => g_thrZ g hK mxr_2 kxr_2 ⟨hG_4, (by omega)⟩ ht hW) g.2.2.1.2.2
  · obtain ⟨hx_5, h_6, h_7, x_8, h_9, x_10, ⟨h_11, rh_11⟩, hF_12⟩ := hp
    have hG_13 := isV.frame hMr_2 go_.2.2.2.1 mq0_ kq0_ (by decide) (by decide) hV
    have hG_14 := FR.frame hMr_2 go_.2.2.2.1 mq0_ kq0_ (by decide) (by decide) FR.refl
    obtain ⟨E_15, hE_15⟩ : ∃ E : Int, cEq fr_2 a0_ E := ⟨_, rfl⟩
    have mxE_15 : E_15 ≤ 1202 := by have h9 := cF_le g ma0_ ka0_; have h8 : cF _ _ = _ := hE_15; omega
    have lE_15 : (cF f0 a0_) + 1 ≤ E_15 := by have h9 := hx_5; have h8 : cF _ _ = _ := hE_15; have h7 : cF _ _ = _ := hC_0; omega
    have b_16 : bd 0 1200 t_ := eqX rfl bt_ h_6 (by decide)
    have b_17 : bd 0 39 op_ := eqX rfl bop_ h_7 (by decide)
    have g := g.more hF_12
    have join_18 : ∀ (g46_12_19_q0_ : Nat) (f : Nat → va_E) (H : Heap) (locs : List Loc) (ls : Array Slot), g46_12_19_q0_ ∈ L → kd g46_12_19_q0_ = 175 → G3 (dC, dI) L kd tys s f0 [(12, 57), (12, 58), (14, 6), (14, 7), (14, 8), (14, 9), (14, 10), (14, 11), (14, 12), (14, 13), (14, 14), (14, 15), (14, 25)] [180, 201, 202, 203, 204, 205, 206, 207, 208, 209, 210] f H locs [(12, 19, q0_, .ref g46_12_19_q0_), (14, 10, a0_, .int x_8), (14, 25, a0_, .int x_10), (14, 2, a0_, .ref q0_), (14, 16, a0_, .int o_)] → isV f q0_ V_ → FR L kd f0 f q0_ → cEq f a0_ E_15 → lv_has ls 16 [(9, .int x_1), (0, .ref a0_), (1, .int x1_), (2, .int x2_), (3, .long x3_), (5, .long x4_), (7, .int x5_), (8, .int x6_)] → W p l e ({ frames := (N + 1) + 24, cells := K_, slots := 3 * K_, locals := 60 * (N + 1) + 700 } : Room) s m [.ref a0_, .int x1_, .int x2_, .long x3_, .long x4_, .int x5_, .int x6_].toArray below meth c H locs cl_0 (3 * cl_0) Q (F0 m 46 ls []) := by
      intro g46_12_19_q0_ f H locs ls mg46_12_19_q0_ kg46_12_19_q0_ g hJ46_V_q0_ hJ46_F_q0_ hJ46_C_a0_ hl
      refine lv_iconst (v := 3) hx hb dX14_readCall_46 (by decide) ?_
      have gn := g
      refine g_newI hx hb (hts _ (List.mem_cons_of_mem _ t_320)) hK g mg46_12_19_q0_ kg46_12_19_q0_ (by decide) rfl dX14_readCall_47 (cl_1 (K := K_) hck_0 (show cl_0 + 1 ≤ K_ by omega)).1 (cl_1 (K := K_) hck_0 (show cl_0 + 1 ≤ K_ by omega)).2 (fun qn L9 kd9 f9 f H hNW mqn kqn g => ?_)
      have hWn := gn.2.2.2.1
      have mo_a := ma0_
      have mo_q := mq0_
      have hG_19 := NW.isV_ hNW hWn mq0_ kq0_ hJ46_V_q0_
      have hG_20 := NW.FR_ hNW mq0_ hJ46_F_q0_
      have hG_21 := NW.cEq_ hNW hWn ma0_ ka0_ hJ46_C_a0_
      have ka0_ := hNW.k ma0_ ka0_
      have ma0_ := hNW.mem_ ma0_
      have kq0_ := hNW.k mq0_ kq0_
      have mq0_ := hNW.mem_ mq0_
      have kg46_12_19_q0_ := hNW.k mg46_12_19_q0_ kg46_12_19_q0_
      have mg46_12_19_q0_ := hNW.mem_ mg46_12_19_q0_
      have hAm := hNW.am hAm
      have hNW := hNW.to0
      obtain ⟨cl_22, ecl_22⟩ : ∃ c9 : Nat, c9 = cl_0 + 1 := ⟨_, rfl⟩
      rw [show 3 * cl_0 + 3 = 3 * (cl_0 + 1) by omega, ← ecl_22]
      have hck_23 : cl_22 ≤ K_ := by omega
      refine lv_astore (lv' := [(10, .ref qn), (9, .int x_1), (0, .ref a0_), (1, .int x1_), (2, .int x2_), (3, .long x3_), (5, .long x4_), (7, .int x5_), (8, .int x6_)]) hx hb dX14_readCall_49 hl (by decide) rfl (fun ls hl => ?_)
      refine lv_iconst (v := 0) hx hb dX14_readCall_51 (by decide) ?_
      refine lv_istore (lv' := [(11, .int 0), (10, .ref qn), (9, .int x_1), (0, .ref a0_), (1, .int x1_), (2, .int x2_), (3, .long x3_), (5, .long x4_), (7, .int x5_), (8, .int x6_)]) hx hb dX14_readCall_52 hl (by decide) rfl (fun ls hl => ?_)
      refine lv_iconst (v := 0) hx hb dX14_readCall_54 (by decide) ?_
      refine lv_istore (lv' := [(12, .int 0), (11, .int 0), (10, .ref qn), (9, .int x_1), (0, .ref a0_), (1, .int x1_), (2, .int x2_), (3, .long x3_), (5, .long x4_), (7, .int x5_), (8, .int x6_)]) hx hb dX14_readCall_55 hl (by decide) rfl (fun ls hl => ?_)
      have join_24 : ∀ (j73_13 : Int32) (f : Nat → va_E) (H : Heap) (locs : List Loc) (ls : Array Slot), bd 0 1 j73_13 → G3 (dC, dI) L9 kd9 tys s f9 [(12, 57), (12, 58), (14, 6), (14, 7), (14, 8), (14, 9), (14, 10), (14, 11), (14, 12), (14, 13), (14, 14), (14, 15), (14, 25)] [180, 201, 202, 203, 204, 205, 206, 207, 208, 209, 210] f H locs [(12, 19, q0_, .ref g46_12_19_q0_), (14, 10, a0_, .int x_8), (14, 25, a0_, .int x_10), (14, 2, a0_, .ref q0_), (14, 16, a0_, .int o_)] → isV f q0_ V_ → FR L9 kd9 f9 f q0_ → cEq f a0_ E_15 → lv_has ls 16 [(13, .int j73_13), (12, .int 0), (11, .int 0), (10, .ref qn), (9, .int x_1), (0, .ref a0_), (1, .int x1_), (2, .int x2_), (3, .long x3_), (5, .long x4_), (7, .int x5_), (8, .int x6_)] → W p l e ({ frames := (N + 1) + 24, cells := K_, slots := 3 * K_, locals := 60 * (N + 1) + 700 } : Room) s m [.ref a0_, .int x1_, .int x2_, .long x3_, .long x4_, .int x5_, .int x6_].toArray below meth c H locs cl_22 (3 * cl_22) Q (F0 m 73 ls []) := by
        intro j73_13 f H locs ls bj73_13 g hJ73_V_q0_ hJ73_F_q0_ hJ73_C_a0_ hl
        have loop_25 : ∀ (n : Nat) (v73_13 : Int32) (v73_12 : Int32) (v73_11 : Int32) (w73_14_10_a0_ : Int32), bd 0 1 v73_13 → bd 0 12 v73_12 → bd 0 3 v73_11 → bd 0 1201 w73_14_10_a0_ → ((n : Int) - 1 < (n : Int)) → ∀ (f : Nat → va_E) (H : Heap) (locs : List Loc) (ls : Array Slot) (cl73 : Nat) (f9 : Nat → va_E), G3 (dC, dI) L9 kd9 tys s f9 [(12, 57), (12, 58), (14, 6), (14, 7), (14, 8), (14, 9), (14, 10), (14, 11), (14, 12), (14, 13), (14, 14), (14, 15), (14, 25)] [180, 201, 202, 203, 204, 205, 206, 207, 208, 209, 210] f H locs [(12, 19, q0_, .ref g46_12_19_q0_), (14, 10, a0_, .int w73_14_10_a0_), (14, 25, a0_, .int x_10), (14, 2, a0_, .ref q0_), (14, 16, a0_, .int o_)] → (∃ (V1 : PV) (E1 : Int) (A : Nat → Int32), isV f q0_ V1 ∧ FR L9 kd9 f9 f q0_ ∧ cEq f a0_ E1 ∧ exN V_ V1 ∧ wfN V1 (V1.n 57).toInt ∧ (V1.n 57).toInt - (V_.n 57).toInt ≤ E1 - cF f0 a0_ - 1 ∧ 2 * (cl73 : Int) ≤ E1 - cF f0 a0_ + 1 ∧ cF f0 a0_ + 1 ≤ E1 ∧ E1 ≤ 1202 ∧ cl73 ≤ K_ ∧ 1202 - E1 < (n : Int) ∧ NW (L) (kd) f0 f0 s.heap.size qn L9 kd9 f9 f9 ∧ isY f qn A ∧ (∀ j : Nat, (j : Int) < v73_11.toInt → EV V1 (A j) v73_12.toInt o_.toNatClampNeg) ∧ v73_11.toInt + v73_13.toInt ≤ 3) → lv_has ls 16 [(13, .int v73_13), (12, .int v73_12), (11, .int v73_11), (10, .ref qn), (9, .int x_1), (0, .ref a0_), (1, .int x1_), (2, .int x2_), (3, .long x3_), (5, .long x4_), (7, .int x5_), (8, .int x6_)] → W p l e ({ frames := (N + 1) + 24, cells := K_, slots := 3 * K_, locals := 60 * (N + 1) + 700 } : Room) s m [.ref a0_, .int x1_, .int x2_, .long x3_, .long x4_, .int x5_, .int x6_].toArray below meth c H locs cl73 (3 * cl73) Q (F0 m 73 ls []) := by
          intro n73
          induction n73 with
          | zero =>
            intro v73_13 v73_12 v73_11 w73_14_10_a0_ bv73_13 bv73_12 bv73_11 bw73_14_10_a0_ hm73 f H locs ls cl73 f9 g  ⟨V73, E73, A73, hV73, hF73, hC73, hX73, hw73, hn73, hk73, hc73, mx73, hck73, hms73, hNW, hY73, hA73, hs73⟩ hl
            exact absurd hms73 (by omega)
          | succ n73 ih73 =>
            intro v73_13 v73_12 v73_11 w73_14_10_a0_ bv73_13 bv73_12 bv73_11 bw73_14_10_a0_ hm73 f H locs ls cl73 f9 g  ⟨V73, E73, A73, hV73, hF73, hC73, hX73, hw73, hn73, hk73, hc73, mx73, hck73, hms73, hNW, hY73, hA73, hs73⟩ hl
            refine lv_iload hx hb dX14_readCall_73 (lv_at hl 0 rfl) ?_
            have kb_0 : bd 0 0 (0 : Int32) := ⟨by decide, by decide⟩
            refine lv_if_eq (tgt := 185) hx hb dX14_readCall_75 (by decide) (fun c_26 => ?_) (fun c_26 => ?_)
            · have fc_26 := eq_f c_26
              have b_27 : bd 0 0 v73_13 := eqX fc_26 bv73_13 kb_0 (by decide)
              refine lv_aload_n hx hb dX14_readCall_185 rfl (lv_at hl 5 rfl) ?_
              refine lv_aload_n hx hb dX14_readCall_186 rfl (lv_at hl 5 rfl) ?_
              refine lv_bipush (v := 41) hx hb dX14_readCall_187 (by decide) ?_
              have go_ := g
              refine g_calli (va_runV (As := [.int 41]) (rest := [.ref a0_]) ⟨hx, hb, hml, hown, hts⟩ (r_X14_isSign l dC dI L9 kd9 tys f H.size g.2.2.2.1 a0_ ma0_ ka0_ 41) (cwV 1 hts (gV_ t_2435 t_2437 t_108 t_198 t_2438) rfl rfl rfl (by decide +kernel) ⟨(show 0 + 1 ≤ N + 1 + 24 by omega), (show 8 + (2 + 11) + 0 ≤ 60 * (N + 1) + 700 by omega)⟩) (pre3V g hK ma0_ ka0_ (by decide) (q := (RX14, TX14, 67)) rfl) rfl rfl hl.1 rfl (lv_room (Nat.le_of_ble_eq_true rfl)) dX14_readCall_189 (cl_f hck73)) g hK (by decide) (by decide) (fx' := [(12, 19, q0_, .ref g46_12_19_q0_), (14, 10, a0_, .int w73_14_10_a0_), (14, 25, a0_, .int x_10), (14, 2, a0_, .ref q0_), (14, 16, a0_, .int o_)]) rfl (fun r_28 fr_28 H locs hp hMr_28 g => ?_)
              rcases hp with ⟨h_29, -⟩ | ⟨h_30, x_31, h_32, hF_33⟩
              · have hG_34 := isV.frame hMr_28 go_.2.2.2.1 mq0_ kq0_ (by decide) (by decide) hV73
                have hG_35 := FR.frame hMr_28 go_.2.2.2.1 mq0_ kq0_ (by decide) (by decide) hF73
                have hG_36 := cEq.frame hMr_28 go_.2.2.2.1 ma0_ ka0_ (by decide) (by decide) hC73
                have hG_37 := isY.frame hMr_28 go_.2.2.2.1 mqn kqn (by decide) (by decide) hY73
                obtain rfl : r_28 = 0 := h_29
                refine lv_iconst (v := 1) hx hb dX14_readCall_192 (by decide) ?_
                refine lv_aload_n hx hb dX14_readCall_193 rfl (lv_at hl 5 rfl) ?_
                refine g_geti (C := RX14) (T := TX14) (N := 67) hx hb hts (mc_ inX14) hown hK g ma0_ ka0_ (by decide) rfl 8 (by decide) rfl (hts _ (List.mem_cons_of_mem _ t_2154)) (fun _ h9 => h9) rfl dX14_readCall_194 (fun x_38 bx_38 g => ?_)
                have go_ := g
                refine g_callEv (As := [.int 0, .int 1, .int x_38]) (rest := []) ⟨hx, hb, hml, hown, hts⟩ (r_X14_need_2 l dC dI L9 kd9 tys fr_28 H.size g.2.2.2.1 a0_ ma0_ ka0_ 0 kb_0 1 x_38) (cwV 3 hts (gV_ t_2403 t_2405 t_100 t_198 t_2406) rfl rfl rfl (by decide +kernel) ⟨(show 1 + 1 ≤ N + 1 + 24 by omega), (show 8 + (4 + 11) + 22 ≤ 60 * (N + 1) + 700 by omega)⟩) (pre3V g hK ma0_ ka0_ (by decide) (q := (RX14, TX14, 67)) rfl) rfl hl.1 rfl (lv_room (Nat.le_of_ble_eq_true rfl)) dX14_readCall_197 (cl_f hck73) g hK (by decide) (by decide) (fx' := [(14, 8, a0_, .int x_38), (12, 19, q0_, .ref g46_12_19_q0_), (14, 10, a0_, .int w73_14_10_a0_), (14, 25, a0_, .int x_10), (14, 2, a0_, .ref q0_), (14, 16, a0_, .int o_)]) rfl (fun xr_39 fr_39 H locs mxr_39 kxr_39 hp hMr_39 g => ?_) (fun fr_39 H locs hp hMr_39 g => ?_)
                · have hG_40 := isV.frame hMr_39 go_.2.2.2.1 mq0_ kq0_ (by decide) (by decide) hG_34
                  have hG_41 := FR.frame hMr_39 go_.2.2.2.1 mq0_ kq0_ (by decide) (by decide) hG_35
                  have hG_42 := cEq.frame hMr_39 go_.2.2.2.1 ma0_ ka0_ (by decide) (by decide) hG_36
                  have hG_43 := isY.frame hMr_39 go_.2.2.2.1 mqn kqn (by decide) (by decide) hG_37
                  have hF_44 := NW.FR_b hNW mo_q hG_41
                  obtain ⟨mo9, ko9⟩ := NW.old hNW mxr_39 kxr_39 (by decide)
                  have g := NW.drop hNW (g.sub (fx' := []) [] rfl) (fun x h9 => by cases h9)
                  subst hQ
                  exact leavesX hempty hlocks (fun t ht hW => g_thrZ g hK mo9 ko9 ⟨hF_44, (by omega)⟩ ht hW) g.2.2.1.2.2
                · exact hp.elim
              · have hG_45 := isV.frame hMr_28 go_.2.2.2.1 mq0_ kq0_ (by decide) (by decide) hV73
                have hG_46 := FR.frame hMr_28 go_.2.2.2.1 mq0_ kq0_ (by decide) (by decide) hF73
                have hG_47 := cEq.frame hMr_28 go_.2.2.2.1 ma0_ ka0_ (by decide) (by decide) hC73
                have hG_48 := isY.frame hMr_28 go_.2.2.2.1 mqn kqn (by decide) (by decide) hY73
                obtain rfl : r_28 = 1 := h_30
                have g := g.more hF_33
                refine lv_iconst (v := 1) hx hb dX14_readCall_192 (by decide) ?_
                refine lv_aload_n hx hb dX14_readCall_193 rfl (lv_at hl 5 rfl) ?_
                refine g_geti (C := RX14) (T := TX14) (N := 67) hx hb hts (mc_ inX14) hown hK g ma0_ ka0_ (by decide) rfl 8 (by decide) rfl (hts _ (List.mem_cons_of_mem _ t_2154)) (fun _ h9 => h9) rfl dX14_readCall_194 (fun x_49 bx_49 g => ?_)
                have hs_50 := sE_1 g 1 rfl (by have h9_0 := bj73_13; unfold bd at h9_0; have h9_1 := bo_; unfold bd at h9_1; have h9_2 := b_17; unfold bd at h9_2; have h9_3 := b_16; unfold bd at h9_3; have h9_4 := bv73_11; unfold bd at h9_4; have h9_5 := bv73_12; unfold bd at h9_5; have h9_6 := b_27; unfold bd at h9_6; have h9_7 := bw73_14_10_a0_; unfold bd at h9_7; have h9_8 := bx2_; unfold bd at h9_8; have h9_9 := bx6_; unfold bd at h9_9; have h9_10 := bx_1; unfold bd at h9_10; have h9_11 := h_11; unfold bd at h9_11; have h9_12 := h_32; unfold bd at h9_12; have h9_13 := bx_49; unfold bd at h9_13; have h9_14 := h_9; unfold bd at h9_14; have h8_0 := kb_0; unfold bd at h8_0; omega)
                have kb_1 : bd 1 1 (1 : Int32) := ⟨by decide, by decide⟩
                have go_ := g
                refine g_callEv (As := [.int 1, .int 1, .int x_49]) (rest := []) ⟨hx, hb, hml, hown, hts⟩ (r_X14_need_3 l dC dI L9 kd9 tys fr_28 H.size g.2.2.2.1 a0_ ma0_ ka0_ 1 kb_1 1 x_49) (cwV 3 hts (gV_ t_2403 t_2405 t_100 t_198 t_2406) rfl rfl rfl (by decide +kernel) ⟨(show 0 + 1 ≤ N + 1 + 24 by omega), (show 8 + (4 + 11) + 0 ≤ 60 * (N + 1) + 700 by omega)⟩) (pre3V g hK ma0_ ka0_ (by decide) (q := (RX14, TX14, 67)) rfl) rfl hl.1 rfl (lv_room (Nat.le_of_ble_eq_true rfl)) dX14_readCall_197 (cl_f hck73) g hK (by decide) (by decide) (fx' := [(14, 8, a0_, .int x_49), (14, 6, a0_, .int x_31), (12, 19, q0_, .ref g46_12_19_q0_), (14, 10, a0_, .int w73_14_10_a0_), (14, 25, a0_, .int x_10), (14, 2, a0_, .ref q0_), (14, 16, a0_, .int o_)]) rfl (fun xr_51 fr_51 H locs mxr_51 kxr_51 hp hMr_51 g => ?_) (fun fr_51 H locs hp hMr_51 g => ?_)
                · have hG_52 := isV.frame hMr_51 go_.2.2.2.1 mq0_ kq0_ (by decide) (by decide) hG_45
                  have hG_53 := FR.frame hMr_51 go_.2.2.2.1 mq0_ kq0_ (by decide) (by decide) hG_46
                  have hG_54 := cEq.frame hMr_51 go_.2.2.2.1 ma0_ ka0_ (by decide) (by decide) hG_47
                  have hG_55 := isY.frame hMr_51 go_.2.2.2.1 mqn kqn (by decide) (by decide) hG_48
                  exact hp.elim
                · have hG_56 := isV.frame hMr_51 go_.2.2.2.1 mq0_ kq0_ (by decide) (by decide) hG_45
                  have hG_57 := FR.frame hMr_51 go_.2.2.2.1 mq0_ kq0_ (by decide) (by decide) hG_46
                  have hG_58 := cEq.frame hMr_51 go_.2.2.2.1 ma0_ ka0_ (by decide) (by decide) hG_47
                  have hG_59 := isY.frame hMr_51 go_.2.2.2.1 mqn kqn (by decide) (by decide) hG_48
                  refine lv_aload_n hx hb dX14_readCall_200 rfl (lv_at hl 5 rfl) ?_
                  have hs_60 := sE_1 g 1 rfl (by have h9_0 := bj73_13; unfold bd at h9_0; have h9_1 := bo_; unfold bd at h9_1; have h9_2 := b_17; unfold bd at h9_2; have h9_3 := b_16; unfold bd at h9_3; have h9_4 := bv73_11; unfold bd at h9_4; have h9_5 := bv73_12; unfold bd at h9_5; have h9_6 := b_27; unfold bd at h9_6; have h9_7 := bw73_14_10_a0_; unfold bd at h9_7; have h9_8 := bx2_; unfold bd at h9_8; have h9_9 := bx6_; unfold bd at h9_9; have h9_10 := bx_1; unfold bd at h9_10; have h9_11 := h_11; unfold bd at h9_11; have h9_12 := h_32; unfold bd at h9_12; have h9_13 := bx_49; unfold bd at h9_13; have h9_14 := h_9; unfold bd at h9_14; have h8_0 := kb_0; unfold bd at h8_0; have h8_1 := kb_1; unfold bd at h8_1; omega)
                  have go_ := g
                  refine g_callEv (As := []) (rest := []) ⟨hx, hb, hml, hown, hts⟩ (r_X14_room l dC dI L9 kd9 tys fr_51 H.size g.2.2.2.1 a0_ ma0_ ka0_) (cwV 0 hts (gV_ t_2415 t_2417 t_103 t_198 t_2418) rfl rfl rfl (by decide +kernel) ⟨(show 2 + 1 ≤ N + 1 + 24 by omega), (show 8 + (1 + 11) + 45 ≤ 60 * (N + 1) + 700 by omega)⟩) (pre3V g hK ma0_ ka0_ (by decide) (q := (RX14, TX14, 67)) rfl) rfl hl.1 rfl (lv_room (Nat.le_of_ble_eq_true rfl)) dX14_readCall_201 (cl_f hck73) g hK (by decide) (by decide) (fx' := [(14, 8, a0_, .int x_49), (14, 6, a0_, .int x_31), (12, 19, q0_, .ref g46_12_19_q0_), (14, 10, a0_, .int w73_14_10_a0_), (14, 25, a0_, .int x_10), (14, 2, a0_, .ref q0_), (14, 16, a0_, .int o_)]) rfl (fun xr_61 fr_61 H locs mxr_61 kxr_61 hp hMr_61 g => ?_) (fun fr_61 H locs hp hMr_61 g => ?_)
                  · have hG_62 := isV.frame hMr_61 go_.2.2.2.1 mq0_ kq0_ (by decide) (by decide) hG_56
                    have hG_63 := FR.frame hMr_61 go_.2.2.2.1 mq0_ kq0_ (by decide) (by decide) hG_57
                    have hG_64 := cEq.frame hMr_61 go_.2.2.2.1 ma0_ ka0_ (by decide) (by decide) hG_58
                    have hG_65 := isY.frame hMr_61 go_.2.2.2.1 mqn kqn (by decide) (by decide) hG_59
                    have hF_66 := NW.FR_b hNW mo_q hG_63
                    obtain ⟨mo9, ko9⟩ := NW.old hNW mxr_61 kxr_61 (by decide)
                    have g := NW.drop hNW (g.sub (fx' := []) [] rfl) (fun x h9 => by cases h9)
                    subst hQ
                    exact leavesX hempty hlocks (fun t ht hW => g_thrZ g hK mo9 ko9 ⟨hF_66, (by omega)⟩ ht hW) g.2.2.1.2.2
                  · obtain ⟨x_67, h_68, hF_69⟩ := hp
                    have hG_70 := isV.frame hMr_61 go_.2.2.2.1 mq0_ kq0_ (by decide) (by decide) hG_56
                    have hG_71 := FR.frame hMr_61 go_.2.2.2.1 mq0_ kq0_ (by decide) (by decide) hG_57
                    have hG_72 := cEq.frame hMr_61 go_.2.2.2.1 ma0_ ka0_ (by decide) (by decide) hG_58
                    have hG_73 := isY.frame hMr_61 go_.2.2.2.1 mqn kqn (by decide) (by decide) hG_59
                    have g := g.more hF_69
                    have e_74 := fx_same g 4 0 rfl rfl
                    have b_75 : bd 0 1200 w73_14_10_a0_ := eqX (eq_f e_74.symm) bw73_14_10_a0_ h_68 (by decide)
                    have g := g.sub (fx' := [(14, 8, a0_, .int x_49), (14, 6, a0_, .int x_31), (12, 19, q0_, .ref g46_12_19_q0_), (14, 10, a0_, .int w73_14_10_a0_), (14, 25, a0_, .int x_10), (14, 2, a0_, .ref q0_), (14, 16, a0_, .int o_)]) [1, 2, 3, 4, 5, 6, 7] rfl
                    refine lv_aload_n hx hb dX14_readCall_204 rfl (lv_at hl 5 rfl) ?_
                    refine lv_iload hx hb dX14_readCall_205 (lv_at hl 2 rfl) ?_
                    refine lv_aload_n hx hb dX14_readCall_207 rfl (lv_at hl 5 rfl) ?_
                    refine g_getk (C := RX14) (T := TX14) (N := 67) hx hb hts (mc_ inX14) hown hK g rfl 2 (by decide) rfl (hts _ (List.mem_cons_of_mem _ t_2148)) (fun _ h9 => h9) 5 rfl dX14_readCall_208 ?_
                    refine g_getk (C := RX12) (T := TX12) (N := 60) hx hb hts (mc_ inX12) hown hK g rfl 19 (by decide) rfl (hts _ (List.mem_cons_of_mem _ t_1944)) (fun _ h9 => h9) 2 rfl dX14_readCall_211 ?_
                    refine lv_iload_n hx hb dX14_readCall_214 rfl (lv_at hl 7 rfl) ?_
                    refine g_iald hx hb hK g mg46_12_19_q0_ kg46_12_19_q0_ (by decide) rfl (in_bd bx2_ (by decide)) dX14_readCall_215 (fun x_76 bx_76 cx_76 => ?_)
                    have vx_76 : x_76 = V73.i 19 x2_.toNatClampNeg := hG_70.at g 2 rfl rfl cx_76
                    refine lv_icmp_ne (tgt := 223) hx hb dX14_readCall_216 (by decide) (fun c_77 => ?_) (fun c_77 => ?_)
                    · have fc_77 := neq_f c_77
                      refine lv_iconst (v := 0) hx hb dX14_readCall_223 (by decide) ?_
                      refine lv_bipush (v := 6) hx hb dX14_readCall_224 (by decide) ?_
                      refine lv_aload_n hx hb dX14_readCall_226 rfl (lv_at hl 5 rfl) ?_
                      refine g_getk (C := RX14) (T := TX14) (N := 67) hx hb hts (mc_ inX14) hown hK g rfl 8 (by decide) rfl (hts _ (List.mem_cons_of_mem _ t_2154)) (fun _ h9 => h9) 0 rfl dX14_readCall_227 ?_
                      have hs_78 := sE_1 g 1 rfl (by have h9_0 := bj73_13; unfold bd at h9_0; have h9_1 := bo_; unfold bd at h9_1; have h9_2 := b_17; unfold bd at h9_2; have h9_3 := b_16; unfold bd at h9_3; have h9_4 := bv73_11; unfold bd at h9_4; have h9_5 := bv73_12; unfold bd at h9_5; have h9_6 := b_27; unfold bd at h9_6; have h9_7 := b_75; unfold bd at h9_7; have h9_8 := bx2_; unfold bd at h9_8; have h9_9 := bx6_; unfold bd at h9_9; have h9_10 := bx_1; unfold bd at h9_10; have h9_11 := h_11; unfold bd at h9_11; have h9_12 := h_32; unfold bd at h9_12; have h9_13 := bx_49; unfold bd at h9_13; have h9_14 := h_68; unfold bd at h9_14; have h9_15 := bx_76; unfold bd at h9_15; have h9_16 := h_9; unfold bd at h9_16; have h8_0 := kb_0; unfold bd at h8_0; have h8_1 := kb_1; unfold bd at h8_1; omega)
                      have go_ := g
                      refine g_callEv (As := [.int 0, .int 6, .int x_49]) (rest := []) ⟨hx, hb, hml, hown, hts⟩ (r_X14_need_2 l dC dI L9 kd9 tys fr_61 H.size g.2.2.2.1 a0_ ma0_ ka0_ 0 kb_0 6 x_49) (cwV 3 hts (gV_ t_2403 t_2405 t_100 t_198 t_2406) rfl rfl rfl (by decide +kernel) ⟨(show 1 + 1 ≤ N + 1 + 24 by omega), (show 8 + (4 + 11) + 22 ≤ 60 * (N + 1) + 700 by omega)⟩) (pre3V g hK ma0_ ka0_ (by decide) (q := (RX14, TX14, 67)) rfl) rfl hl.1 rfl (lv_room (Nat.le_of_ble_eq_true rfl)) dX14_readCall_230 (cl_f hck73) g hK (by decide) (by decide) (fx' := [(14, 8, a0_, .int x_49), (14, 6, a0_, .int x_31), (12, 19, q0_, .ref g46_12_19_q0_), (14, 10, a0_, .int w73_14_10_a0_), (14, 25, a0_, .int x_10), (14, 2, a0_, .ref q0_), (14, 16, a0_, .int o_)]) rfl (fun xr_79 fr_79 H locs mxr_79 kxr_79 hp hMr_79 g => ?_) (fun fr_79 H locs hp hMr_79 g => ?_)
                      · have hG_80 := isV.frame hMr_79 go_.2.2.2.1 mq0_ kq0_ (by decide) (by decide) hG_70
                        have hG_81 := FR.frame hMr_79 go_.2.2.2.1 mq0_ kq0_ (by decide) (by decide) hG_71
                        have hG_82 := cEq.frame hMr_79 go_.2.2.2.1 ma0_ ka0_ (by decide) (by decide) hG_72
                        have hG_83 := isY.frame hMr_79 go_.2.2.2.1 mqn kqn (by decide) (by decide) hG_73
                        have hF_84 := NW.FR_b hNW mo_q hG_81
                        obtain ⟨mo9, ko9⟩ := NW.old hNW mxr_79 kxr_79 (by decide)
                        have g := NW.drop hNW (g.sub (fx' := []) [] rfl) (fun x h9 => by cases h9)
                        subst hQ
                        exact leavesX hempty hlocks (fun t ht hW => g_thrZ g hK mo9 ko9 ⟨hF_84, (by omega)⟩ ht hW) g.2.2.1.2.2
                      · exact hp.elim
                    · have fc_77 := eq_f c_77
                      refine lv_iconst (v := 1) hx hb dX14_readCall_219 (by decide) ?_
                      refine lv_goto (tgt := 224) hx hb dX14_readCall_220 (by decide) ?_
                      refine lv_bipush (v := 6) hx hb dX14_readCall_224 (by decide) ?_
                      refine lv_aload_n hx hb dX14_readCall_226 rfl (lv_at hl 5 rfl) ?_
                      refine g_getk (C := RX14) (T := TX14) (N := 67) hx hb hts (mc_ inX14) hown hK g rfl 8 (by decide) rfl (hts _ (List.mem_cons_of_mem _ t_2154)) (fun _ h9 => h9) 0 rfl dX14_readCall_227 ?_
                      have hs_85 := sE_1 g 1 rfl (by have h9_0 := bj73_13; unfold bd at h9_0; have h9_1 := bo_; unfold bd at h9_1; have h9_2 := b_17; unfold bd at h9_2; have h9_3 := b_16; unfold bd at h9_3; have h9_4 := bv73_11; unfold bd at h9_4; have h9_5 := bv73_12; unfold bd at h9_5; have h9_6 := b_27; unfold bd at h9_6; have h9_7 := b_75; unfold bd at h9_7; have h9_8 := bx2_; unfold bd at h9_8; have h9_9 := bx6_; unfold bd at h9_9; have h9_10 := bx_1; unfold bd at h9_10; have h9_11 := h_11; unfold bd at h9_11; have h9_12 := h_32; unfold bd at h9_12; have h9_13 := bx_49; unfold bd at h9_13; have h9_14 := h_68; unfold bd at h9_14; have h9_15 := bx_76; unfold bd at h9_15; have h9_16 := h_9; unfold bd at h9_16; have h8_0 := kb_0; unfold bd at h8_0; have h8_1 := kb_1; unfold bd at h8_1; omega)
                      have go_ := g
                      refine g_callEv (As := [.int 1, .int 6, .int x_49]) (rest := []) ⟨hx, hb, hml, hown, hts⟩ (r_X14_need_3 l dC dI L9 kd9 tys fr_61 H.size g.2.2.2.1 a0_ ma0_ ka0_ 1 kb_1 6 x_49) (cwV 3 hts (gV_ t_2403 t_2405 t_100 t_198 t_2406) rfl rfl rfl (by decide +kernel) ⟨(show 0 + 1 ≤ N + 1 + 24 by omega), (show 8 + (4 + 11) + 0 ≤ 60 * (N + 1) + 700 by omega)⟩) (pre3V g hK ma0_ ka0_ (by decide) (q := (RX14, TX14, 67)) rfl) rfl hl.1 rfl (lv_room (Nat.le_of_ble_eq_true rfl)) dX14_readCall_230 (cl_f hck73) g hK (by decide) (by decide) (fx' := [(14, 8, a0_, .int x_49), (14, 6, a0_, .int x_31), (12, 19, q0_, .ref g46_12_19_q0_), (14, 10, a0_, .int w73_14_10_a0_), (14, 25, a0_, .int x_10), (14, 2, a0_, .ref q0_), (14, 16, a0_, .int o_)]) rfl (fun xr_86 fr_86 H locs mxr_86 kxr_86 hp hMr_86 g => ?_) (fun fr_86 H locs hp hMr_86 g => ?_)
                      · have hG_87 := isV.frame hMr_86 go_.2.2.2.1 mq0_ kq0_ (by decide) (by decide) hG_70
                        have hG_88 := FR.frame hMr_86 go_.2.2.2.1 mq0_ kq0_ (by decide) (by decide) hG_71
                        have hG_89 := cEq.frame hMr_86 go_.2.2.2.1 ma0_ ka0_ (by decide) (by decide) hG_72
                        have hG_90 := isY.frame hMr_86 go_.2.2.2.1 mqn kqn (by decide) (by decide) hG_73
                        exact hp.elim
                      · have hG_91 := isV.frame hMr_86 go_.2.2.2.1 mq0_ kq0_ (by decide) (by decide) hG_70
                        have hG_92 := FR.frame hMr_86 go_.2.2.2.1 mq0_ kq0_ (by decide) (by decide) hG_71
                        have hG_93 := cEq.frame hMr_86 go_.2.2.2.1 ma0_ ka0_ (by decide) (by decide) hG_72
                        have hG_94 := isY.frame hMr_86 go_.2.2.2.1 mqn kqn (by decide) (by decide) hG_73
                        refine lv_aload_n hx hb dX14_readCall_233 rfl (lv_at hl 5 rfl) ?_
                        refine lv_bipush (v := 41) hx hb dX14_readCall_234 (by decide) ?_
                        have hs_95 := sE_1 g 1 rfl (by have h9_0 := bj73_13; unfold bd at h9_0; have h9_1 := bo_; unfold bd at h9_1; have h9_2 := b_17; unfold bd at h9_2; have h9_3 := b_16; unfold bd at h9_3; have h9_4 := bv73_11; unfold bd at h9_4; have h9_5 := bv73_12; unfold bd at h9_5; have h9_6 := b_27; unfold bd at h9_6; have h9_7 := b_75; unfold bd at h9_7; have h9_8 := bx2_; unfold bd at h9_8; have h9_9 := bx6_; unfold bd at h9_9; have h9_10 := bx_1; unfold bd at h9_10; have h9_11 := h_11; unfold bd at h9_11; have h9_12 := h_32; unfold bd at h9_12; have h9_13 := bx_49; unfold bd at h9_13; have h9_14 := h_68; unfold bd at h9_14; have h9_15 := bx_76; unfold bd at h9_15; have h9_16 := h_9; unfold bd at h9_16; have h8_0 := kb_0; unfold bd at h8_0; have h8_1 := kb_1; unfold bd at h8_1; omega)
                        have go_ := g
                        refine g_callEv (As := [.int 41]) (rest := []) ⟨hx, hb, hml, hown, hts⟩ (r_X14_closing l dC dI L9 kd9 tys fr_86 H.size g.2.2.2.1 adK adV a0_ ma0_ ka0_ 41 w73_14_10_a0_ (bd_sub b_75 (by decide)) x_10 h_11 (g.fcts [3, 4] rfl)) (cwV 1 hts (gV_ t_2492 t_2494 t_120 t_198 t_2495) rfl rfl rfl (by decide +kernel) ⟨(show 8 + 1 ≤ N + 1 + 24 by omega), (show 8 + (2 + 11) + 176 ≤ 60 * (N + 1) + 700 by omega)⟩) (pre3VA g hK hAm ma0_ ka0_ (by decide) (q := (RX14, TX14, 67)) rfl) rfl hl.1 rfl (lv_room (Nat.le_of_ble_eq_true rfl)) dX14_readCall_236 (cl_f hck73) g hK (by decide) (by decide) (fx' := [(12, 19, q0_, .ref g46_12_19_q0_), (14, 2, a0_, .ref q0_), (14, 16, a0_, .int o_)]) rfl (fun xr_96 fr_96 H locs mxr_96 kxr_96 hp hMr_96 g => ?_) (fun fr_96 H locs hp hMr_96 g => ?_)
                        · have hG_97 := isV.frame hMr_96 go_.2.2.2.1 mq0_ kq0_ (by decide) (by decide) hG_91
                          have hG_98 := FR.frame hMr_96 go_.2.2.2.1 mq0_ kq0_ (by decide) (by decide) hG_92
                          have hG_99 := isY.frame hMr_96 go_.2.2.2.1 mqn kqn (by decide) (by decide) hG_94
                          have hF_100 := NW.FR_b hNW mo_q hG_98
                          obtain ⟨mo9, ko9⟩ := NW.old hNW mxr_96 kxr_96 (by decide)
                          have g := NW.drop hNW (g.sub (fx' := []) [] rfl) (fun x h9 => by cases h9)
                          subst hQ
                          exact leavesX hempty hlocks (fun t ht hW => g_thrZ g hK mo9 ko9 ⟨hF_100, (by omega)⟩ ht hW) g.2.2.1.2.2
                        · obtain ⟨hx_101, h_102, x_103, h_104, x_105, ⟨h_106, rh_106⟩, hF_107⟩ := hp
                          have hG_108 := isV.frame hMr_96 go_.2.2.2.1 mq0_ kq0_ (by decide) (by decide) hG_91
                          have hG_109 := FR.frame hMr_96 go_.2.2.2.1 mq0_ kq0_ (by decide) (by decide) hG_92
                          have hG_110 := isY.frame hMr_96 go_.2.2.2.1 mqn kqn (by decide) (by decide) hG_94
                          obtain ⟨E_111, hE_111⟩ : ∃ E : Int, cEq fr_96 a0_ E := ⟨_, rfl⟩
                          have mxE_111 : E_111 ≤ 1202 := by have h9 := cF_le g ma0_ ka0_; have h8 : cF _ _ = _ := hE_111; omega
                          have lE_111 : E73 + 1 ≤ E_111 := by have h9 := hx_101; have h8 : cF _ _ = _ := hE_111; have h7 : cF _ _ = _ := hG_93; omega
                          have g := g.more hF_107
                          refine lv_aload_n hx hb dX14_readCall_239 rfl (lv_at hl 5 rfl) ?_
                          refine lv_iload hx hb dX14_readCall_240 (lv_at hl 11 rfl) ?_
                          refine lv_if_eq (tgt := 252) hx hb dX14_readCall_242 (by decide) (fun c_112 => ?_) (fun c_112 => ?_)
                          · have fc_112 := eq_f c_112
                            have b_113 : bd 0 0 x6_ := eqX fc_112 bx6_ kb_0 (by decide)
                            refine lv_iconst (v := 1) hx hb dX14_readCall_252 (by decide) ?_
                            refine lv_goto (tgt := 257) hx hb dX14_readCall_253 (by decide) ?_
                            refine lv_bipush (v := 7) hx hb dX14_readCall_257 (by decide) ?_
                            refine lv_iload hx hb dX14_readCall_259 (lv_at hl 10 rfl) ?_
                            have go_ := g
                            refine g_callEv (As := [.int 1, .int 7, .int x5_]) (rest := []) ⟨hx, hb, hml, hown, hts⟩ (r_X14_need_3 l dC dI L9 kd9 tys fr_96 H.size g.2.2.2.1 a0_ ma0_ ka0_ 1 kb_1 7 x5_) (cwV 3 hts (gV_ t_2403 t_2405 t_100 t_198 t_2406) rfl rfl rfl (by decide +kernel) ⟨(show 0 + 1 ≤ N + 1 + 24 by omega), (show 8 + (4 + 11) + 0 ≤ 60 * (N + 1) + 700 by omega)⟩) (pre3V g hK ma0_ ka0_ (by decide) (q := (RX14, TX14, 67)) rfl) rfl hl.1 rfl (lv_room (Nat.le_of_ble_eq_true rfl)) dX14_readCall_261 (cl_f hck73) g hK (by decide) (by decide) (fx' := [(14, 10, a0_, .int x_103), (14, 25, a0_, .int x_105), (12, 19, q0_, .ref g46_12_19_q0_), (14, 2, a0_, .ref q0_), (14, 16, a0_, .int o_)]) rfl (fun xr_114 fr_114 H locs mxr_114 kxr_114 hp hMr_114 g => ?_) (fun fr_114 H locs hp hMr_114 g => ?_)
                            · have hG_115 := isV.frame hMr_114 go_.2.2.2.1 mq0_ kq0_ (by decide) (by decide) hG_108
                              have hG_116 := FR.frame hMr_114 go_.2.2.2.1 mq0_ kq0_ (by decide) (by decide) hG_109
                              have hG_117 := isY.frame hMr_114 go_.2.2.2.1 mqn kqn (by decide) (by decide) hG_110
                              have hG_118 := cEq.frame hMr_114 go_.2.2.2.1 ma0_ ka0_ (by decide) (by decide) hE_111
                              exact hp.elim
                            · have hG_119 := isV.frame hMr_114 go_.2.2.2.1 mq0_ kq0_ (by decide) (by decide) hG_108
                              have hG_120 := FR.frame hMr_114 go_.2.2.2.1 mq0_ kq0_ (by decide) (by decide) hG_109
                              have hG_121 := isY.frame hMr_114 go_.2.2.2.1 mqn kqn (by decide) (by decide) hG_110
                              have hG_122 := cEq.frame hMr_114 go_.2.2.2.1 ma0_ ka0_ (by decide) (by decide) hE_111
                              refine lv_aload_n hx hb dX14_readCall_264 rfl (lv_at hl 5 rfl) ?_
                              refine lv_iload_n hx hb dX14_readCall_265 rfl (lv_at hl 6 rfl) ?_
                              refine lv_iconst (v := (-1)) hx hb dX14_readCall_266 (by decide) ?_
                              refine lv_iconst (v := (-1)) hx hb dX14_readCall_267 (by decide) ?_
                              refine lv_iconst (v := 1) hx hb dX14_readCall_268 (by decide) ?_
                              refine lv_iload hx hb dX14_readCall_269 (lv_at hl 1 rfl) ?_
                              refine lv_iadd hx hb dX14_readCall_271 ?_
                              refine lv_topi (fun y_123 ey_123 => ?_)
                              have ty_123 := add_bd ey_123 kb_1 bv73_12 (by decide)
                              have b_124 : bd 1 13 y_123 := add_rg ty_123 kb_1 bv73_12 (by decide)
                              have hnb : (V73.n 57).toInt ≤ 2499 := by omega
                              have go_ := g
                              refine g_calli (va_runV (As := [.int x1_, .int (-1), .int (-1), .int y_123]) (rest := []) ⟨hx, hb, hml, hown, hts⟩ (r_X14_node l dC dI L9 kd9 tys fr_114 H.size g.2.2.2.1 a0_ ma0_ ka0_ x1_ (-1) (-1) y_123 q0_ mq0_ kq0_ o_ bo_ V73 hG_119 hnb (g.fcts [3, 4] rfl)) (cwV 4 hts (gV_ t_2480 t_2482 t_117 t_198 t_2483) rfl rfl rfl (by decide +kernel) ⟨(show 0 + 1 ≤ N + 1 + 24 by omega), (show 8 + (6 + 11) + 0 ≤ 60 * (N + 1) + 700 by omega)⟩) (pre3V g hK ma0_ ka0_ (by decide) (q := (RX14, TX14, 67)) rfl) rfl rfl hl.1 rfl (lv_room (Nat.le_of_ble_eq_true rfl)) dX14_readCall_272 (cl_f hck73)) g hK (by decide) (by decide) (fx' := [(14, 10, a0_, .int x_103), (14, 25, a0_, .int x_105), (12, 19, q0_, .ref g46_12_19_q0_), (14, 2, a0_, .ref q0_), (14, 16, a0_, .int o_)]) rfl (fun r_125 fr_125 H locs hp hMr_125 g => ?_)
                              obtain ⟨hx_126, hx_127, h_128, x_129, h_130, hF_131⟩ := hp
                              have hG_132 := isY.frame hMr_125 go_.2.2.2.1 mqn kqn (by decide) (by decide) hG_121
                              have hG_133 := cEq.frame hMr_125 go_.2.2.2.1 ma0_ ka0_ (by decide) (by decide) hG_122
                              have hF_134 := FR.call (mds := []) (mas := []) hG_120 go_ mq0_ kq0_ rfl hx_127
                              obtain ⟨V_135, hV_136, hN_137⟩ := hx_126
                              have g := g.more hF_131
                              refine lv_istore (lv' := [(14, .int r_125), (13, .int v73_13), (12, .int v73_12), (11, .int v73_11), (10, .ref qn), (9, .int x_1), (0, .ref a0_), (1, .int x1_), (2, .int x2_), (3, .long x3_), (5, .long x4_), (7, .int x5_), (8, .int x6_)]) hx hb dX14_readCall_275 hl (by decide) rfl (fun ls hl => ?_)
                              refine lv_aload_n hx hb dX14_readCall_277 rfl (lv_at hl 6 rfl) ?_
                              refine g_getk (C := RX14) (T := TX14) (N := 67) hx hb hts (mc_ inX14) hown hK g rfl 2 (by decide) rfl (hts _ (List.mem_cons_of_mem _ t_2148)) (fun _ h9 => h9) 4 rfl dX14_readCall_278 ?_
                              refine g_getr (K := 204) (C := RX12) (T := TX12) (N := 60) hx hb hts (mc_ inX12) hown hK g mq0_ kq0_ (by decide) rfl 50 (by decide) rfl (hts _ (List.mem_cons_of_mem _ t_2004)) (fun _ h9 => h9) rfl dX14_readCall_281 (fun a_138 ma_138 ka_138 g => ?_)
                              refine lv_iload hx hb dX14_readCall_284 (lv_at hl 0 rfl) ?_
                              refine lv_iload_n hx hb dX14_readCall_286 rfl (lv_at hl 8 rfl) ?_
                              have gp_139 := g
                              have go_ := g
                              refine g_iastX hx hb hK g ma_138 ka_138 (by decide) rfl (in_bd h_128 (by decide)) (bd_sub bx2_ (by decide)) (by decide) dX14_readCall_287 (fun f H locs hM_140 u_143 g => ?_)
                              have hG_141 := isY.frame hM_140 go_.2.2.2.1 mqn kqn (by decide) (by decide) hG_132
                              have hG_142 := cEq.frame hM_140 go_.2.2.2.1 ma0_ ka0_ (by decide) (by decide) hG_133
                              have hV_144 := isV.ui hV_136 gp_139 0 rfl mq0_ kq0_ rfl u_143
                              have hF_145 := FR.arr hF_134 gp_139 0 rfl mq0_ kq0_ rfl rfl u_143.1
                              have hN_146 := NN.s50 (v := x2_) hN_137 h_128.1
                              refine lv_aload_n hx hb dX14_readCall_288 rfl (lv_at hl 6 rfl) ?_
                              refine g_getk (C := RX14) (T := TX14) (N := 67) hx hb hts (mc_ inX14) hown hK g rfl 2 (by decide) rfl (hts _ (List.mem_cons_of_mem _ t_2148)) (fun _ h9 => h9) 5 rfl dX14_readCall_289 ?_
                              refine g_getr (K := 206) (C := RX12) (T := TX12) (N := 60) hx hb hts (mc_ inX12) hown hK g mq0_ kq0_ (by decide) rfl 52 (by decide) rfl (hts _ (List.mem_cons_of_mem _ t_2008)) (fun _ h9 => h9) rfl dX14_readCall_292 (fun a_147 ma_147 ka_147 g => ?_)
                              refine lv_iload hx hb dX14_readCall_295 (lv_at hl 0 rfl) ?_
                              refine lv_iload hx hb dX14_readCall_297 (lv_at hl 3 rfl) ?_
                              have gp_148 := g
                              have go_ := g
                              refine g_iastX hx hb hK g ma_147 ka_147 (by decide) rfl (in_bd h_128 (by decide)) bv73_11 (by decide) dX14_readCall_299 (fun f H locs hM_149 u_152 g => ?_)
                              have hG_150 := isY.frame hM_149 go_.2.2.2.1 mqn kqn (by decide) (by decide) hG_141
                              have hG_151 := cEq.frame hM_149 go_.2.2.2.1 ma0_ ka0_ (by decide) (by decide) hG_142
                              have hV_153 := isV.ui hV_144 gp_148 0 rfl mq0_ kq0_ rfl u_152
                              have hF_154 := FR.arr hF_145 gp_148 0 rfl mq0_ kq0_ rfl rfl u_152.1
                              have hN_155 := NN.s52 (v := v73_11) hN_146 h_128.1
                              refine lv_aload_n hx hb dX14_readCall_300 rfl (lv_at hl 6 rfl) ?_
                              refine g_getk (C := RX14) (T := TX14) (N := 67) hx hb hts (mc_ inX14) hown hK g rfl 2 (by decide) rfl (hts _ (List.mem_cons_of_mem _ t_2148)) (fun _ h9 => h9) 6 rfl dX14_readCall_301 ?_
                              refine g_getr (K := 209) (C := RX12) (T := TX12) (N := 60) hx hb hts (mc_ inX12) hown hK g mq0_ kq0_ (by decide) rfl 55 (by decide) rfl (hts _ (List.mem_cons_of_mem _ t_2014)) (fun _ h9 => h9) rfl dX14_readCall_304 (fun a_156 ma_156 ka_156 g => ?_)
                              refine lv_iload hx hb dX14_readCall_307 (lv_at hl 0 rfl) ?_
                              refine lv_lload_n hx hb dX14_readCall_309 rfl (lv_at hl 9 rfl) ?_
                              have gp_157 := g
                              have go_ := g
                              refine g_lastX hx hb hK g ma_156 ka_156 (by decide) rfl (in_bd h_128 (by decide)) (by decide) dX14_readCall_310 (fun f H locs hM_158 u_161 g => ?_)
                              have hG_159 := isY.frame hM_158 go_.2.2.2.1 mqn kqn (by decide) (by decide) hG_150
                              have hG_160 := cEq.frame hM_158 go_.2.2.2.1 ma0_ ka0_ (by decide) (by decide) hG_151
                              have hV_162 := isV.ul hV_153 gp_157 0 rfl mq0_ kq0_ rfl u_161
                              have hF_163 := FR.arr hF_154 gp_157 0 rfl mq0_ kq0_ rfl rfl u_161.1
                              have hN_164 := NN.s55 (w := x3_) hN_155 h_128.1
                              refine lv_aload_n hx hb dX14_readCall_311 rfl (lv_at hl 6 rfl) ?_
                              refine g_getk (C := RX14) (T := TX14) (N := 67) hx hb hts (mc_ inX14) hown hK g rfl 2 (by decide) rfl (hts _ (List.mem_cons_of_mem _ t_2148)) (fun _ h9 => h9) 7 rfl dX14_readCall_312 ?_
                              refine g_getr (K := 210) (C := RX12) (T := TX12) (N := 60) hx hb hts (mc_ inX12) hown hK g mq0_ kq0_ (by decide) rfl 56 (by decide) rfl (hts _ (List.mem_cons_of_mem _ t_2016)) (fun _ h9 => h9) rfl dX14_readCall_315 (fun a_165 ma_165 ka_165 g => ?_)
                              refine lv_iload hx hb dX14_readCall_318 (lv_at hl 0 rfl) ?_
                              refine lv_lload hx hb dX14_readCall_320 (lv_at hl 10 rfl) ?_
                              have gp_166 := g
                              have go_ := g
                              refine g_lastX hx hb hK g ma_165 ka_165 (by decide) rfl (in_bd h_128 (by decide)) (by decide) dX14_readCall_322 (fun f H locs hM_167 u_170 g => ?_)
                              have hG_168 := isY.frame hM_167 go_.2.2.2.1 mqn kqn (by decide) (by decide) hG_159
                              have hG_169 := cEq.frame hM_167 go_.2.2.2.1 ma0_ ka0_ (by decide) (by decide) hG_160
                              have hV_171 := isV.ul hV_162 gp_166 0 rfl mq0_ kq0_ rfl u_170
                              have hF_172 := FR.arr hF_163 gp_166 0 rfl mq0_ kq0_ rfl rfl u_170.1
                              have hN_173 := NN.s56 (w := x4_) hN_164 h_128.1
                              refine lv_iconst (v := 0) hx hb dX14_readCall_323 (by decide) ?_
                              refine lv_istore (lv' := [(15, .int 0), (14, .int r_125), (13, .int v73_13), (12, .int v73_12), (11, .int v73_11), (10, .ref qn), (9, .int x_1), (0, .ref a0_), (1, .int x1_), (2, .int x2_), (3, .long x3_), (5, .long x4_), (7, .int x5_), (8, .int x6_)]) hx hb dX14_readCall_324 hl (by decide) rfl (fun ls hl => ?_)
                              have loop_174 : ∀ (n : Nat) (v326_15 : Int32), bd 0 3 v326_15 → (3 - v326_15.toInt < (n : Int)) → ∀ (f : Nat → va_E) (H : Heap) (locs : List Loc) (ls : Array Slot), G3 (dC, dI) L9 kd9 tys s f9 [(12, 57), (12, 58), (14, 6), (14, 7), (14, 8), (14, 9), (14, 10), (14, 11), (14, 12), (14, 13), (14, 14), (14, 15), (14, 25)] [180, 201, 202, 203, 204, 205, 206, 207, 208, 209, 210] f H locs [(12, 56, q0_, .ref a_165), (12, 55, q0_, .ref a_156), (12, 52, q0_, .ref a_147), (12, 50, q0_, .ref a_138), (12, 57, q0_, .int x_129), (14, 10, a0_, .int x_103), (14, 25, a0_, .int x_105), (12, 19, q0_, .ref g46_12_19_q0_), (14, 2, a0_, .ref q0_), (14, 16, a0_, .int o_)] → isY f qn A73 → cEq f a0_ E_111 → (∃ V1 : PV, isV f q0_ V1 ∧ FR L9 kd9 f9 f q0_ ∧ NN V73 V1 r_125 x1_ (-1) (-1) x2_ y_123 v73_11 o_ x3_ x4_ ∧ (∀ j : Nat, (j : Int) < v326_15.toInt → V1.i 53 (3 * r_125.toNatClampNeg + j) = A73 j)) → lv_has ls 16 [(15, .int v326_15), (14, .int r_125), (13, .int v73_13), (12, .int v73_12), (11, .int v73_11), (10, .ref qn), (9, .int x_1), (0, .ref a0_), (1, .int x1_), (2, .int x2_), (3, .long x3_), (5, .long x4_), (7, .int x5_), (8, .int x6_)] → W p l e ({ frames := (N + 1) + 24, cells := K_, slots := 3 * K_, locals := 60 * (N + 1) + 700 } : Room) s m [.ref a0_, .int x1_, .int x2_, .long x3_, .long x4_, .int x5_, .int x6_].toArray below meth c H locs cl73 (3 * cl73) Q (F0 m 326 ls []) := by
                                intro n326
                                induction n326 with
                                | zero =>
                                  intro v326_15 bv326_15 hm326 f H locs ls g hG326_Y_qn hG326_C_a0_ ⟨V326, hV326, hF326, hN326, hA326⟩ hl
                                  exact absurd hm326 (by have h9_v326_15 := bv326_15; unfold bd at h9_v326_15; omega)
                                | succ n326 ih326 =>
                                  intro v326_15 bv326_15 hm326 f H locs ls g hG326_Y_qn hG326_C_a0_ ⟨V326, hV326, hF326, hN326, hA326⟩ hl
                                  refine lv_iload hx hb dX14_readCall_326 (lv_at hl 0 rfl) ?_
                                  refine lv_iload hx hb dX14_readCall_328 (lv_at hl 4 rfl) ?_
                                  refine lv_icmp_ge (tgt := 359) hx hb dX14_readCall_330 (by decide) (fun c_175 => ?_) (fun c_175 => ?_)
                                  · have fc_175 := le_f c_175
                                    refine lv_iload hx hb dX14_readCall_359 (lv_at hl 1 rfl) ?_
                                    have hf_176 : fin V73 V326 r_125 hm_ o_ := nd_call (Vb := V_) (A := A73) hN326 h_128.1 hw73 ⟨(by have h9_0 := bj73_13; unfold bd at h9_0; have h9_1 := bo_; unfold bd at h9_1; have h9_2 := b_17; unfold bd at h9_2; have h9_3 := h_128; unfold bd at h9_3; have h9_4 := b_16; unfold bd at h9_4; have h9_5 := bv326_15; unfold bd at h9_5; have h9_6 := bv73_11; unfold bd at h9_6; have h9_7 := bv73_12; unfold bd at h9_7; have h9_8 := b_27; unfold bd at h9_8; have h9_9 := b_75; unfold bd at h9_9; have h9_10 := bx2_; unfold bd at h9_10; have h9_11 := b_113; unfold bd at h9_11; have h9_12 := bx_1; unfold bd at h9_12; have h9_13 := h_11; unfold bd at h9_13; have h9_14 := h_104; unfold bd at h9_14; have h9_15 := h_106; unfold bd at h9_15; have h9_16 := h_130; unfold bd at h9_16; have h9_17 := h_32; unfold bd at h9_17; have h9_18 := bx_49; unfold bd at h9_18; have h9_19 := h_68; unfold bd at h9_19; have h9_20 := bx_76; unfold bd at h9_20; have h9_21 := h_9; unfold bd at h9_21; have h9_22 := b_124; unfold bd at h9_22; have h8_0 := kb_0; unfold bd at h8_0; have h8_1 := kb_1; unfold bd at h8_1; omega), (by have h9_0 := bj73_13; unfold bd at h9_0; have h9_1 := bo_; unfold bd at h9_1; have h9_2 := b_17; unfold bd at h9_2; have h9_3 := h_128; unfold bd at h9_3; have h9_4 := b_16; unfold bd at h9_4; have h9_5 := bv326_15; unfold bd at h9_5; have h9_6 := bv73_11; unfold bd at h9_6; have h9_7 := bv73_12; unfold bd at h9_7; have h9_8 := b_27; unfold bd at h9_8; have h9_9 := b_75; unfold bd at h9_9; have h9_10 := bx2_; unfold bd at h9_10; have h9_11 := b_113; unfold bd at h9_11; have h9_12 := bx_1; unfold bd at h9_12; have h9_13 := h_11; unfold bd at h9_13; have h9_14 := h_104; unfold bd at h9_14; have h9_15 := h_106; unfold bd at h9_15; have h9_16 := h_130; unfold bd at h9_16; have h9_17 := h_32; unfold bd at h9_17; have h9_18 := bx_49; unfold bd at h9_18; have h9_19 := h_68; unfold bd at h9_19; have h9_20 := bx_76; unfold bd at h9_20; have h9_21 := h_9; unfold bd at h9_21; have h9_22 := b_124; unfold bd at h9_22; have h8_0 := kb_0; unfold bd at h8_0; have h8_1 := kb_1; unfold bd at h8_1; omega)⟩ (by have h9_0 := bj73_13; unfold bd at h9_0; have h9_1 := bo_; unfold bd at h9_1; have h9_2 := b_17; unfold bd at h9_2; have h9_3 := h_128; unfold bd at h9_3; have h9_4 := b_16; unfold bd at h9_4; have h9_5 := bv326_15; unfold bd at h9_5; have h9_6 := bv73_11; unfold bd at h9_6; have h9_7 := bv73_12; unfold bd at h9_7; have h9_8 := b_27; unfold bd at h9_8; have h9_9 := b_75; unfold bd at h9_9; have h9_10 := bx2_; unfold bd at h9_10; have h9_11 := b_113; unfold bd at h9_11; have h9_12 := bx_1; unfold bd at h9_12; have h9_13 := h_11; unfold bd at h9_13; have h9_14 := h_104; unfold bd at h9_14; have h9_15 := h_106; unfold bd at h9_15; have h9_16 := h_130; unfold bd at h9_16; have h9_17 := h_32; unfold bd at h9_17; have h9_18 := bx_49; unfold bd at h9_18; have h9_19 := h_68; unfold bd at h9_19; have h9_20 := bx_76; unfold bd at h9_20; have h9_21 := h_9; unfold bd at h9_21; have h9_22 := b_124; unfold bd at h9_22; have h8_0 := kb_0; unfold bd at h8_0; have h8_1 := kb_1; unfold bd at h8_1; omega) (by rw [hX73.2.2.1 0 (by decide)]; exact ho) hop (by have h9_0 := bj73_13; unfold bd at h9_0; have h9_1 := bo_; unfold bd at h9_1; have h9_2 := b_17; unfold bd at h9_2; have h9_3 := h_128; unfold bd at h9_3; have h9_4 := b_16; unfold bd at h9_4; have h9_5 := bv326_15; unfold bd at h9_5; have h9_6 := bv73_11; unfold bd at h9_6; have h9_7 := bv73_12; unfold bd at h9_7; have h9_8 := b_27; unfold bd at h9_8; have h9_9 := b_75; unfold bd at h9_9; have h9_10 := bx2_; unfold bd at h9_10; have h9_11 := b_113; unfold bd at h9_11; have h9_12 := bx_1; unfold bd at h9_12; have h9_13 := h_11; unfold bd at h9_13; have h9_14 := h_104; unfold bd at h9_14; have h9_15 := h_106; unfold bd at h9_15; have h9_16 := h_130; unfold bd at h9_16; have h9_17 := h_32; unfold bd at h9_17; have h9_18 := bx_49; unfold bd at h9_18; have h9_19 := h_68; unfold bd at h9_19; have h9_20 := bx_76; unfold bd at h9_20; have h9_21 := h_9; unfold bd at h9_21; have h9_22 := b_124; unfold bd at h9_22; have h8_0 := kb_0; unfold bd at h8_0; have h8_1 := kb_1; unfold bd at h8_1; omega) (fun j hj => hA326 j (by omega)) hA73 (by have h9_0 := bj73_13; unfold bd at h9_0; have h9_1 := bo_; unfold bd at h9_1; have h9_2 := b_17; unfold bd at h9_2; have h9_3 := h_128; unfold bd at h9_3; have h9_4 := b_16; unfold bd at h9_4; have h9_5 := bv326_15; unfold bd at h9_5; have h9_6 := bv73_11; unfold bd at h9_6; have h9_7 := bv73_12; unfold bd at h9_7; have h9_8 := b_27; unfold bd at h9_8; have h9_9 := b_75; unfold bd at h9_9; have h9_10 := bx2_; unfold bd at h9_10; have h9_11 := b_113; unfold bd at h9_11; have h9_12 := bx_1; unfold bd at h9_12; have h9_13 := h_11; unfold bd at h9_13; have h9_14 := h_104; unfold bd at h9_14; have h9_15 := h_106; unfold bd at h9_15; have h9_16 := h_130; unfold bd at h9_16; have h9_17 := h_32; unfold bd at h9_17; have h9_18 := bx_49; unfold bd at h9_18; have h9_19 := h_68; unfold bd at h9_19; have h9_20 := bx_76; unfold bd at h9_20; have h9_21 := h_9; unfold bd at h9_21; have h9_22 := b_124; unfold bd at h9_22; have h8_0 := kb_0; unfold bd at h8_0; have h8_1 := kb_1; unfold bd at h8_1; omega) (fun q9 => hX73.fnd_.mpr (hf3 q9)) (fun q9 => by rw [hX73.1 3 (by decide) (by decide)]; exact ⟨(hf9 q9).1, hX73.fnd_.mpr (hf9 q9).2⟩)
                                    have ho_180 : (V326.i 47 r_125.toNatClampNeg).toInt = x1_.toInt := (congrArg Int32.toInt (hN326).2.2.2.1)
                                    obtain ⟨V_177, hV_178, hf_179, ho_180⟩ : ∃ V1 : PV, isV f q0_ V1 ∧ fin V73 V1 r_125 hm_ o_ ∧ (V1.i 47 r_125.toNatClampNeg).toInt = x1_.toInt := ⟨_, hV326, hf_176, ho_180⟩
                                    have hf_179n := hf_179.2.2.2
                                    have hx_181 := exN.tr hX73 hf_179.1
                                    obtain rfl : op_ = x_105 := Int32.toInt_inj.mp (by have h9_0 := bj73_13; unfold bd at h9_0; have h9_1 := bo_; unfold bd at h9_1; have h9_2 := b_17; unfold bd at h9_2; have h9_3 := h_128; unfold bd at h9_3; have h9_4 := b_16; unfold bd at h9_4; have h9_5 := bv326_15; unfold bd at h9_5; have h9_6 := bv73_11; unfold bd at h9_6; have h9_7 := bv73_12; unfold bd at h9_7; have h9_8 := b_27; unfold bd at h9_8; have h9_9 := b_75; unfold bd at h9_9; have h9_10 := bx2_; unfold bd at h9_10; have h9_11 := b_113; unfold bd at h9_11; have h9_12 := bx_1; unfold bd at h9_12; have h9_13 := h_11; unfold bd at h9_13; have h9_14 := h_104; unfold bd at h9_14; have h9_15 := h_106; unfold bd at h9_15; have h9_16 := h_130; unfold bd at h9_16; have h9_17 := h_32; unfold bd at h9_17; have h9_18 := bx_49; unfold bd at h9_18; have h9_19 := h_68; unfold bd at h9_19; have h9_20 := bx_76; unfold bd at h9_20; have h9_21 := h_9; unfold bd at h9_21; have h9_22 := b_124; unfold bd at h9_22; have h8_0 := kb_0; unfold bd at h8_0; have h8_1 := kb_1; unfold bd at h8_1; omega)
                                    have g := NW.drop hNW (g.sub (fx' := [(14, 25, a0_, .int op_), (14, 10, a0_, .int x_103)]) [6, 5] rfl) (fun x h9 => by rcases List.mem_cons.mp h9 with h9 | h9 <;> first | (rw [h9]; exact mo_a) | (rw [List.mem_singleton.mp h9]; exact mo_a))
                                    have hF_182 := NW.FR_b hNW mo_q hF326
                                    have h9c : cF f a0_ = _ := hG326_C_a0_
                                    subst hQ
                                    exact iretX (v := r_125) hx hb hr (fun t ht hW => g_retZ g hK ⟨_, rfl, ⟨⟨_, hV_178, hF_182, hx_181, hf_179.2.1, hf_179.2.2.1, ho_180, (by omega), (by omega), (by omega)⟩, x_103, h_104, (g.fcts [0, 1] rfl)⟩⟩ ht hW) g.2.2.1.2.2 dX14_readCall_361 hlocks
                                  · have fc_175 := nle_f c_175
                                    have b_183 : bd 0 2 v326_15 := ltL fc_175 bv326_15 bv73_11 (by decide)
                                    have b_184 : bd 1 3 v73_11 := ltR fc_175 bv326_15 bv73_11 (by decide)
                                    refine lv_aload_n hx hb dX14_readCall_333 rfl (lv_at hl 7 rfl) ?_
                                    refine g_getk (C := RX14) (T := TX14) (N := 67) hx hb hts (mc_ inX14) hown hK g rfl 2 (by decide) rfl (hts _ (List.mem_cons_of_mem _ t_2148)) (fun _ h9 => h9) 8 rfl dX14_readCall_334 ?_
                                    refine g_getr (K := 207) (C := RX12) (T := TX12) (N := 60) hx hb hts (mc_ inX12) hown hK g mq0_ kq0_ (by decide) rfl 53 (by decide) rfl (hts _ (List.mem_cons_of_mem _ t_2010)) (fun _ h9 => h9) rfl dX14_readCall_337 (fun a_185 ma_185 ka_185 g => ?_)
                                    refine lv_iconst (v := 3) hx hb dX14_readCall_340 (by decide) ?_
                                    refine lv_iload hx hb dX14_readCall_341 (lv_at hl 1 rfl) ?_
                                    refine lv_imul hx hb dX14_readCall_343 ?_
                                    refine lv_topi (fun y_186 ey_186 => ?_)
                                    have ty_186 := cmul_bd ey_186 (c := 3) (by decide) h_128 (by decide)
                                    have b_187 : bd 0 7497 y_186 := mulc_rg ty_186 h_128 (by decide)
                                    refine lv_iload hx hb dX14_readCall_344 (lv_at hl 0 rfl) ?_
                                    refine lv_iadd hx hb dX14_readCall_346 ?_
                                    refine lv_topi (fun y_188 ey_188 => ?_)
                                    have ty_188 := add_bd ey_188 b_187 b_183 (by decide)
                                    have b_189 : bd 0 7499 y_188 := add_rg ty_188 b_187 b_183 (by decide)
                                    refine lv_aload hx hb dX14_readCall_347 (lv_at hl 5 rfl) ?_
                                    refine lv_iload hx hb dX14_readCall_349 (lv_at hl 0 rfl) ?_
                                    refine g_iald hx hb hK g mqn kqn (by decide) rfl (in_bd b_183 (by decide)) dX14_readCall_351 (fun x_190 bx_190 cx_190 => ?_)
                                    have vAx_190 : x_190 = A73 v326_15.toNatClampNeg := cx_190.trans (hG326_Y_qn.at_ _)
                                    have gp_191 := g
                                    have go_ := g
                                    refine g_iastX hx hb hK g ma_185 ka_185 (by decide) rfl (in_bd b_189 (by decide)) (bdT x_190) (by decide) dX14_readCall_352 (fun f H locs hM_192 u_195 g => ?_)
                                    have hG_193 := isY.frame hM_192 go_.2.2.2.1 mqn kqn (by decide) (by decide) hG326_Y_qn
                                    have hG_194 := cEq.frame hM_192 go_.2.2.2.1 ma0_ ka0_ (by decide) (by decide) hG326_C_a0_
                                    have hV_196 := isV.ui hV326 gp_191 0 rfl mq0_ kq0_ rfl u_195
                                    have hF_197 := FR.arr hF326 gp_191 0 rfl mq0_ kq0_ rfl rfl u_195.1
                                    have hN_198 := NN.s53 (v := x_190) (k := y_188.toNatClampNeg) hN326 (by rw [tnZ (by have h9_0 := bj73_13; unfold bd at h9_0; have h9_1 := bo_; unfold bd at h9_1; have h9_2 := b_17; unfold bd at h9_2; have h9_3 := h_128; unfold bd at h9_3; have h9_4 := b_16; unfold bd at h9_4; have h9_5 := b_183; unfold bd at h9_5; have h9_6 := b_184; unfold bd at h9_6; have h9_7 := bv73_12; unfold bd at h9_7; have h9_8 := b_27; unfold bd at h9_8; have h9_9 := b_75; unfold bd at h9_9; have h9_10 := bx2_; unfold bd at h9_10; have h9_11 := b_113; unfold bd at h9_11; have h9_12 := bx_1; unfold bd at h9_12; have h9_13 := h_11; unfold bd at h9_13; have h9_14 := h_104; unfold bd at h9_14; have h9_15 := h_106; unfold bd at h9_15; have h9_16 := h_130; unfold bd at h9_16; have h9_17 := h_32; unfold bd at h9_17; have h9_18 := bx_49; unfold bd at h9_18; have h9_19 := h_68; unfold bd at h9_19; have h9_20 := bx_76; unfold bd at h9_20; have h9_21 := h_9; unfold bd at h9_21; have h9_22 := b_124; unfold bd at h9_22; have h9_23 := b_187; unfold bd at h9_23; have h9_24 := b_189; unfold bd at h9_24; have h8_0 := kb_0; unfold bd at h8_0; have h8_1 := kb_1; unfold bd at h8_1; omega)]; have h9_0 := bj73_13; unfold bd at h9_0; have h9_1 := bo_; unfold bd at h9_1; have h9_2 := b_17; unfold bd at h9_2; have h9_3 := h_128; unfold bd at h9_3; have h9_4 := b_16; unfold bd at h9_4; have h9_5 := b_183; unfold bd at h9_5; have h9_6 := b_184; unfold bd at h9_6; have h9_7 := bv73_12; unfold bd at h9_7; have h9_8 := b_27; unfold bd at h9_8; have h9_9 := b_75; unfold bd at h9_9; have h9_10 := bx2_; unfold bd at h9_10; have h9_11 := b_113; unfold bd at h9_11; have h9_12 := bx_1; unfold bd at h9_12; have h9_13 := h_11; unfold bd at h9_13; have h9_14 := h_104; unfold bd at h9_14; have h9_15 := h_106; unfold bd at h9_15; have h9_16 := h_130; unfold bd at h9_16; have h9_17 := h_32; unfold bd at h9_17; have h9_18 := bx_49; unfold bd at h9_18; have h9_19 := h_68; unfold bd at h9_19; have h9_20 := bx_76; unfold bd at h9_20; have h9_21 := h_9; unfold bd at h9_21; have h9_22 := b_124; unfold bd at h9_22; have h9_23 := b_187; unfold bd at h9_23; have h9_24 := b_189; unfold bd at h9_24; have h8_0 := kb_0; unfold bd at h8_0; have h8_1 := kb_1; unfold bd at h8_1; omega)
                                    obtain ⟨y_199, ey_199⟩ : ∃ z : Int32, z = v326_15 + 1 := ⟨_, rfl⟩
                                    refine lv_iinc (v := y_199) (lv' := [(15, .int y_199), (14, .int r_125), (13, .int v73_13), (12, .int v73_12), (11, .int v73_11), (10, .ref qn), (9, .int x_1), (0, .ref a0_), (1, .int x1_), (2, .int x2_), (3, .long x3_), (5, .long x4_), (7, .int x5_), (8, .int x6_)]) hx hb dX14_readCall_353 hl (k := 0) rfl (by rw [ey_199]; rfl) (by decide) rfl (fun ls hl => ?_)
                                    have ty_199 := add_bd ey_199 b_183 kb_1 (by decide)
                                    have b_200 : bd 1 3 y_199 := add_rg ty_199 b_183 kb_1 (by decide)
                                    refine lv_goto (tgt := 326) hx hb dX14_readCall_356 (by decide) ?_
                                    have hl9 := lv_sub hl [0, 1, 2, 3, 4, 5, 6, 7, 8, 9, 10, 11, 12, 13] (by rfl : lv_pick [(15, .int y_199), (14, .int r_125), (13, .int v73_13), (12, .int v73_12), (11, .int v73_11), (10, .ref qn), (9, .int x_1), (0, .ref a0_), (1, .int x1_), (2, .int x2_), (3, .long x3_), (5, .long x4_), (7, .int x5_), (8, .int x6_)] [0, 1, 2, 3, 4, 5, 6, 7, 8, 9, 10, 11, 12, 13] = [(15, .int y_199), (14, .int r_125), (13, .int v73_13), (12, .int v73_12), (11, .int v73_11), (10, .ref qn), (9, .int x_1), (0, .ref a0_), (1, .int x1_), (2, .int x2_), (3, .long x3_), (5, .long x4_), (7, .int x5_), (8, .int x6_)])
                                    have g9 := g.sub (fx' := [(12, 56, q0_, .ref a_165), (12, 55, q0_, .ref a_156), (12, 52, q0_, .ref a_147), (12, 50, q0_, .ref a_138), (12, 57, q0_, .int x_129), (14, 10, a0_, .int x_103), (14, 25, a0_, .int x_105), (12, 19, q0_, .ref g46_12_19_q0_), (14, 2, a0_, .ref q0_), (14, 16, a0_, .int o_)]) [1, 2, 3, 4, 5, 6, 7, 8, 9, 10] rfl
                                    exact ih326  y_199 (bd_sub b_200 (by decide)) (by have h9_0 := b_200; unfold bd at h9_0; have h9_1 := bv326_15; unfold bd at h9_1; have h9_2 := kb_0; unfold bd at h9_2; have h9_3 := kb_1; unfold bd at h9_3; omega) _ _ _ _ g9 hG_193 hG_194 ⟨_, hV_196, hF_197, hN_198, (arr_s hA326 b_183.1 (by have h9_0 := bj73_13; unfold bd at h9_0; have h9_1 := bo_; unfold bd at h9_1; have h9_2 := b_17; unfold bd at h9_2; have h9_3 := h_128; unfold bd at h9_3; have h9_4 := b_16; unfold bd at h9_4; have h9_5 := b_183; unfold bd at h9_5; have h9_6 := b_184; unfold bd at h9_6; have h9_7 := bv73_12; unfold bd at h9_7; have h9_8 := b_27; unfold bd at h9_8; have h9_9 := b_75; unfold bd at h9_9; have h9_10 := bx2_; unfold bd at h9_10; have h9_11 := b_113; unfold bd at h9_11; have h9_12 := bx_1; unfold bd at h9_12; have h9_13 := h_11; unfold bd at h9_13; have h9_14 := h_104; unfold bd at h9_14; have h9_15 := h_106; unfold bd at h9_15; have h9_16 := h_130; unfold bd at h9_16; have h9_17 := h_32; unfold bd at h9_17; have h9_18 := bx_49; unfold bd at h9_18; have h9_19 := h_68; unfold bd at h9_19; have h9_20 := bx_76; unfold bd at h9_20; have h9_21 := h_9; unfold bd at h9_21; have h9_22 := b_124; unfold bd at h9_22; have h9_23 := b_187; unfold bd at h9_23; have h9_24 := b_189; unfold bd at h9_24; have h9_25 := b_200; unfold bd at h9_25; have h8_0 := kb_0; unfold bd at h8_0; have h8_1 := kb_1; unfold bd at h8_1; omega) (ix3 h_128.1 b_183.1 (by have h9_0 := bj73_13; unfold bd at h9_0; have h9_1 := bo_; unfold bd at h9_1; have h9_2 := b_17; unfold bd at h9_2; have h9_3 := h_128; unfold bd at h9_3; have h9_4 := b_16; unfold bd at h9_4; have h9_5 := b_183; unfold bd at h9_5; have h9_6 := b_184; unfold bd at h9_6; have h9_7 := bv73_12; unfold bd at h9_7; have h9_8 := b_27; unfold bd at h9_8; have h9_9 := b_75; unfold bd at h9_9; have h9_10 := bx2_; unfold bd at h9_10; have h9_11 := b_113; unfold bd at h9_11; have h9_12 := bx_1; unfold bd at h9_12; have h9_13 := h_11; unfold bd at h9_13; have h9_14 := h_104; unfold bd at h9_14; have h9_15 := h_106; unfold bd at h9_15; have h9_16 := h_130; unfold bd at h9_16; have h9_17 := h_32; unfold bd at h9_17; have h9_18 := bx_49; unfold bd at h9_18; have h9_19 := h_68; unfold bd at h9_19; have h9_20 := bx_76; unfold bd at h9_20; have h9_21 := h_9; unfold bd at h9_21; have h9_22 := b_124; unfold bd at h9_22; have h9_23 := b_187; unfold bd at h9_23; have h9_24 := b_189; unfold bd at h9_24; have h9_25 := b_200; unfold bd at h9_25; have h8_0 := kb_0; unfold bd at h8_0; have h8_1 := kb_1; unfold bd at h8_1; omega)) vAx_190)⟩ hl9
                              have hl9 := lv_sub hl [0, 1, 2, 3, 4, 5, 6, 7, 8, 9, 10, 11, 12, 13] (by rfl : lv_pick [(15, .int 0), (14, .int r_125), (13, .int v73_13), (12, .int v73_12), (11, .int v73_11), (10, .ref qn), (9, .int x_1), (0, .ref a0_), (1, .int x1_), (2, .int x2_), (3, .long x3_), (5, .long x4_), (7, .int x5_), (8, .int x6_)] [0, 1, 2, 3, 4, 5, 6, 7, 8, 9, 10, 11, 12, 13] = [(15, .int 0), (14, .int r_125), (13, .int v73_13), (12, .int v73_12), (11, .int v73_11), (10, .ref qn), (9, .int x_1), (0, .ref a0_), (1, .int x1_), (2, .int x2_), (3, .long x3_), (5, .long x4_), (7, .int x5_), (8, .int x6_)])
                              have g9 := g.sub (fx' := [(12, 56, q0_, .ref a_165), (12, 55, q0_, .ref a_156), (12, 52, q0_, .ref a_147), (12, 50, q0_, .ref a_138), (12, 57, q0_, .int x_129), (14, 10, a0_, .int x_103), (14, 25, a0_, .int x_105), (12, 19, q0_, .ref g46_12_19_q0_), (14, 2, a0_, .ref q0_), (14, 16, a0_, .int o_)]) [0, 1, 2, 3, 4, 5, 6, 7, 8, 9] rfl
                              exact loop_174 (9) 0 (bd_sub kb_0 (by decide)) (by have h9_0 := kb_0; unfold bd at h9_0; have h9_1 := kb_1; unfold bd at h9_1; omega) _ _ _ _ g9 hG_168 hG_169 ⟨_, hV_171, hF_172, hN_173, (fun j h9 => absurd h9 (by have h8 : (0 : Int32).toInt = 0 := (by decide); omega))⟩ hl9
                          · have fc_112 := neq_f c_112
                            have b_201 : bd 1 1 x6_ := neX fc_112 bx6_ kb_0 (by decide)
                            refine lv_iload hx hb dX14_readCall_245 (lv_at hl 1 rfl) ?_
                            refine lv_bipush (v := 12) hx hb dX14_readCall_247 (by decide) ?_
                            have kb_12 : bd 12 12 (12 : Int32) := ⟨by decide, by decide⟩
                            refine lv_icmp_ge (tgt := 256) hx hb dX14_readCall_249 (by decide) (fun c_202 => ?_) (fun c_202 => ?_)
                            · have fc_202 := le_f c_202
                              have b_203 : bd 12 12 v73_12 := leR fc_202 kb_12 bv73_12 (by decide)
                              refine lv_iconst (v := 0) hx hb dX14_readCall_256 (by decide) ?_
                              refine lv_bipush (v := 7) hx hb dX14_readCall_257 (by decide) ?_
                              refine lv_iload hx hb dX14_readCall_259 (lv_at hl 10 rfl) ?_
                              have go_ := g
                              refine g_callEv (As := [.int 0, .int 7, .int x5_]) (rest := []) ⟨hx, hb, hml, hown, hts⟩ (r_X14_need_2 l dC dI L9 kd9 tys fr_96 H.size g.2.2.2.1 a0_ ma0_ ka0_ 0 kb_0 7 x5_) (cwV 3 hts (gV_ t_2403 t_2405 t_100 t_198 t_2406) rfl rfl rfl (by decide +kernel) ⟨(show 1 + 1 ≤ N + 1 + 24 by omega), (show 8 + (4 + 11) + 22 ≤ 60 * (N + 1) + 700 by omega)⟩) (pre3V g hK ma0_ ka0_ (by decide) (q := (RX14, TX14, 67)) rfl) rfl hl.1 rfl (lv_room (Nat.le_of_ble_eq_true rfl)) dX14_readCall_261 (cl_f hck73) g hK (by decide) (by decide) (fx' := [(14, 10, a0_, .int x_103), (14, 25, a0_, .int x_105), (12, 19, q0_, .ref g46_12_19_q0_), (14, 2, a0_, .ref q0_), (14, 16, a0_, .int o_)]) rfl (fun xr_204 fr_204 H locs mxr_204 kxr_204 hp hMr_204 g => ?_) (fun fr_204 H locs hp hMr_204 g => ?_)
                              · have hG_205 := isV.frame hMr_204 go_.2.2.2.1 mq0_ kq0_ (by decide) (by decide) hG_108
                                have hG_206 := FR.frame hMr_204 go_.2.2.2.1 mq0_ kq0_ (by decide) (by decide) hG_109
                                have hG_207 := isY.frame hMr_204 go_.2.2.2.1 mqn kqn (by decide) (by decide) hG_110
                                have hG_208 := cEq.frame hMr_204 go_.2.2.2.1 ma0_ ka0_ (by decide) (by decide) hE_111
                                have hF_209 := NW.FR_b hNW mo_q hG_206
                                obtain ⟨mo9, ko9⟩ := NW.old hNW mxr_204 kxr_204 (by decide)
                                have g := NW.drop hNW (g.sub (fx' := []) [] rfl) (fun x h9 => by cases h9)
                                subst hQ
                                exact leavesX hempty hlocks (fun t ht hW => g_thrZ g hK mo9 ko9 ⟨hF_209, (by omega)⟩ ht hW) g.2.2.1.2.2
                              · exact hp.elim
                            · have fc_202 := nle_f c_202
                              have b_210 : bd 0 11 v73_12 := ltL fc_202 bv73_12 kb_12 (by decide)
                              refine lv_iconst (v := 1) hx hb dX14_readCall_252 (by decide) ?_
                              refine lv_goto (tgt := 257) hx hb dX14_readCall_253 (by decide) ?_
                              refine lv_bipush (v := 7) hx hb dX14_readCall_257 (by decide) ?_
                              refine lv_iload hx hb dX14_readCall_259 (lv_at hl 10 rfl) ?_
                              have go_ := g
                              refine g_callEv (As := [.int 1, .int 7, .int x5_]) (rest := []) ⟨hx, hb, hml, hown, hts⟩ (r_X14_need_3 l dC dI L9 kd9 tys fr_96 H.size g.2.2.2.1 a0_ ma0_ ka0_ 1 kb_1 7 x5_) (cwV 3 hts (gV_ t_2403 t_2405 t_100 t_198 t_2406) rfl rfl rfl (by decide +kernel) ⟨(show 0 + 1 ≤ N + 1 + 24 by omega), (show 8 + (4 + 11) + 0 ≤ 60 * (N + 1) + 700 by omega)⟩) (pre3V g hK ma0_ ka0_ (by decide) (q := (RX14, TX14, 67)) rfl) rfl hl.1 rfl (lv_room (Nat.le_of_ble_eq_true rfl)) dX14_readCall_261 (cl_f hck73) g hK (by decide) (by decide) (fx' := [(14, 10, a0_, .int x_103), (14, 25, a0_, .int x_105), (12, 19, q0_, .ref g46_12_19_q0_), (14, 2, a0_, .ref q0_), (14, 16, a0_, .int o_)]) rfl (fun xr_211 fr_211 H locs mxr_211 kxr_211 hp hMr_211 g => ?_) (fun fr_211 H locs hp hMr_211 g => ?_)
                              · have hG_212 := isV.frame hMr_211 go_.2.2.2.1 mq0_ kq0_ (by decide) (by decide) hG_108
                                have hG_213 := FR.frame hMr_211 go_.2.2.2.1 mq0_ kq0_ (by decide) (by decide) hG_109
                                have hG_214 := isY.frame hMr_211 go_.2.2.2.1 mqn kqn (by decide) (by decide) hG_110
                                have hG_215 := cEq.frame hMr_211 go_.2.2.2.1 ma0_ ka0_ (by decide) (by decide) hE_111
                                exact hp.elim
                              · have hG_216 := isV.frame hMr_211 go_.2.2.2.1 mq0_ kq0_ (by decide) (by decide) hG_108
                                have hG_217 := FR.frame hMr_211 go_.2.2.2.1 mq0_ kq0_ (by decide) (by decide) hG_109
                                have hG_218 := isY.frame hMr_211 go_.2.2.2.1 mqn kqn (by decide) (by decide) hG_110
                                have hG_219 := cEq.frame hMr_211 go_.2.2.2.1 ma0_ ka0_ (by decide) (by decide) hE_111
                                refine lv_aload_n hx hb dX14_readCall_264 rfl (lv_at hl 5 rfl) ?_
                                refine lv_iload_n hx hb dX14_readCall_265 rfl (lv_at hl 6 rfl) ?_
                                refine lv_iconst (v := (-1)) hx hb dX14_readCall_266 (by decide) ?_
                                refine lv_iconst (v := (-1)) hx hb dX14_readCall_267 (by decide) ?_
                                refine lv_iconst (v := 1) hx hb dX14_readCall_268 (by decide) ?_
                                refine lv_iload hx hb dX14_readCall_269 (lv_at hl 1 rfl) ?_
                                refine lv_iadd hx hb dX14_readCall_271 ?_
                                refine lv_topi (fun y_220 ey_220 => ?_)
                                have ty_220 := add_bd ey_220 kb_1 b_210 (by decide)
                                have b_221 : bd 1 12 y_220 := add_rg ty_220 kb_1 b_210 (by decide)
                                have hnb : (V73.n 57).toInt ≤ 2499 := by omega
                                have go_ := g
                                refine g_calli (va_runV (As := [.int x1_, .int (-1), .int (-1), .int y_220]) (rest := []) ⟨hx, hb, hml, hown, hts⟩ (r_X14_node l dC dI L9 kd9 tys fr_211 H.size g.2.2.2.1 a0_ ma0_ ka0_ x1_ (-1) (-1) y_220 q0_ mq0_ kq0_ o_ bo_ V73 hG_216 hnb (g.fcts [3, 4] rfl)) (cwV 4 hts (gV_ t_2480 t_2482 t_117 t_198 t_2483) rfl rfl rfl (by decide +kernel) ⟨(show 0 + 1 ≤ N + 1 + 24 by omega), (show 8 + (6 + 11) + 0 ≤ 60 * (N + 1) + 700 by omega)⟩) (pre3V g hK ma0_ ka0_ (by decide) (q := (RX14, TX14, 67)) rfl) rfl rfl hl.1 rfl (lv_room (Nat.le_of_ble_eq_true rfl)) dX14_readCall_272 (cl_f hck73)) g hK (by decide) (by decide) (fx' := [(14, 10, a0_, .int x_103), (14, 25, a0_, .int x_105), (12, 19, q0_, .ref g46_12_19_q0_), (14, 2, a0_, .ref q0_), (14, 16, a0_, .int o_)]) rfl (fun r_222 fr_222 H locs hp hMr_222 g => ?_)
                                obtain ⟨hx_223, hx_224, h_225, x_226, h_227, hF_228⟩ := hp
                                have hG_229 := isY.frame hMr_222 go_.2.2.2.1 mqn kqn (by decide) (by decide) hG_218
                                have hG_230 := cEq.frame hMr_222 go_.2.2.2.1 ma0_ ka0_ (by decide) (by decide) hG_219
                                have hF_231 := FR.call (mds := []) (mas := []) hG_217 go_ mq0_ kq0_ rfl hx_224
                                obtain ⟨V_232, hV_233, hN_234⟩ := hx_223
                                have g := g.more hF_228
                                refine lv_istore (lv' := [(14, .int r_222), (13, .int v73_13), (12, .int v73_12), (11, .int v73_11), (10, .ref qn), (9, .int x_1), (0, .ref a0_), (1, .int x1_), (2, .int x2_), (3, .long x3_), (5, .long x4_), (7, .int x5_), (8, .int x6_)]) hx hb dX14_readCall_275 hl (by decide) rfl (fun ls hl => ?_)
                                refine lv_aload_n hx hb dX14_readCall_277 rfl (lv_at hl 6 rfl) ?_
                                refine g_getk (C := RX14) (T := TX14) (N := 67) hx hb hts (mc_ inX14) hown hK g rfl 2 (by decide) rfl (hts _ (List.mem_cons_of_mem _ t_2148)) (fun _ h9 => h9) 4 rfl dX14_readCall_278 ?_
                                refine g_getr (K := 204) (C := RX12) (T := TX12) (N := 60) hx hb hts (mc_ inX12) hown hK g mq0_ kq0_ (by decide) rfl 50 (by decide) rfl (hts _ (List.mem_cons_of_mem _ t_2004)) (fun _ h9 => h9) rfl dX14_readCall_281 (fun a_235 ma_235 ka_235 g => ?_)
                                refine lv_iload hx hb dX14_readCall_284 (lv_at hl 0 rfl) ?_
                                refine lv_iload_n hx hb dX14_readCall_286 rfl (lv_at hl 8 rfl) ?_
                                have gp_236 := g
                                have go_ := g
                                refine g_iastX hx hb hK g ma_235 ka_235 (by decide) rfl (in_bd h_225 (by decide)) (bd_sub bx2_ (by decide)) (by decide) dX14_readCall_287 (fun f H locs hM_237 u_240 g => ?_)
                                have hG_238 := isY.frame hM_237 go_.2.2.2.1 mqn kqn (by decide) (by decide) hG_229
                                have hG_239 := cEq.frame hM_237 go_.2.2.2.1 ma0_ ka0_ (by decide) (by decide) hG_230
                                have hV_241 := isV.ui hV_233 gp_236 0 rfl mq0_ kq0_ rfl u_240
                                have hF_242 := FR.arr hF_231 gp_236 0 rfl mq0_ kq0_ rfl rfl u_240.1
                                have hN_243 := NN.s50 (v := x2_) hN_234 h_225.1
                                refine lv_aload_n hx hb dX14_readCall_288 rfl (lv_at hl 6 rfl) ?_
                                refine g_getk (C := RX14) (T := TX14) (N := 67) hx hb hts (mc_ inX14) hown hK g rfl 2 (by decide) rfl (hts _ (List.mem_cons_of_mem _ t_2148)) (fun _ h9 => h9) 5 rfl dX14_readCall_289 ?_
                                refine g_getr (K := 206) (C := RX12) (T := TX12) (N := 60) hx hb hts (mc_ inX12) hown hK g mq0_ kq0_ (by decide) rfl 52 (by decide) rfl (hts _ (List.mem_cons_of_mem _ t_2008)) (fun _ h9 => h9) rfl dX14_readCall_292 (fun a_244 ma_244 ka_244 g => ?_)
                                refine lv_iload hx hb dX14_readCall_295 (lv_at hl 0 rfl) ?_
                                refine lv_iload hx hb dX14_readCall_297 (lv_at hl 3 rfl) ?_
                                have gp_245 := g
                                have go_ := g
                                refine g_iastX hx hb hK g ma_244 ka_244 (by decide) rfl (in_bd h_225 (by decide)) bv73_11 (by decide) dX14_readCall_299 (fun f H locs hM_246 u_249 g => ?_)
                                have hG_247 := isY.frame hM_246 go_.2.2.2.1 mqn kqn (by decide) (by decide) hG_238
                                have hG_248 := cEq.frame hM_246 go_.2.2.2.1 ma0_ ka0_ (by decide) (by decide) hG_239
                                have hV_250 := isV.ui hV_241 gp_245 0 rfl mq0_ kq0_ rfl u_249
                                have hF_251 := FR.arr hF_242 gp_245 0 rfl mq0_ kq0_ rfl rfl u_249.1
                                have hN_252 := NN.s52 (v := v73_11) hN_243 h_225.1
                                refine lv_aload_n hx hb dX14_readCall_300 rfl (lv_at hl 6 rfl) ?_
                                refine g_getk (C := RX14) (T := TX14) (N := 67) hx hb hts (mc_ inX14) hown hK g rfl 2 (by decide) rfl (hts _ (List.mem_cons_of_mem _ t_2148)) (fun _ h9 => h9) 6 rfl dX14_readCall_301 ?_
                                refine g_getr (K := 209) (C := RX12) (T := TX12) (N := 60) hx hb hts (mc_ inX12) hown hK g mq0_ kq0_ (by decide) rfl 55 (by decide) rfl (hts _ (List.mem_cons_of_mem _ t_2014)) (fun _ h9 => h9) rfl dX14_readCall_304 (fun a_253 ma_253 ka_253 g => ?_)
                                refine lv_iload hx hb dX14_readCall_307 (lv_at hl 0 rfl) ?_
                                refine lv_lload_n hx hb dX14_readCall_309 rfl (lv_at hl 9 rfl) ?_
                                have gp_254 := g
                                have go_ := g
                                refine g_lastX hx hb hK g ma_253 ka_253 (by decide) rfl (in_bd h_225 (by decide)) (by decide) dX14_readCall_310 (fun f H locs hM_255 u_258 g => ?_)
                                have hG_256 := isY.frame hM_255 go_.2.2.2.1 mqn kqn (by decide) (by decide) hG_247
                                have hG_257 := cEq.frame hM_255 go_.2.2.2.1 ma0_ ka0_ (by decide) (by decide) hG_248
                                have hV_259 := isV.ul hV_250 gp_254 0 rfl mq0_ kq0_ rfl u_258
                                have hF_260 := FR.arr hF_251 gp_254 0 rfl mq0_ kq0_ rfl rfl u_258.1
                                have hN_261 := NN.s55 (w := x3_) hN_252 h_225.1
                                refine lv_aload_n hx hb dX14_readCall_311 rfl (lv_at hl 6 rfl) ?_
                                refine g_getk (C := RX14) (T := TX14) (N := 67) hx hb hts (mc_ inX14) hown hK g rfl 2 (by decide) rfl (hts _ (List.mem_cons_of_mem _ t_2148)) (fun _ h9 => h9) 7 rfl dX14_readCall_312 ?_
                                refine g_getr (K := 210) (C := RX12) (T := TX12) (N := 60) hx hb hts (mc_ inX12) hown hK g mq0_ kq0_ (by decide) rfl 56 (by decide) rfl (hts _ (List.mem_cons_of_mem _ t_2016)) (fun _ h9 => h9) rfl dX14_readCall_315 (fun a_262 ma_262 ka_262 g => ?_)
                                refine lv_iload hx hb dX14_readCall_318 (lv_at hl 0 rfl) ?_
                                refine lv_lload hx hb dX14_readCall_320 (lv_at hl 10 rfl) ?_
                                have gp_263 := g
                                have go_ := g
                                refine g_lastX hx hb hK g ma_262 ka_262 (by decide) rfl (in_bd h_225 (by decide)) (by decide) dX14_readCall_322 (fun f H locs hM_264 u_267 g => ?_)
                                have hG_265 := isY.frame hM_264 go_.2.2.2.1 mqn kqn (by decide) (by decide) hG_256
                                have hG_266 := cEq.frame hM_264 go_.2.2.2.1 ma0_ ka0_ (by decide) (by decide) hG_257
                                have hV_268 := isV.ul hV_259 gp_263 0 rfl mq0_ kq0_ rfl u_267
                                have hF_269 := FR.arr hF_260 gp_263 0 rfl mq0_ kq0_ rfl rfl u_267.1
                                have hN_270 := NN.s56 (w := x4_) hN_261 h_225.1
                                refine lv_iconst (v := 0) hx hb dX14_readCall_323 (by decide) ?_
                                refine lv_istore (lv' := [(15, .int 0), (14, .int r_222), (13, .int v73_13), (12, .int v73_12), (11, .int v73_11), (10, .ref qn), (9, .int x_1), (0, .ref a0_), (1, .int x1_), (2, .int x2_), (3, .long x3_), (5, .long x4_), (7, .int x5_), (8, .int x6_)]) hx hb dX14_readCall_324 hl (by decide) rfl (fun ls hl => ?_)
                                have loop_271 : ∀ (n : Nat) (v326_15 : Int32), bd 0 3 v326_15 → (3 - v326_15.toInt < (n : Int)) → ∀ (f : Nat → va_E) (H : Heap) (locs : List Loc) (ls : Array Slot), G3 (dC, dI) L9 kd9 tys s f9 [(12, 57), (12, 58), (14, 6), (14, 7), (14, 8), (14, 9), (14, 10), (14, 11), (14, 12), (14, 13), (14, 14), (14, 15), (14, 25)] [180, 201, 202, 203, 204, 205, 206, 207, 208, 209, 210] f H locs [(12, 56, q0_, .ref a_262), (12, 55, q0_, .ref a_253), (12, 52, q0_, .ref a_244), (12, 50, q0_, .ref a_235), (12, 57, q0_, .int x_226), (14, 10, a0_, .int x_103), (14, 25, a0_, .int x_105), (12, 19, q0_, .ref g46_12_19_q0_), (14, 2, a0_, .ref q0_), (14, 16, a0_, .int o_)] → isY f qn A73 → cEq f a0_ E_111 → (∃ V1 : PV, isV f q0_ V1 ∧ FR L9 kd9 f9 f q0_ ∧ NN V73 V1 r_222 x1_ (-1) (-1) x2_ y_220 v73_11 o_ x3_ x4_ ∧ (∀ j : Nat, (j : Int) < v326_15.toInt → V1.i 53 (3 * r_222.toNatClampNeg + j) = A73 j)) → lv_has ls 16 [(15, .int v326_15), (14, .int r_222), (13, .int v73_13), (12, .int v73_12), (11, .int v73_11), (10, .ref qn), (9, .int x_1), (0, .ref a0_), (1, .int x1_), (2, .int x2_), (3, .long x3_), (5, .long x4_), (7, .int x5_), (8, .int x6_)] → W p l e ({ frames := (N + 1) + 24, cells := K_, slots := 3 * K_, locals := 60 * (N + 1) + 700 } : Room) s m [.ref a0_, .int x1_, .int x2_, .long x3_, .long x4_, .int x5_, .int x6_].toArray below meth c H locs cl73 (3 * cl73) Q (F0 m 326 ls []) := by
                                  intro n326
                                  induction n326 with
                                  | zero =>
                                    intro v326_15 bv326_15 hm326 f H locs ls g hG326_Y_qn hG326_C_a0_ ⟨V326, hV326, hF326, hN326, hA326⟩ hl
                                    exact absurd hm326 (by have h9_v326_15 := bv326_15; unfold bd at h9_v326_15; omega)
                                  | succ n326 ih326 =>
                                    intro v326_15 bv326_15 hm326 f H locs ls g hG326_Y_qn hG326_C_a0_ ⟨V326, hV326, hF326, hN326, hA326⟩ hl
                                    refine lv_iload hx hb dX14_readCall_326 (lv_at hl 0 rfl) ?_
                                    refine lv_iload hx hb dX14_readCall_328 (lv_at hl 4 rfl) ?_
                                    refine lv_icmp_ge (tgt := 359) hx hb dX14_readCall_330 (by decide) (fun c_272 => ?_) (fun c_272 => ?_)
                                    · have fc_272 := le_f c_272
                                      refine lv_iload hx hb dX14_readCall_359 (lv_at hl 1 rfl) ?_
                                      have hf_273 : fin V73 V326 r_222 hm_ o_ := nd_call (Vb := V_) (A := A73) hN326 h_225.1 hw73 ⟨(by have h9_0 := bj73_13; unfold bd at h9_0; have h9_1 := bo_; unfold bd at h9_1; have h9_2 := b_17; unfold bd at h9_2; have h9_3 := h_225; unfold bd at h9_3; have h9_4 := b_16; unfold bd at h9_4; have h9_5 := bv326_15; unfold bd at h9_5; have h9_6 := bv73_11; unfold bd at h9_6; have h9_7 := b_210; unfold bd at h9_7; have h9_8 := b_27; unfold bd at h9_8; have h9_9 := b_75; unfold bd at h9_9; have h9_10 := bx2_; unfold bd at h9_10; have h9_11 := b_201; unfold bd at h9_11; have h9_12 := bx_1; unfold bd at h9_12; have h9_13 := h_11; unfold bd at h9_13; have h9_14 := h_104; unfold bd at h9_14; have h9_15 := h_106; unfold bd at h9_15; have h9_16 := h_227; unfold bd at h9_16; have h9_17 := h_32; unfold bd at h9_17; have h9_18 := bx_49; unfold bd at h9_18; have h9_19 := h_68; unfold bd at h9_19; have h9_20 := bx_76; unfold bd at h9_20; have h9_21 := h_9; unfold bd at h9_21; have h9_22 := b_221; unfold bd at h9_22; have h8_0 := kb_0; unfold bd at h8_0; have h8_1 := kb_1; unfold bd at h8_1; have h8_2 := kb_12; unfold bd at h8_2; omega), (by have h9_0 := bj73_13; unfold bd at h9_0; have h9_1 := bo_; unfold bd at h9_1; have h9_2 := b_17; unfold bd at h9_2; have h9_3 := h_225; unfold bd at h9_3; have h9_4 := b_16; unfold bd at h9_4; have h9_5 := bv326_15; unfold bd at h9_5; have h9_6 := bv73_11; unfold bd at h9_6; have h9_7 := b_210; unfold bd at h9_7; have h9_8 := b_27; unfold bd at h9_8; have h9_9 := b_75; unfold bd at h9_9; have h9_10 := bx2_; unfold bd at h9_10; have h9_11 := b_201; unfold bd at h9_11; have h9_12 := bx_1; unfold bd at h9_12; have h9_13 := h_11; unfold bd at h9_13; have h9_14 := h_104; unfold bd at h9_14; have h9_15 := h_106; unfold bd at h9_15; have h9_16 := h_227; unfold bd at h9_16; have h9_17 := h_32; unfold bd at h9_17; have h9_18 := bx_49; unfold bd at h9_18; have h9_19 := h_68; unfold bd at h9_19; have h9_20 := bx_76; unfold bd at h9_20; have h9_21 := h_9; unfold bd at h9_21; have h9_22 := b_221; unfold bd at h9_22; have h8_0 := kb_0; unfold bd at h8_0; have h8_1 := kb_1; unfold bd at h8_1; have h8_2 := kb_12; unfold bd at h8_2; omega)⟩ (by have h9_0 := bj73_13; unfold bd at h9_0; have h9_1 := bo_; unfold bd at h9_1; have h9_2 := b_17; unfold bd at h9_2; have h9_3 := h_225; unfold bd at h9_3; have h9_4 := b_16; unfold bd at h9_4; have h9_5 := bv326_15; unfold bd at h9_5; have h9_6 := bv73_11; unfold bd at h9_6; have h9_7 := b_210; unfold bd at h9_7; have h9_8 := b_27; unfold bd at h9_8; have h9_9 := b_75; unfold bd at h9_9; have h9_10 := bx2_; unfold bd at h9_10; have h9_11 := b_201; unfold bd at h9_11; have h9_12 := bx_1; unfold bd at h9_12; have h9_13 := h_11; unfold bd at h9_13; have h9_14 := h_104; unfold bd at h9_14; have h9_15 := h_106; unfold bd at h9_15; have h9_16 := h_227; unfold bd at h9_16; have h9_17 := h_32; unfold bd at h9_17; have h9_18 := bx_49; unfold bd at h9_18; have h9_19 := h_68; unfold bd at h9_19; have h9_20 := bx_76; unfold bd at h9_20; have h9_21 := h_9; unfold bd at h9_21; have h9_22 := b_221; unfold bd at h9_22; have h8_0 := kb_0; unfold bd at h8_0; have h8_1 := kb_1; unfold bd at h8_1; have h8_2 := kb_12; unfold bd at h8_2; omega) (by rw [hX73.2.2.1 0 (by decide)]; exact ho) hop (by have h9_0 := bj73_13; unfold bd at h9_0; have h9_1 := bo_; unfold bd at h9_1; have h9_2 := b_17; unfold bd at h9_2; have h9_3 := h_225; unfold bd at h9_3; have h9_4 := b_16; unfold bd at h9_4; have h9_5 := bv326_15; unfold bd at h9_5; have h9_6 := bv73_11; unfold bd at h9_6; have h9_7 := b_210; unfold bd at h9_7; have h9_8 := b_27; unfold bd at h9_8; have h9_9 := b_75; unfold bd at h9_9; have h9_10 := bx2_; unfold bd at h9_10; have h9_11 := b_201; unfold bd at h9_11; have h9_12 := bx_1; unfold bd at h9_12; have h9_13 := h_11; unfold bd at h9_13; have h9_14 := h_104; unfold bd at h9_14; have h9_15 := h_106; unfold bd at h9_15; have h9_16 := h_227; unfold bd at h9_16; have h9_17 := h_32; unfold bd at h9_17; have h9_18 := bx_49; unfold bd at h9_18; have h9_19 := h_68; unfold bd at h9_19; have h9_20 := bx_76; unfold bd at h9_20; have h9_21 := h_9; unfold bd at h9_21; have h9_22 := b_221; unfold bd at h9_22; have h8_0 := kb_0; unfold bd at h8_0; have h8_1 := kb_1; unfold bd at h8_1; have h8_2 := kb_12; unfold bd at h8_2; omega) (fun j hj => hA326 j (by omega)) hA73 (by have h9_0 := bj73_13; unfold bd at h9_0; have h9_1 := bo_; unfold bd at h9_1; have h9_2 := b_17; unfold bd at h9_2; have h9_3 := h_225; unfold bd at h9_3; have h9_4 := b_16; unfold bd at h9_4; have h9_5 := bv326_15; unfold bd at h9_5; have h9_6 := bv73_11; unfold bd at h9_6; have h9_7 := b_210; unfold bd at h9_7; have h9_8 := b_27; unfold bd at h9_8; have h9_9 := b_75; unfold bd at h9_9; have h9_10 := bx2_; unfold bd at h9_10; have h9_11 := b_201; unfold bd at h9_11; have h9_12 := bx_1; unfold bd at h9_12; have h9_13 := h_11; unfold bd at h9_13; have h9_14 := h_104; unfold bd at h9_14; have h9_15 := h_106; unfold bd at h9_15; have h9_16 := h_227; unfold bd at h9_16; have h9_17 := h_32; unfold bd at h9_17; have h9_18 := bx_49; unfold bd at h9_18; have h9_19 := h_68; unfold bd at h9_19; have h9_20 := bx_76; unfold bd at h9_20; have h9_21 := h_9; unfold bd at h9_21; have h9_22 := b_221; unfold bd at h9_22; have h8_0 := kb_0; unfold bd at h8_0; have h8_1 := kb_1; unfold bd at h8_1; have h8_2 := kb_12; unfold bd at h8_2; omega) (fun q9 => hX73.fnd_.mpr (hf3 q9)) (fun q9 => by rw [hX73.1 3 (by decide) (by decide)]; exact ⟨(hf9 q9).1, hX73.fnd_.mpr (hf9 q9).2⟩)
                                      have ho_277 : (V326.i 47 r_222.toNatClampNeg).toInt = x1_.toInt := (congrArg Int32.toInt (hN326).2.2.2.1)
                                      obtain ⟨V_274, hV_275, hf_276, ho_277⟩ : ∃ V1 : PV, isV f q0_ V1 ∧ fin V73 V1 r_222 hm_ o_ ∧ (V1.i 47 r_222.toNatClampNeg).toInt = x1_.toInt := ⟨_, hV326, hf_273, ho_277⟩
                                      have hf_276n := hf_276.2.2.2
                                      have hx_278 := exN.tr hX73 hf_276.1
                                      obtain rfl : op_ = x_105 := Int32.toInt_inj.mp (by have h9_0 := bj73_13; unfold bd at h9_0; have h9_1 := bo_; unfold bd at h9_1; have h9_2 := b_17; unfold bd at h9_2; have h9_3 := h_225; unfold bd at h9_3; have h9_4 := b_16; unfold bd at h9_4; have h9_5 := bv326_15; unfold bd at h9_5; have h9_6 := bv73_11; unfold bd at h9_6; have h9_7 := b_210; unfold bd at h9_7; have h9_8 := b_27; unfold bd at h9_8; have h9_9 := b_75; unfold bd at h9_9; have h9_10 := bx2_; unfold bd at h9_10; have h9_11 := b_201; unfold bd at h9_11; have h9_12 := bx_1; unfold bd at h9_12; have h9_13 := h_11; unfold bd at h9_13; have h9_14 := h_104; unfold bd at h9_14; have h9_15 := h_106; unfold bd at h9_15; have h9_16 := h_227; unfold bd at h9_16; have h9_17 := h_32; unfold bd at h9_17; have h9_18 := bx_49; unfold bd at h9_18; have h9_19 := h_68; unfold bd at h9_19; have h9_20 := bx_76; unfold bd at h9_20; have h9_21 := h_9; unfold bd at h9_21; have h9_22 := b_221; unfold bd at h9_22; have h8_0 := kb_0; unfold bd at h8_0; have h8_1 := kb_1; unfold bd at h8_1; have h8_2 := kb_12; unfold bd at h8_2; omega)
                                      have g := NW.drop hNW (g.sub (fx' := [(14, 25, a0_, .int op_), (14, 10, a0_, .int x_103)]) [6, 5] rfl) (fun x h9 => by rcases List.mem_cons.mp h9 with h9 | h9 <;> first | (rw [h9]; exact mo_a) | (rw [List.mem_singleton.mp h9]; exact mo_a))
                                      have hF_279 := NW.FR_b hNW mo_q hF326
                                      have h9c : cF f a0_ = _ := hG326_C_a0_
                                      subst hQ
                                      exact iretX (v := r_222) hx hb hr (fun t ht hW => g_retZ g hK ⟨_, rfl, ⟨⟨_, hV_275, hF_279, hx_278, hf_276.2.1, hf_276.2.2.1, ho_277, (by omega), (by omega), (by omega)⟩, x_103, h_104, (g.fcts [0, 1] rfl)⟩⟩ ht hW) g.2.2.1.2.2 dX14_readCall_361 hlocks
                                    · have fc_272 := nle_f c_272
                                      have b_280 : bd 0 2 v326_15 := ltL fc_272 bv326_15 bv73_11 (by decide)
                                      have b_281 : bd 1 3 v73_11 := ltR fc_272 bv326_15 bv73_11 (by decide)
                                      refine lv_aload_n hx hb dX14_readCall_333 rfl (lv_at hl 7 rfl) ?_
                                      refine g_getk (C := RX14) (T := TX14) (N := 67) hx hb hts (mc_ inX14) hown hK g rfl 2 (by decide) rfl (hts _ (List.mem_cons_of_mem _ t_2148)) (fun _ h9 => h9) 8 rfl dX14_readCall_334 ?_
                                      refine g_getr (K := 207) (C := RX12) (T := TX12) (N := 60) hx hb hts (mc_ inX12) hown hK g mq0_ kq0_ (by decide) rfl 53 (by decide) rfl (hts _ (List.mem_cons_of_mem _ t_2010)) (fun _ h9 => h9) rfl dX14_readCall_337 (fun a_282 ma_282 ka_282 g => ?_)
                                      refine lv_iconst (v := 3) hx hb dX14_readCall_340 (by decide) ?_
                                      refine lv_iload hx hb dX14_readCall_341 (lv_at hl 1 rfl) ?_
                                      refine lv_imul hx hb dX14_readCall_343 ?_
                                      refine lv_topi (fun y_283 ey_283 => ?_)
                                      have ty_283 := cmul_bd ey_283 (c := 3) (by decide) h_225 (by decide)
                                      have b_284 : bd 0 7497 y_283 := mulc_rg ty_283 h_225 (by decide)
                                      refine lv_iload hx hb dX14_readCall_344 (lv_at hl 0 rfl) ?_
                                      refine lv_iadd hx hb dX14_readCall_346 ?_
                                      refine lv_topi (fun y_285 ey_285 => ?_)
                                      have ty_285 := add_bd ey_285 b_284 b_280 (by decide)
                                      have b_286 : bd 0 7499 y_285 := add_rg ty_285 b_284 b_280 (by decide)
                                      refine lv_aload hx hb dX14_readCall_347 (lv_at hl 5 rfl) ?_
                                      refine lv_iload hx hb dX14_readCall_349 (lv_at hl 0 rfl) ?_
                                      refine g_iald hx hb hK g mqn kqn (by decide) rfl (in_bd b_280 (by decide)) dX14_readCall_351 (fun x_287 bx_287 cx_287 => ?_)
                                      have vAx_287 : x_287 = A73 v326_15.toNatClampNeg := cx_287.trans (hG326_Y_qn.at_ _)
                                      have gp_288 := g
                                      have go_ := g
                                      refine g_iastX hx hb hK g ma_282 ka_282 (by decide) rfl (in_bd b_286 (by decide)) (bdT x_287) (by decide) dX14_readCall_352 (fun f H locs hM_289 u_292 g => ?_)
                                      have hG_290 := isY.frame hM_289 go_.2.2.2.1 mqn kqn (by decide) (by decide) hG326_Y_qn
                                      have hG_291 := cEq.frame hM_289 go_.2.2.2.1 ma0_ ka0_ (by decide) (by decide) hG326_C_a0_
                                      have hV_293 := isV.ui hV326 gp_288 0 rfl mq0_ kq0_ rfl u_292
                                      have hF_294 := FR.arr hF326 gp_288 0 rfl mq0_ kq0_ rfl rfl u_292.1
                                      have hN_295 := NN.s53 (v := x_287) (k := y_285.toNatClampNeg) hN326 (by rw [tnZ (by have h9_0 := bj73_13; unfold bd at h9_0; have h9_1 := bo_; unfold bd at h9_1; have h9_2 := b_17; unfold bd at h9_2; have h9_3 := h_225; unfold bd at h9_3; have h9_4 := b_16; unfold bd at h9_4; have h9_5 := b_280; unfold bd at h9_5; have h9_6 := b_281; unfold bd at h9_6; have h9_7 := b_210; unfold bd at h9_7; have h9_8 := b_27; unfold bd at h9_8; have h9_9 := b_75; unfold bd at h9_9; have h9_10 := bx2_; unfold bd at h9_10; have h9_11 := b_201; unfold bd at h9_11; have h9_12 := bx_1; unfold bd at h9_12; have h9_13 := h_11; unfold bd at h9_13; have h9_14 := h_104; unfold bd at h9_14; have h9_15 := h_106; unfold bd at h9_15; have h9_16 := h_227; unfold bd at h9_16; have h9_17 := h_32; unfold bd at h9_17; have h9_18 := bx_49; unfold bd at h9_18; have h9_19 := h_68; unfold bd at h9_19; have h9_20 := bx_76; unfold bd at h9_20; have h9_21 := h_9; unfold bd at h9_21; have h9_22 := b_221; unfold bd at h9_22; have h9_23 := b_284; unfold bd at h9_23; have h9_24 := b_286; unfold bd at h9_24; have h8_0 := kb_0; unfold bd at h8_0; have h8_1 := kb_1; unfold bd at h8_1; have h8_2 := kb_12; unfold bd at h8_2; omega)]; have h9_0 := bj73_13; unfold bd at h9_0; have h9_1 := bo_; unfold bd at h9_1; have h9_2 := b_17; unfold bd at h9_2; have h9_3 := h_225; unfold bd at h9_3; have h9_4 := b_16; unfold bd at h9_4; have h9_5 := b_280; unfold bd at h9_5; have h9_6 := b_281; unfold bd at h9_6; have h9_7 := b_210; unfold bd at h9_7; have h9_8 := b_27; unfold bd at h9_8; have h9_9 := b_75; unfold bd at h9_9; have h9_10 := bx2_; unfold bd at h9_10; have h9_11 := b_201; unfold bd at h9_11; have h9_12 := bx_1; unfold bd at h9_12; have h9_13 := h_11; unfold bd at h9_13; have h9_14 := h_104; unfold bd at h9_14; have h9_15 := h_106; unfold bd at h9_15; have h9_16 := h_227; unfold bd at h9_16; have h9_17 := h_32; unfold bd at h9_17; have h9_18 := bx_49; unfold bd at h9_18; have h9_19 := h_68; unfold bd at h9_19; have h9_20 := bx_76; unfold bd at h9_20; have h9_21 := h_9; unfold bd at h9_21; have h9_22 := b_221; unfold bd at h9_22; have h9_23 := b_284; unfold bd at h9_23; have h9_24 := b_286; unfold bd at h9_24; have h8_0 := kb_0; unfold bd at h8_0; have h8_1 := kb_1; unfold bd at h8_1; have h8_2 := kb_12; unfold bd at h8_2; omega)
                                      obtain ⟨y_296, ey_296⟩ : ∃ z : Int32, z = v326_15 + 1 := ⟨_, rfl⟩
                                      refine lv_iinc (v := y_296) (lv' := [(15, .int y_296), (14, .int r_222), (13, .int v73_13), (12, .int v73_12), (11, .int v73_11), (10, .ref qn), (9, .int x_1), (0, .ref a0_), (1, .int x1_), (2, .int x2_), (3, .long x3_), (5, .long x4_), (7, .int x5_), (8, .int x6_)]) hx hb dX14_readCall_353 hl (k := 0) rfl (by rw [ey_296]; rfl) (by decide) rfl (fun ls hl => ?_)
                                      have ty_296 := add_bd ey_296 b_280 kb_1 (by decide)
                                      have b_297 : bd 1 3 y_296 := add_rg ty_296 b_280 kb_1 (by decide)
                                      refine lv_goto (tgt := 326) hx hb dX14_readCall_356 (by decide) ?_
                                      have hl9 := lv_sub hl [0, 1, 2, 3, 4, 5, 6, 7, 8, 9, 10, 11, 12, 13] (by rfl : lv_pick [(15, .int y_296), (14, .int r_222), (13, .int v73_13), (12, .int v73_12), (11, .int v73_11), (10, .ref qn), (9, .int x_1), (0, .ref a0_), (1, .int x1_), (2, .int x2_), (3, .long x3_), (5, .long x4_), (7, .int x5_), (8, .int x6_)] [0, 1, 2, 3, 4, 5, 6, 7, 8, 9, 10, 11, 12, 13] = [(15, .int y_296), (14, .int r_222), (13, .int v73_13), (12, .int v73_12), (11, .int v73_11), (10, .ref qn), (9, .int x_1), (0, .ref a0_), (1, .int x1_), (2, .int x2_), (3, .long x3_), (5, .long x4_), (7, .int x5_), (8, .int x6_)])
                                      have g9 := g.sub (fx' := [(12, 56, q0_, .ref a_262), (12, 55, q0_, .ref a_253), (12, 52, q0_, .ref a_244), (12, 50, q0_, .ref a_235), (12, 57, q0_, .int x_226), (14, 10, a0_, .int x_103), (14, 25, a0_, .int x_105), (12, 19, q0_, .ref g46_12_19_q0_), (14, 2, a0_, .ref q0_), (14, 16, a0_, .int o_)]) [1, 2, 3, 4, 5, 6, 7, 8, 9, 10] rfl
                                      exact ih326  y_296 (bd_sub b_297 (by decide)) (by have h9_0 := b_297; unfold bd at h9_0; have h9_1 := bv326_15; unfold bd at h9_1; have h9_2 := kb_0; unfold bd at h9_2; have h9_3 := kb_1; unfold bd at h9_3; have h9_4 := kb_12; unfold bd at h9_4; omega) _ _ _ _ g9 hG_290 hG_291 ⟨_, hV_293, hF_294, hN_295, (arr_s hA326 b_280.1 (by have h9_0 := bj73_13; unfold bd at h9_0; have h9_1 := bo_; unfold bd at h9_1; have h9_2 := b_17; unfold bd at h9_2; have h9_3 := h_225; unfold bd at h9_3; have h9_4 := b_16; unfold bd at h9_4; have h9_5 := b_280; unfold bd at h9_5; have h9_6 := b_281; unfold bd at h9_6; have h9_7 := b_210; unfold bd at h9_7; have h9_8 := b_27; unfold bd at h9_8; have h9_9 := b_75; unfold bd at h9_9; have h9_10 := bx2_; unfold bd at h9_10; have h9_11 := b_201; unfold bd at h9_11; have h9_12 := bx_1; unfold bd at h9_12; have h9_13 := h_11; unfold bd at h9_13; have h9_14 := h_104; unfold bd at h9_14; have h9_15 := h_106; unfold bd at h9_15; have h9_16 := h_227; unfold bd at h9_16; have h9_17 := h_32; unfold bd at h9_17; have h9_18 := bx_49; unfold bd at h9_18; have h9_19 := h_68; unfold bd at h9_19; have h9_20 := bx_76; unfold bd at h9_20; have h9_21 := h_9; unfold bd at h9_21; have h9_22 := b_221; unfold bd at h9_22; have h9_23 := b_284; unfold bd at h9_23; have h9_24 := b_286; unfold bd at h9_24; have h9_25 := b_297; unfold bd at h9_25; have h8_0 := kb_0; unfold bd at h8_0; have h8_1 := kb_1; unfold bd at h8_1; have h8_2 := kb_12; unfold bd at h8_2; omega) (ix3 h_225.1 b_280.1 (by have h9_0 := bj73_13; unfold bd at h9_0; have h9_1 := bo_; unfold bd at h9_1; have h9_2 := b_17; unfold bd at h9_2; have h9_3 := h_225; unfold bd at h9_3; have h9_4 := b_16; unfold bd at h9_4; have h9_5 := b_280; unfold bd at h9_5; have h9_6 := b_281; unfold bd at h9_6; have h9_7 := b_210; unfold bd at h9_7; have h9_8 := b_27; unfold bd at h9_8; have h9_9 := b_75; unfold bd at h9_9; have h9_10 := bx2_; unfold bd at h9_10; have h9_11 := b_201; unfold bd at h9_11; have h9_12 := bx_1; unfold bd at h9_12; have h9_13 := h_11; unfold bd at h9_13; have h9_14 := h_104; unfold bd at h9_14; have h9_15 := h_106; unfold bd at h9_15; have h9_16 := h_227; unfold bd at h9_16; have h9_17 := h_32; unfold bd at h9_17; have h9_18 := bx_49; unfold bd at h9_18; have h9_19 := h_68; unfold bd at h9_19; have h9_20 := bx_76; unfold bd at h9_20; have h9_21 := h_9; unfold bd at h9_21; have h9_22 := b_221; unfold bd at h9_22; have h9_23 := b_284; unfold bd at h9_23; have h9_24 := b_286; unfold bd at h9_24; have h9_25 := b_297; unfold bd at h9_25; have h8_0 := kb_0; unfold bd at h8_0; have h8_1 := kb_1; unfold bd at h8_1; have h8_2 := kb_12; unfold bd at h8_2; omega)) vAx_287)⟩ hl9
                                have hl9 := lv_sub hl [0, 1, 2, 3, 4, 5, 6, 7, 8, 9, 10, 11, 12, 13] (by rfl : lv_pick [(15, .int 0), (14, .int r_222), (13, .int v73_13), (12, .int v73_12), (11, .int v73_11), (10, .ref qn), (9, .int x_1), (0, .ref a0_), (1, .int x1_), (2, .int x2_), (3, .long x3_), (5, .long x4_), (7, .int x5_), (8, .int x6_)] [0, 1, 2, 3, 4, 5, 6, 7, 8, 9, 10, 11, 12, 13] = [(15, .int 0), (14, .int r_222), (13, .int v73_13), (12, .int v73_12), (11, .int v73_11), (10, .ref qn), (9, .int x_1), (0, .ref a0_), (1, .int x1_), (2, .int x2_), (3, .long x3_), (5, .long x4_), (7, .int x5_), (8, .int x6_)])
                                have g9 := g.sub (fx' := [(12, 56, q0_, .ref a_262), (12, 55, q0_, .ref a_253), (12, 52, q0_, .ref a_244), (12, 50, q0_, .ref a_235), (12, 57, q0_, .int x_226), (14, 10, a0_, .int x_103), (14, 25, a0_, .int x_105), (12, 19, q0_, .ref g46_12_19_q0_), (14, 2, a0_, .ref q0_), (14, 16, a0_, .int o_)]) [0, 1, 2, 3, 4, 5, 6, 7, 8, 9] rfl
                                exact loop_271 (9) 0 (bd_sub kb_0 (by decide)) (by have h9_0 := kb_0; unfold bd at h9_0; have h9_1 := kb_1; unfold bd at h9_1; have h9_2 := kb_12; unfold bd at h9_2; omega) _ _ _ _ g9 hG_265 hG_266 ⟨_, hV_268, hF_269, hN_270, (fun j h9 => absurd h9 (by have h8 : (0 : Int32).toInt = 0 := (by decide); omega))⟩ hl9
            · have fc_26 := neq_f c_26
              have b_298 : bd 1 1 v73_13 := neX fc_26 bv73_13 kb_0 (by decide)
              have b_299 : bd 0 2 v73_11 := ⟨(by have h9_0 := bj73_13; unfold bd at h9_0; have h9_1 := bo_; unfold bd at h9_1; have h9_2 := b_17; unfold bd at h9_2; have h9_3 := b_16; unfold bd at h9_3; have h9_4 := bv73_11; unfold bd at h9_4; have h9_5 := bv73_12; unfold bd at h9_5; have h9_6 := b_298; unfold bd at h9_6; have h9_7 := bw73_14_10_a0_; unfold bd at h9_7; have h9_8 := bx2_; unfold bd at h9_8; have h9_9 := bx6_; unfold bd at h9_9; have h9_10 := bx_1; unfold bd at h9_10; have h9_11 := h_11; unfold bd at h9_11; have h9_12 := h_9; unfold bd at h9_12; have h8_0 := kb_0; unfold bd at h8_0; omega), (by have h9_0 := bj73_13; unfold bd at h9_0; have h9_1 := bo_; unfold bd at h9_1; have h9_2 := b_17; unfold bd at h9_2; have h9_3 := b_16; unfold bd at h9_3; have h9_4 := bv73_11; unfold bd at h9_4; have h9_5 := bv73_12; unfold bd at h9_5; have h9_6 := b_298; unfold bd at h9_6; have h9_7 := bw73_14_10_a0_; unfold bd at h9_7; have h9_8 := bx2_; unfold bd at h9_8; have h9_9 := bx6_; unfold bd at h9_9; have h9_10 := bx_1; unfold bd at h9_10; have h9_11 := h_11; unfold bd at h9_11; have h9_12 := h_9; unfold bd at h9_12; have h8_0 := kb_0; unfold bd at h8_0; omega)⟩
              refine lv_aload hx hb dX14_readCall_78 (lv_at hl 3 rfl) ?_
              refine lv_iload hx hb dX14_readCall_80 (lv_at hl 2 rfl) ?_
              refine lv_aload_n hx hb dX14_readCall_82 rfl (lv_at hl 5 rfl) ?_
              refine lv_iconst (v := 1) hx hb dX14_readCall_83 (by decide) ?_
              have qc__300 : cF f a0_ = _ := hC73
              have kb_1 : bd 1 1 (1 : Int32) := ⟨by decide, by decide⟩
              have go_ := g
              refine g_callZi (As := [.int 1]) (rest := [.int v73_11, .ref qn]) ⟨hx, hb, hml, hown, hts⟩ (ih.1 l dC dI L9 kd9 tys f H.size g.2.2.2.1 adK adV a0_ ma0_ ka0_ (1 : Int32) (bd_sub kb_1 (by decide)) q0_ mq0_ kq0_ V73 o_ bo_ x_10 (bd_sub h_11 (by decide)) w73_14_10_a0_ bw73_14_10_a0_ hV73 hw73 (by rw [hX73.2.2.1 0 (by decide)]; exact ho) (by omega) (K_ - cl73) (by omega) (by have h9_0 := bj73_13; unfold bd at h9_0; have h9_1 := bo_; unfold bd at h9_1; have h9_2 := b_17; unfold bd at h9_2; have h9_3 := b_16; unfold bd at h9_3; have h9_4 := b_299; unfold bd at h9_4; have h9_5 := bv73_12; unfold bd at h9_5; have h9_6 := b_298; unfold bd at h9_6; have h9_7 := bw73_14_10_a0_; unfold bd at h9_7; have h9_8 := bx2_; unfold bd at h9_8; have h9_9 := bx6_; unfold bd at h9_9; have h9_10 := bx_1; unfold bd at h9_10; have h9_11 := h_11; unfold bd at h9_11; have h9_12 := h_9; unfold bd at h9_12; have h8_0 := kb_0; unfold bd at h8_0; have h8_1 := kb_1; unfold bd at h8_1; omega) (g.fcts [3, 4, 2, 1] rfl)) (cwV 1 hts (gV_ t_2464 t_2466 t_113 t_198 t_2467) rfl rfl rfl (by decide +kernel) ⟨(show N + 24 + 1 ≤ N + 1 + 24 by omega), (show 8 + (7 + 11) + (60 * N + 700) ≤ 60 * (N + 1) + 700 by omega)⟩) (pre3VA g hK hAm ma0_ ka0_ (by decide) (q := (RX14, TX14, 67)) rfl) rfl hl.1 rfl (lv_room (Nat.le_of_ble_eq_true rfl)) dX14_readCall_84 (cl_k (K := K_) (k := K_ - cl73) (show cl73 + (K_ - cl73) ≤ K_ by omega)) g hK (by decide) (by decide) (fx' := [(12, 19, q0_, .ref g46_12_19_q0_), (14, 2, a0_, .ref q0_), (14, 16, a0_, .int o_)]) rfl (fun xr_301 fr_301 H locs kr_301 cr_301 ecr_301 mxr_301 kxr_301 hp hMr_301 g => ?_) (fun r_301 fr_301 H locs kr_301 cr_301 ecr_301 hp hMr_301 g => ?_)
              · have hG_302 := isY.frame hMr_301 go_.2.2.2.1 mqn kqn (by decide) (by decide) hY73
                have hF_303 := FR.call (mds := []) (mas := []) hF73 go_ mq0_ kq0_ rfl hp.1
                have hpk := hp.2
                have hF_304 := NW.FR_b hNW mo_q hF_303
                obtain ⟨mo9, ko9⟩ := NW.old hNW mxr_301 kxr_301 (by decide)
                have g := NW.drop hNW (g.sub (fx' := []) [] rfl) (fun x h9 => by cases h9)
                subst hQ
                exact leavesX hempty hlocks (fun t ht hW => g_thrZ g hK mo9 ko9 ⟨hF_304, (by omega)⟩ ht hW) g.2.2.1.2.2
              · obtain ⟨hx_305, x_306, h_307, hF_308⟩ := hp
                have hG_309 := isY.frame hMr_301 go_.2.2.2.1 mqn kqn (by decide) (by decide) hY73
                obtain ⟨V_310, E_311, hV_312, hF_313, hE_314, hX_315, hw_316, hv_317, hP_318, hn_319, hk_320, hc_321⟩ := rd_use hx_305 hC73
                have hF_322 := FR.call (mds := []) (mas := []) hF73 go_ mq0_ kq0_ rfl hF_313
                have mxE_311 : E_311 ≤ 1202 := by have h9 := cF_le g ma0_ ka0_; have h8 : cF _ _ = _ := hE_314; omega
                have hx_323 := exN.tr hX73 hX_315
                have hck_324 : cr_301 ≤ K_ := by omega
                have b_325 : bd 0 2499 r_301 := ⟨hv_317.1, (by have h9 := hv_317.2.1; omega)⟩
                have g := g.more hF_308
                have go_ := g
                refine g_iastN hx hb hK hNW g mqn kqn (in_bd b_299 (by decide)) dX14_readCall_87 (fun f9 f H locs hNW hM_328 u_326 hfu_327 g => ?_)
                have hF_329 := hfu_327 _ mo_q hF_322
                have hY_330 := isY.put hG_309 u_326
                have hG_331 := isV.frame hM_328 go_.2.2.2.1 mq0_ kq0_ (by decide) (by decide) hV_312
                have hG_332 := cEq.frame hM_328 go_.2.2.2.1 ma0_ ka0_ (by decide) (by decide) hE_314
                refine lv_aload_n hx hb dX14_readCall_88 rfl (lv_at hl 5 rfl) ?_
                refine g_getk (C := RX14) (T := TX14) (N := 67) hx hb hts (mc_ inX14) hown hK g rfl 2 (by decide) rfl (hts _ (List.mem_cons_of_mem _ t_2148)) (fun _ h9 => h9) 3 rfl dX14_readCall_89 ?_
                refine g_getr (K := 205) (C := RX12) (T := TX12) (N := 60) hx hb hts (mc_ inX12) hown hK g mq0_ kq0_ (by decide) rfl 51 (by decide) rfl (hts _ (List.mem_cons_of_mem _ t_2006)) (fun _ h9 => h9) rfl dX14_readCall_92 (fun a_333 ma_333 ka_333 g => ?_)
                refine lv_aload hx hb dX14_readCall_95 (lv_at hl 3 rfl) ?_
                refine lv_iload hx hb dX14_readCall_97 (lv_at hl 2 rfl) ?_
                refine g_iald hx hb hK g mqn kqn (by decide) rfl (in_bd b_299 (by decide)) dX14_readCall_99 (fun x_334 bx_334 cx_334 => ?_)
                obtain rfl : r_301 = x_334 := (by rw [cx_334, hY_330.at_]; exact (if_pos rfl).symm)
                refine g_iald hx hb hK g ma_333 ka_333 (by decide) rfl (in_bd b_325 (by decide)) dX14_readCall_100 (fun x_335 bx_335 cx_335 => ?_)
                have vx_335 : x_335 = V_310.i 51 r_301.toNatClampNeg := hG_331.at g 0 rfl rfl cx_335
                have b_336 : bd 1 12 x_335 := ev_hb hw_316 hv_317 vx_335
                refine lv_iload hx hb dX14_readCall_101 (lv_at hl 1 rfl) ?_
                refine lv_icmp_le (tgt := 122) hx hb dX14_readCall_103 (by decide) (fun c_337 => ?_) (fun c_337 => ?_)
                · have fc_337 := le_f c_337
                  have b_338 : bd 1 12 v73_12 := leR fc_337 b_336 bv73_12 (by decide)
                  refine lv_iload hx hb dX14_readCall_122 (lv_at hl 1 rfl) ?_
                  refine lv_istore (lv' := [(12, .int v73_12), (13, .int v73_13), (11, .int v73_11), (10, .ref qn), (9, .int x_1), (0, .ref a0_), (1, .int x1_), (2, .int x2_), (3, .long x3_), (5, .long x4_), (7, .int x5_), (8, .int x6_)]) hx hb dX14_readCall_124 hl (by decide) rfl (fun ls hl => ?_)
                  obtain ⟨y_339, ey_339⟩ : ∃ z : Int32, z = v73_11 + 1 := ⟨_, rfl⟩
                  refine lv_iinc (v := y_339) (lv' := [(11, .int y_339), (12, .int v73_12), (13, .int v73_13), (10, .ref qn), (9, .int x_1), (0, .ref a0_), (1, .int x1_), (2, .int x2_), (3, .long x3_), (5, .long x4_), (7, .int x5_), (8, .int x6_)]) hx hb dX14_readCall_126 hl (k := 2) rfl (by rw [ey_339]; rfl) (by decide) rfl (fun ls hl => ?_)
                  have ty_339 := add_bd ey_339 b_299 kb_1 (by decide)
                  have b_340 : bd 1 3 y_339 := add_rg ty_339 b_299 kb_1 (by decide)
                  refine lv_aload_n hx hb dX14_readCall_129 rfl (lv_at hl 5 rfl) ?_
                  refine lv_bipush (v := 44) hx hb dX14_readCall_130 (by decide) ?_
                  have go_ := g
                  refine g_calli (va_runV (As := [.int 44]) (rest := []) ⟨hx, hb, hml, hown, hts⟩ (r_X14_isSign l dC dI L9 kd9 tys f H.size g.2.2.2.1 a0_ ma0_ ka0_ 44) (cwV 1 hts (gV_ t_2435 t_2437 t_108 t_198 t_2438) rfl rfl rfl (by decide +kernel) ⟨(show 0 + 1 ≤ N + 1 + 24 by omega), (show 8 + (2 + 11) + 0 ≤ 60 * (N + 1) + 700 by omega)⟩) (pre3V g hK ma0_ ka0_ (by decide) (q := (RX14, TX14, 67)) rfl) rfl rfl hl.1 rfl (lv_room (Nat.le_of_ble_eq_true rfl)) dX14_readCall_132 (cl_f hck_324)) g hK (by decide) (by decide) (fx' := [(12, 51, q0_, .ref a_333), (14, 25, a0_, .int x_10), (14, 10, a0_, .int x_306), (12, 19, q0_, .ref g46_12_19_q0_), (14, 2, a0_, .ref q0_), (14, 16, a0_, .int o_)]) rfl (fun r_341 fr_341 H locs hp hMr_341 g => ?_)
                  rcases hp with ⟨h_342, -⟩ | ⟨h_343, x_344, h_345, hF_346⟩
                  · have hG_347 := isY.frame hMr_341 go_.2.2.2.1 mqn kqn (by decide) (by decide) hY_330
                    have hG_348 := isV.frame hMr_341 go_.2.2.2.1 mq0_ kq0_ (by decide) (by decide) hG_331
                    have hG_349 := FR.frame hMr_341 go_.2.2.2.1 mq0_ kq0_ (by decide) (by decide) hF_329
                    have hG_350 := cEq.frame hMr_341 go_.2.2.2.1 ma0_ ka0_ (by decide) (by decide) hG_332
                    obtain rfl : r_341 = 0 := h_342
                    refine lv_istore (lv' := [(13, .int 0), (11, .int y_339), (12, .int v73_12), (10, .ref qn), (9, .int x_1), (0, .ref a0_), (1, .int x1_), (2, .int x2_), (3, .long x3_), (5, .long x4_), (7, .int x5_), (8, .int x6_)]) hx hb dX14_readCall_135 hl (by decide) rfl (fun ls hl => ?_)
                    refine lv_iload hx hb dX14_readCall_137 (lv_at hl 0 rfl) ?_
                    refine lv_if_ne (tgt := 145) hx hb dX14_readCall_139 (by decide) (fun c_ => absurd c_ (by decide)) (fun c_ => ?_)
                    refine lv_goto (tgt := 73) hx hb dX14_readCall_142 (by decide) ?_
                    have hl9 := lv_sub hl [0, 2, 1, 3, 4, 5, 6, 7, 8, 9, 10, 11] (by rfl : lv_pick [(13, .int 0), (11, .int y_339), (12, .int v73_12), (10, .ref qn), (9, .int x_1), (0, .ref a0_), (1, .int x1_), (2, .int x2_), (3, .long x3_), (5, .long x4_), (7, .int x5_), (8, .int x6_)] [0, 2, 1, 3, 4, 5, 6, 7, 8, 9, 10, 11] = [(13, .int 0), (12, .int v73_12), (11, .int y_339), (10, .ref qn), (9, .int x_1), (0, .ref a0_), (1, .int x1_), (2, .int x2_), (3, .long x3_), (5, .long x4_), (7, .int x5_), (8, .int x6_)])
                    have g9 := g.sub (fx' := [(12, 19, q0_, .ref g46_12_19_q0_), (14, 10, a0_, .int x_306), (14, 25, a0_, .int x_10), (14, 2, a0_, .ref q0_), (14, 16, a0_, .int o_)]) [3, 2, 1, 4, 5] rfl
                    exact ih73  0 v73_12 y_339 x_306 (bd_sub kb_0 (by decide)) (bd_sub b_338 (by decide)) (bd_sub b_340 (by decide)) h_307 (by have h9_0 := b_338; unfold bd at h9_0; have h9_1 := b_340; unfold bd at h9_1; have h9_2 := bv73_11; unfold bd at h9_2; have h9_3 := bv73_12; unfold bd at h9_3; have h9_4 := bv73_13; unfold bd at h9_4; have h9_5 := bw73_14_10_a0_; unfold bd at h9_5; have h9_6 := h_307; unfold bd at h9_6; have h9_7 := kb_0; unfold bd at h9_7; have h9_8 := kb_1; unfold bd at h9_8; omega) _ _ _ _ _ _ g9 ⟨_, _, _, hG_348, hG_349, hG_350, hx_323, hw_316, (by omega), (by omega), (by omega), (by omega), hck_324, (by omega), hNW, hG_347, (arg_s hA73 hX_315 (EV.at_ hv_317 vx_335) b_299.1 (by have h9_0 := bj73_13; unfold bd at h9_0; have h9_1 := bo_; unfold bd at h9_1; have h9_2 := b_17; unfold bd at h9_2; have h9_3 := b_325; unfold bd at h9_3; have h9_4 := b_16; unfold bd at h9_4; have h9_5 := b_299; unfold bd at h9_5; have h9_6 := b_338; unfold bd at h9_6; have h9_7 := b_298; unfold bd at h9_7; have h9_8 := bw73_14_10_a0_; unfold bd at h9_8; have h9_9 := bx2_; unfold bd at h9_9; have h9_10 := bx6_; unfold bd at h9_10; have h9_11 := bx_1; unfold bd at h9_11; have h9_12 := h_11; unfold bd at h9_12; have h9_13 := h_307; unfold bd at h9_13; have h9_14 := b_336; unfold bd at h9_14; have h9_15 := h_9; unfold bd at h9_15; have h9_16 := b_340; unfold bd at h9_16; have h8_0 := kb_0; unfold bd at h8_0; have h8_1 := kb_1; unfold bd at h8_1; omega) (by have h9_0 := bj73_13; unfold bd at h9_0; have h9_1 := bo_; unfold bd at h9_1; have h9_2 := b_17; unfold bd at h9_2; have h9_3 := b_325; unfold bd at h9_3; have h9_4 := b_16; unfold bd at h9_4; have h9_5 := b_299; unfold bd at h9_5; have h9_6 := b_338; unfold bd at h9_6; have h9_7 := b_298; unfold bd at h9_7; have h9_8 := bw73_14_10_a0_; unfold bd at h9_8; have h9_9 := bx2_; unfold bd at h9_9; have h9_10 := bx6_; unfold bd at h9_10; have h9_11 := bx_1; unfold bd at h9_11; have h9_12 := h_11; unfold bd at h9_12; have h9_13 := h_307; unfold bd at h9_13; have h9_14 := b_336; unfold bd at h9_14; have h9_15 := h_9; unfold bd at h9_15; have h9_16 := b_340; unfold bd at h9_16; have h8_0 := kb_0; unfold bd at h8_0; have h8_1 := kb_1; unfold bd at h8_1; omega) (by have h9_0 := bj73_13; unfold bd at h9_0; have h9_1 := bo_; unfold bd at h9_1; have h9_2 := b_17; unfold bd at h9_2; have h9_3 := b_325; unfold bd at h9_3; have h9_4 := b_16; unfold bd at h9_4; have h9_5 := b_299; unfold bd at h9_5; have h9_6 := b_338; unfold bd at h9_6; have h9_7 := b_298; unfold bd at h9_7; have h9_8 := bw73_14_10_a0_; unfold bd at h9_8; have h9_9 := bx2_; unfold bd at h9_9; have h9_10 := bx6_; unfold bd at h9_10; have h9_11 := bx_1; unfold bd at h9_11; have h9_12 := h_11; unfold bd at h9_12; have h9_13 := h_307; unfold bd at h9_13; have h9_14 := b_336; unfold bd at h9_14; have h9_15 := h_9; unfold bd at h9_15; have h9_16 := b_340; unfold bd at h9_16; have h8_0 := kb_0; unfold bd at h8_0; have h8_1 := kb_1; unfold bd at h8_1; omega)), (by have h9_0 := bj73_13; unfold bd at h9_0; have h9_1 := bo_; unfold bd at h9_1; have h9_2 := b_17; unfold bd at h9_2; have h9_3 := b_325; unfold bd at h9_3; have h9_4 := b_16; unfold bd at h9_4; have h9_5 := b_299; unfold bd at h9_5; have h9_6 := b_338; unfold bd at h9_6; have h9_7 := b_298; unfold bd at h9_7; have h9_8 := bw73_14_10_a0_; unfold bd at h9_8; have h9_9 := bx2_; unfold bd at h9_9; have h9_10 := bx6_; unfold bd at h9_10; have h9_11 := bx_1; unfold bd at h9_11; have h9_12 := h_11; unfold bd at h9_12; have h9_13 := h_307; unfold bd at h9_13; have h9_14 := b_336; unfold bd at h9_14; have h9_15 := h_9; unfold bd at h9_15; have h9_16 := b_340; unfold bd at h9_16; have h8_0 := kb_0; unfold bd at h8_0; have h8_1 := kb_1; unfold bd at h8_1; omega)⟩ hl9
                  · have hG_351 := isY.frame hMr_341 go_.2.2.2.1 mqn kqn (by decide) (by decide) hY_330
                    have hG_352 := isV.frame hMr_341 go_.2.2.2.1 mq0_ kq0_ (by decide) (by decide) hG_331
                    have hG_353 := FR.frame hMr_341 go_.2.2.2.1 mq0_ kq0_ (by decide) (by decide) hF_329
                    have hG_354 := cEq.frame hMr_341 go_.2.2.2.1 ma0_ ka0_ (by decide) (by decide) hG_332
                    obtain rfl : r_341 = 1 := h_343
                    have g := g.more hF_346
                    refine lv_istore (lv' := [(13, .int 1), (11, .int y_339), (12, .int v73_12), (10, .ref qn), (9, .int x_1), (0, .ref a0_), (1, .int x1_), (2, .int x2_), (3, .long x3_), (5, .long x4_), (7, .int x5_), (8, .int x6_)]) hx hb dX14_readCall_135 hl (by decide) rfl (fun ls hl => ?_)
                    refine lv_iload hx hb dX14_readCall_137 (lv_at hl 0 rfl) ?_
                    refine lv_if_ne (tgt := 145) hx hb dX14_readCall_139 (by decide) (fun c_ => ?_) (fun c_ => absurd c_ (by decide))
                    refine lv_aload_n hx hb dX14_readCall_145 rfl (lv_at hl 5 rfl) ?_
                    have hs_355 := sE_1 g 0 rfl (by have h9_0 := bj73_13; unfold bd at h9_0; have h9_1 := bo_; unfold bd at h9_1; have h9_2 := b_17; unfold bd at h9_2; have h9_3 := b_325; unfold bd at h9_3; have h9_4 := b_16; unfold bd at h9_4; have h9_5 := b_299; unfold bd at h9_5; have h9_6 := b_338; unfold bd at h9_6; have h9_7 := b_298; unfold bd at h9_7; have h9_8 := bw73_14_10_a0_; unfold bd at h9_8; have h9_9 := bx2_; unfold bd at h9_9; have h9_10 := bx6_; unfold bd at h9_10; have h9_11 := bx_1; unfold bd at h9_11; have h9_12 := h_11; unfold bd at h9_12; have h9_13 := h_307; unfold bd at h9_13; have h9_14 := b_336; unfold bd at h9_14; have h9_15 := h_345; unfold bd at h9_15; have h9_16 := h_9; unfold bd at h9_16; have h9_17 := b_340; unfold bd at h9_17; have h8_0 := kb_0; unfold bd at h8_0; have h8_1 := kb_1; unfold bd at h8_1; omega)
                    have go_ := g
                    refine g_callEv (As := []) (rest := []) ⟨hx, hb, hml, hown, hts⟩ (r_X14_room l dC dI L9 kd9 tys fr_341 H.size g.2.2.2.1 a0_ ma0_ ka0_) (cwV 0 hts (gV_ t_2415 t_2417 t_103 t_198 t_2418) rfl rfl rfl (by decide +kernel) ⟨(show 2 + 1 ≤ N + 1 + 24 by omega), (show 8 + (1 + 11) + 45 ≤ 60 * (N + 1) + 700 by omega)⟩) (pre3V g hK ma0_ ka0_ (by decide) (q := (RX14, TX14, 67)) rfl) rfl hl.1 rfl (lv_room (Nat.le_of_ble_eq_true rfl)) dX14_readCall_146 (cl_f hck_324) g hK (by decide) (by decide) (fx' := [(14, 6, a0_, .int x_344), (12, 51, q0_, .ref a_333), (14, 25, a0_, .int x_10), (14, 10, a0_, .int x_306), (12, 19, q0_, .ref g46_12_19_q0_), (14, 2, a0_, .ref q0_), (14, 16, a0_, .int o_)]) rfl (fun xr_356 fr_356 H locs mxr_356 kxr_356 hp hMr_356 g => ?_) (fun fr_356 H locs hp hMr_356 g => ?_)
                    · have hG_357 := isY.frame hMr_356 go_.2.2.2.1 mqn kqn (by decide) (by decide) hG_351
                      have hG_358 := isV.frame hMr_356 go_.2.2.2.1 mq0_ kq0_ (by decide) (by decide) hG_352
                      have hG_359 := FR.frame hMr_356 go_.2.2.2.1 mq0_ kq0_ (by decide) (by decide) hG_353
                      have hG_360 := cEq.frame hMr_356 go_.2.2.2.1 ma0_ ka0_ (by decide) (by decide) hG_354
                      have hF_361 := NW.FR_b hNW mo_q hG_359
                      obtain ⟨mo9, ko9⟩ := NW.old hNW mxr_356 kxr_356 (by decide)
                      have g := NW.drop hNW (g.sub (fx' := []) [] rfl) (fun x h9 => by cases h9)
                      subst hQ
                      exact leavesX hempty hlocks (fun t ht hW => g_thrZ g hK mo9 ko9 ⟨hF_361, (by omega)⟩ ht hW) g.2.2.1.2.2
                    · obtain ⟨x_362, h_363, hF_364⟩ := hp
                      have hG_365 := isY.frame hMr_356 go_.2.2.2.1 mqn kqn (by decide) (by decide) hG_351
                      have hG_366 := isV.frame hMr_356 go_.2.2.2.1 mq0_ kq0_ (by decide) (by decide) hG_352
                      have hG_367 := FR.frame hMr_356 go_.2.2.2.1 mq0_ kq0_ (by decide) (by decide) hG_353
                      have hG_368 := cEq.frame hMr_356 go_.2.2.2.1 ma0_ ka0_ (by decide) (by decide) hG_354
                      have g := g.more hF_364
                      have e_369 := fx_same g 4 0 rfl rfl
                      have b_370 : bd 0 1200 x_306 := eqX (eq_f e_369.symm) h_307 h_363 (by decide)
                      have g := g.sub (fx' := [(14, 6, a0_, .int x_344), (12, 51, q0_, .ref a_333), (14, 25, a0_, .int x_10), (14, 10, a0_, .int x_306), (12, 19, q0_, .ref g46_12_19_q0_), (14, 2, a0_, .ref q0_), (14, 16, a0_, .int o_)]) [1, 2, 3, 4, 5, 6, 7] rfl
                      refine lv_aload_n hx hb dX14_readCall_149 rfl (lv_at hl 5 rfl) ?_
                      refine lv_iload hx hb dX14_readCall_150 (lv_at hl 1 rfl) ?_
                      refine lv_aload_n hx hb dX14_readCall_152 rfl (lv_at hl 5 rfl) ?_
                      refine g_getk (C := RX14) (T := TX14) (N := 67) hx hb hts (mc_ inX14) hown hK g rfl 2 (by decide) rfl (hts _ (List.mem_cons_of_mem _ t_2148)) (fun _ h9 => h9) 5 rfl dX14_readCall_153 ?_
                      refine g_getk (C := RX12) (T := TX12) (N := 60) hx hb hts (mc_ inX12) hown hK g rfl 19 (by decide) rfl (hts _ (List.mem_cons_of_mem _ t_1944)) (fun _ h9 => h9) 4 rfl dX14_readCall_156 ?_
                      refine lv_iload_n hx hb dX14_readCall_159 rfl (lv_at hl 7 rfl) ?_
                      refine g_iald hx hb hK g mg46_12_19_q0_ kg46_12_19_q0_ (by decide) rfl (in_bd bx2_ (by decide)) dX14_readCall_160 (fun x_371 bx_371 cx_371 => ?_)
                      have vx_371 : x_371 = V_310.i 19 x2_.toNatClampNeg := hG_366.at g 4 rfl rfl cx_371
                      refine lv_icmp_ge (tgt := 168) hx hb dX14_readCall_161 (by decide) (fun c_372 => ?_) (fun c_372 => ?_)
                      · have fc_372 := le_f c_372
                        refine lv_iconst (v := 0) hx hb dX14_readCall_168 (by decide) ?_
                        refine lv_bipush (v := 6) hx hb dX14_readCall_169 (by decide) ?_
                        refine lv_aload_n hx hb dX14_readCall_171 rfl (lv_at hl 5 rfl) ?_
                        refine g_geti (C := RX14) (T := TX14) (N := 67) hx hb hts (mc_ inX14) hown hK g ma0_ ka0_ (by decide) rfl 8 (by decide) rfl (hts _ (List.mem_cons_of_mem _ t_2154)) (fun _ h9 => h9) rfl dX14_readCall_172 (fun x_373 bx_373 g => ?_)
                        have hs_374 := sE_1 g 1 rfl (by have h9_0 := bj73_13; unfold bd at h9_0; have h9_1 := bo_; unfold bd at h9_1; have h9_2 := b_17; unfold bd at h9_2; have h9_3 := b_325; unfold bd at h9_3; have h9_4 := b_16; unfold bd at h9_4; have h9_5 := b_299; unfold bd at h9_5; have h9_6 := b_338; unfold bd at h9_6; have h9_7 := b_298; unfold bd at h9_7; have h9_8 := bw73_14_10_a0_; unfold bd at h9_8; have h9_9 := bx2_; unfold bd at h9_9; have h9_10 := bx6_; unfold bd at h9_10; have h9_11 := bx_1; unfold bd at h9_11; have h9_12 := h_11; unfold bd at h9_12; have h9_13 := b_370; unfold bd at h9_13; have h9_14 := b_336; unfold bd at h9_14; have h9_15 := h_345; unfold bd at h9_15; have h9_16 := h_363; unfold bd at h9_16; have h9_17 := bx_371; unfold bd at h9_17; have h9_18 := bx_373; unfold bd at h9_18; have h9_19 := h_9; unfold bd at h9_19; have h9_20 := b_340; unfold bd at h9_20; have h8_0 := kb_0; unfold bd at h8_0; have h8_1 := kb_1; unfold bd at h8_1; omega)
                        have go_ := g
                        refine g_callEv (As := [.int 0, .int 6, .int x_373]) (rest := []) ⟨hx, hb, hml, hown, hts⟩ (r_X14_need_2 l dC dI L9 kd9 tys fr_356 H.size g.2.2.2.1 a0_ ma0_ ka0_ 0 kb_0 6 x_373) (cwV 3 hts (gV_ t_2403 t_2405 t_100 t_198 t_2406) rfl rfl rfl (by decide +kernel) ⟨(show 1 + 1 ≤ N + 1 + 24 by omega), (show 8 + (4 + 11) + 22 ≤ 60 * (N + 1) + 700 by omega)⟩) (pre3V g hK ma0_ ka0_ (by decide) (q := (RX14, TX14, 67)) rfl) rfl hl.1 rfl (lv_room (Nat.le_of_ble_eq_true rfl)) dX14_readCall_175 (cl_f hck_324) g hK (by decide) (by decide) (fx' := [(14, 8, a0_, .int x_373), (14, 6, a0_, .int x_344), (12, 51, q0_, .ref a_333), (14, 25, a0_, .int x_10), (14, 10, a0_, .int x_306), (12, 19, q0_, .ref g46_12_19_q0_), (14, 2, a0_, .ref q0_), (14, 16, a0_, .int o_)]) rfl (fun xr_375 fr_375 H locs mxr_375 kxr_375 hp hMr_375 g => ?_) (fun fr_375 H locs hp hMr_375 g => ?_)
                        · have hG_376 := isY.frame hMr_375 go_.2.2.2.1 mqn kqn (by decide) (by decide) hG_365
                          have hG_377 := isV.frame hMr_375 go_.2.2.2.1 mq0_ kq0_ (by decide) (by decide) hG_366
                          have hG_378 := FR.frame hMr_375 go_.2.2.2.1 mq0_ kq0_ (by decide) (by decide) hG_367
                          have hG_379 := cEq.frame hMr_375 go_.2.2.2.1 ma0_ ka0_ (by decide) (by decide) hG_368
                          have hF_380 := NW.FR_b hNW mo_q hG_378
                          obtain ⟨mo9, ko9⟩ := NW.old hNW mxr_375 kxr_375 (by decide)
                          have g := NW.drop hNW (g.sub (fx' := []) [] rfl) (fun x h9 => by cases h9)
                          subst hQ
                          exact leavesX hempty hlocks (fun t ht hW => g_thrZ g hK mo9 ko9 ⟨hF_380, (by omega)⟩ ht hW) g.2.2.1.2.2
                        · exact hp.elim
                      · have fc_372 := nle_f c_372
                        have b_381 : bd 1 2 y_339 := ltL fc_372 b_340 bx_371 (by decide)
                        have b_382 : bd 0 1 v73_11 := add_inv ty_339 b_381 b_299 kb_1 (by decide)
                        have b_383 : bd 2 3 x_371 := ltR fc_372 b_340 bx_371 (by decide)
                        refine lv_iconst (v := 1) hx hb dX14_readCall_164 (by decide) ?_
                        refine lv_goto (tgt := 169) hx hb dX14_readCall_165 (by decide) ?_
                        refine lv_bipush (v := 6) hx hb dX14_readCall_169 (by decide) ?_
                        refine lv_aload_n hx hb dX14_readCall_171 rfl (lv_at hl 5 rfl) ?_
                        refine g_geti (C := RX14) (T := TX14) (N := 67) hx hb hts (mc_ inX14) hown hK g ma0_ ka0_ (by decide) rfl 8 (by decide) rfl (hts _ (List.mem_cons_of_mem _ t_2154)) (fun _ h9 => h9) rfl dX14_readCall_172 (fun x_384 bx_384 g => ?_)
                        have hs_385 := sE_1 g 1 rfl (by have h9_0 := bj73_13; unfold bd at h9_0; have h9_1 := bo_; unfold bd at h9_1; have h9_2 := b_17; unfold bd at h9_2; have h9_3 := b_325; unfold bd at h9_3; have h9_4 := b_16; unfold bd at h9_4; have h9_5 := b_382; unfold bd at h9_5; have h9_6 := b_338; unfold bd at h9_6; have h9_7 := b_298; unfold bd at h9_7; have h9_8 := bw73_14_10_a0_; unfold bd at h9_8; have h9_9 := bx2_; unfold bd at h9_9; have h9_10 := bx6_; unfold bd at h9_10; have h9_11 := bx_1; unfold bd at h9_11; have h9_12 := h_11; unfold bd at h9_12; have h9_13 := b_370; unfold bd at h9_13; have h9_14 := b_336; unfold bd at h9_14; have h9_15 := h_345; unfold bd at h9_15; have h9_16 := h_363; unfold bd at h9_16; have h9_17 := b_383; unfold bd at h9_17; have h9_18 := bx_384; unfold bd at h9_18; have h9_19 := h_9; unfold bd at h9_19; have h9_20 := b_381; unfold bd at h9_20; have h8_0 := kb_0; unfold bd at h8_0; have h8_1 := kb_1; unfold bd at h8_1; omega)
                        have go_ := g
                        refine g_callEv (As := [.int 1, .int 6, .int x_384]) (rest := []) ⟨hx, hb, hml, hown, hts⟩ (r_X14_need_3 l dC dI L9 kd9 tys fr_356 H.size g.2.2.2.1 a0_ ma0_ ka0_ 1 kb_1 6 x_384) (cwV 3 hts (gV_ t_2403 t_2405 t_100 t_198 t_2406) rfl rfl rfl (by decide +kernel) ⟨(show 0 + 1 ≤ N + 1 + 24 by omega), (show 8 + (4 + 11) + 0 ≤ 60 * (N + 1) + 700 by omega)⟩) (pre3V g hK ma0_ ka0_ (by decide) (q := (RX14, TX14, 67)) rfl) rfl hl.1 rfl (lv_room (Nat.le_of_ble_eq_true rfl)) dX14_readCall_175 (cl_f hck_324) g hK (by decide) (by decide) (fx' := [(14, 8, a0_, .int x_384), (14, 6, a0_, .int x_344), (12, 51, q0_, .ref a_333), (14, 25, a0_, .int x_10), (14, 10, a0_, .int x_306), (12, 19, q0_, .ref g46_12_19_q0_), (14, 2, a0_, .ref q0_), (14, 16, a0_, .int o_)]) rfl (fun xr_386 fr_386 H locs mxr_386 kxr_386 hp hMr_386 g => ?_) (fun fr_386 H locs hp hMr_386 g => ?_)
                        · have hG_387 := isY.frame hMr_386 go_.2.2.2.1 mqn kqn (by decide) (by decide) hG_365
                          have hG_388 := isV.frame hMr_386 go_.2.2.2.1 mq0_ kq0_ (by decide) (by decide) hG_366
                          have hG_389 := FR.frame hMr_386 go_.2.2.2.1 mq0_ kq0_ (by decide) (by decide) hG_367
                          have hG_390 := cEq.frame hMr_386 go_.2.2.2.1 ma0_ ka0_ (by decide) (by decide) hG_368
                          exact hp.elim
                        · have hG_391 := isY.frame hMr_386 go_.2.2.2.1 mqn kqn (by decide) (by decide) hG_365
                          have hG_392 := isV.frame hMr_386 go_.2.2.2.1 mq0_ kq0_ (by decide) (by decide) hG_366
                          have hG_393 := FR.frame hMr_386 go_.2.2.2.1 mq0_ kq0_ (by decide) (by decide) hG_367
                          have hG_394 := cEq.frame hMr_386 go_.2.2.2.1 ma0_ ka0_ (by decide) (by decide) hG_368
                          refine lv_aload_n hx hb dX14_readCall_178 rfl (lv_at hl 5 rfl) ?_
                          have hs_395 := sE_1 g 1 rfl (by have h9_0 := bj73_13; unfold bd at h9_0; have h9_1 := bo_; unfold bd at h9_1; have h9_2 := b_17; unfold bd at h9_2; have h9_3 := b_325; unfold bd at h9_3; have h9_4 := b_16; unfold bd at h9_4; have h9_5 := b_382; unfold bd at h9_5; have h9_6 := b_338; unfold bd at h9_6; have h9_7 := b_298; unfold bd at h9_7; have h9_8 := bw73_14_10_a0_; unfold bd at h9_8; have h9_9 := bx2_; unfold bd at h9_9; have h9_10 := bx6_; unfold bd at h9_10; have h9_11 := bx_1; unfold bd at h9_11; have h9_12 := h_11; unfold bd at h9_12; have h9_13 := b_370; unfold bd at h9_13; have h9_14 := b_336; unfold bd at h9_14; have h9_15 := h_345; unfold bd at h9_15; have h9_16 := h_363; unfold bd at h9_16; have h9_17 := b_383; unfold bd at h9_17; have h9_18 := bx_384; unfold bd at h9_18; have h9_19 := h_9; unfold bd at h9_19; have h9_20 := b_381; unfold bd at h9_20; have h8_0 := kb_0; unfold bd at h8_0; have h8_1 := kb_1; unfold bd at h8_1; omega)
                          have go_ := g
                          refine g_callEv (As := []) (rest := []) ⟨hx, hb, hml, hown, hts⟩ (r_X14_next_2 l dC dI L9 kd9 tys fr_386 H.size g.2.2.2.1 adK adV a0_ ma0_ ka0_ x_306 (bd_sub b_370 (by decide)) (g.fcts [4] rfl)) (cwV 0 hts (gV_ t_2411 t_2413 t_102 t_198 t_2414) rfl rfl rfl (by decide +kernel) ⟨(show 6 + 1 ≤ N + 1 + 24 by omega), (show 8 + (1 + 11) + 135 ≤ 60 * (N + 1) + 700 by omega)⟩) (pre3VA g hK hAm ma0_ ka0_ (by decide) (q := (RX14, TX14, 67)) rfl) rfl hl.1 rfl (lv_room (Nat.le_of_ble_eq_true rfl)) dX14_readCall_179 (cl_f hck_324) g hK (by decide) (by decide) (fx' := [(12, 51, q0_, .ref a_333), (14, 25, a0_, .int x_10), (12, 19, q0_, .ref g46_12_19_q0_), (14, 2, a0_, .ref q0_), (14, 16, a0_, .int o_)]) rfl (fun xr_396 fr_396 H locs mxr_396 kxr_396 hp hMr_396 g => ?_) (fun fr_396 H locs hp hMr_396 g => ?_)
                          · have hG_397 := isY.frame hMr_396 go_.2.2.2.1 mqn kqn (by decide) (by decide) hG_391
                            have hG_398 := isV.frame hMr_396 go_.2.2.2.1 mq0_ kq0_ (by decide) (by decide) hG_392
                            have hG_399 := FR.frame hMr_396 go_.2.2.2.1 mq0_ kq0_ (by decide) (by decide) hG_393
                            have hF_400 := NW.FR_b hNW mo_q hG_399
                            obtain ⟨mo9, ko9⟩ := NW.old hNW mxr_396 kxr_396 (by decide)
                            have g := NW.drop hNW (g.sub (fx' := []) [] rfl) (fun x h9 => by cases h9)
                            subst hQ
                            exact leavesX hempty hlocks (fun t ht hW => g_thrZ g hK mo9 ko9 ⟨hF_400, (by omega)⟩ ht hW) g.2.2.1.2.2
                          · obtain ⟨hx_401, h_402, x_403, h_404, hF_405⟩ := hp
                            have hG_406 := isY.frame hMr_396 go_.2.2.2.1 mqn kqn (by decide) (by decide) hG_391
                            have hG_407 := isV.frame hMr_396 go_.2.2.2.1 mq0_ kq0_ (by decide) (by decide) hG_392
                            have hG_408 := FR.frame hMr_396 go_.2.2.2.1 mq0_ kq0_ (by decide) (by decide) hG_393
                            obtain ⟨E_409, hE_409⟩ : ∃ E : Int, cEq fr_396 a0_ E := ⟨_, rfl⟩
                            have mxE_409 : E_409 ≤ 1202 := by have h9 := cF_le g ma0_ ka0_; have h8 : cF _ _ = _ := hE_409; omega
                            have lE_409 : E_311 + 1 ≤ E_409 := by have h9 := hx_401; have h8 : cF _ _ = _ := hE_409; have h7 : cF _ _ = _ := hG_394; have h6 := hs_395; have h5 := tk_c (f := fr_386) (t := a0_); omega
                            have g := g.more hF_405
                            refine lv_goto (tgt := 73) hx hb dX14_readCall_182 (by decide) ?_
                            have hl9 := lv_sub hl [0, 2, 1, 3, 4, 5, 6, 7, 8, 9, 10, 11] (by rfl : lv_pick [(13, .int 1), (11, .int y_339), (12, .int v73_12), (10, .ref qn), (9, .int x_1), (0, .ref a0_), (1, .int x1_), (2, .int x2_), (3, .long x3_), (5, .long x4_), (7, .int x5_), (8, .int x6_)] [0, 2, 1, 3, 4, 5, 6, 7, 8, 9, 10, 11] = [(13, .int 1), (12, .int v73_12), (11, .int y_339), (10, .ref qn), (9, .int x_1), (0, .ref a0_), (1, .int x1_), (2, .int x2_), (3, .long x3_), (5, .long x4_), (7, .int x5_), (8, .int x6_)])
                            have g9 := g.sub (fx' := [(12, 19, q0_, .ref g46_12_19_q0_), (14, 10, a0_, .int x_403), (14, 25, a0_, .int x_10), (14, 2, a0_, .ref q0_), (14, 16, a0_, .int o_)]) [3, 0, 2, 4, 5] rfl
                            exact ih73  1 v73_12 y_339 x_403 (bd_sub kb_1 (by decide)) (bd_sub b_338 (by decide)) (bd_sub b_381 (by decide)) h_404 (by have h9_0 := b_338; unfold bd at h9_0; have h9_1 := b_381; unfold bd at h9_1; have h9_2 := bv73_11; unfold bd at h9_2; have h9_3 := bv73_12; unfold bd at h9_3; have h9_4 := bv73_13; unfold bd at h9_4; have h9_5 := bw73_14_10_a0_; unfold bd at h9_5; have h9_6 := h_404; unfold bd at h9_6; have h9_7 := kb_0; unfold bd at h9_7; have h9_8 := kb_1; unfold bd at h9_8; omega) _ _ _ _ _ _ g9 ⟨_, _, _, hG_407, hG_408, hE_409, hx_323, hw_316, (by omega), (by omega), (by omega), (by omega), hck_324, (by omega), hNW, hG_406, (arg_s hA73 hX_315 (EV.at_ hv_317 vx_335) b_382.1 (by have h9_0 := bj73_13; unfold bd at h9_0; have h9_1 := bo_; unfold bd at h9_1; have h9_2 := b_17; unfold bd at h9_2; have h9_3 := b_325; unfold bd at h9_3; have h9_4 := b_16; unfold bd at h9_4; have h9_5 := b_382; unfold bd at h9_5; have h9_6 := b_338; unfold bd at h9_6; have h9_7 := b_298; unfold bd at h9_7; have h9_8 := bw73_14_10_a0_; unfold bd at h9_8; have h9_9 := bx2_; unfold bd at h9_9; have h9_10 := bx6_; unfold bd at h9_10; have h9_11 := bx_1; unfold bd at h9_11; have h9_12 := h_11; unfold bd at h9_12; have h9_13 := b_370; unfold bd at h9_13; have h9_14 := b_336; unfold bd at h9_14; have h9_15 := h_345; unfold bd at h9_15; have h9_16 := h_363; unfold bd at h9_16; have h9_17 := b_383; unfold bd at h9_17; have h9_18 := bx_384; unfold bd at h9_18; have h9_19 := h_404; unfold bd at h9_19; have h9_20 := h_9; unfold bd at h9_20; have h9_21 := b_381; unfold bd at h9_21; have h8_0 := kb_0; unfold bd at h8_0; have h8_1 := kb_1; unfold bd at h8_1; omega) (by have h9_0 := bj73_13; unfold bd at h9_0; have h9_1 := bo_; unfold bd at h9_1; have h9_2 := b_17; unfold bd at h9_2; have h9_3 := b_325; unfold bd at h9_3; have h9_4 := b_16; unfold bd at h9_4; have h9_5 := b_382; unfold bd at h9_5; have h9_6 := b_338; unfold bd at h9_6; have h9_7 := b_298; unfold bd at h9_7; have h9_8 := bw73_14_10_a0_; unfold bd at h9_8; have h9_9 := bx2_; unfold bd at h9_9; have h9_10 := bx6_; unfold bd at h9_10; have h9_11 := bx_1; unfold bd at h9_11; have h9_12 := h_11; unfold bd at h9_12; have h9_13 := b_370; unfold bd at h9_13; have h9_14 := b_336; unfold bd at h9_14; have h9_15 := h_345; unfold bd at h9_15; have h9_16 := h_363; unfold bd at h9_16; have h9_17 := b_383; unfold bd at h9_17; have h9_18 := bx_384; unfold bd at h9_18; have h9_19 := h_404; unfold bd at h9_19; have h9_20 := h_9; unfold bd at h9_20; have h9_21 := b_381; unfold bd at h9_21; have h8_0 := kb_0; unfold bd at h8_0; have h8_1 := kb_1; unfold bd at h8_1; omega) (by have h9_0 := bj73_13; unfold bd at h9_0; have h9_1 := bo_; unfold bd at h9_1; have h9_2 := b_17; unfold bd at h9_2; have h9_3 := b_325; unfold bd at h9_3; have h9_4 := b_16; unfold bd at h9_4; have h9_5 := b_382; unfold bd at h9_5; have h9_6 := b_338; unfold bd at h9_6; have h9_7 := b_298; unfold bd at h9_7; have h9_8 := bw73_14_10_a0_; unfold bd at h9_8; have h9_9 := bx2_; unfold bd at h9_9; have h9_10 := bx6_; unfold bd at h9_10; have h9_11 := bx_1; unfold bd at h9_11; have h9_12 := h_11; unfold bd at h9_12; have h9_13 := b_370; unfold bd at h9_13; have h9_14 := b_336; unfold bd at h9_14; have h9_15 := h_345; unfold bd at h9_15; have h9_16 := h_363; unfold bd at h9_16; have h9_17 := b_383; unfold bd at h9_17; have h9_18 := bx_384; unfold bd at h9_18; have h9_19 := h_404; unfold bd at h9_19; have h9_20 := h_9; unfold bd at h9_20; have h9_21 := b_381; unfold bd at h9_21; have h8_0 := kb_0; unfold bd at h8_0; have h8_1 := kb_1; unfold bd at h8_1; omega)), (by have h9_0 := bj73_13; unfold bd at h9_0; have h9_1 := bo_; unfold bd at h9_1; have h9_2 := b_17; unfold bd at h9_2; have h9_3 := b_325; unfold bd at h9_3; have h9_4 := b_16; unfold bd at h9_4; have h9_5 := b_382; unfold bd at h9_5; have h9_6 := b_338; unfold bd at h9_6; have h9_7 := b_298; unfold bd at h9_7; have h9_8 := bw73_14_10_a0_; unfold bd at h9_8; have h9_9 := bx2_; unfold bd at h9_9; have h9_10 := bx6_; unfold bd at h9_10; have h9_11 := bx_1; unfold bd at h9_11; have h9_12 := h_11; unfold bd at h9_12; have h9_13 := b_370; unfold bd at h9_13; have h9_14 := b_336; unfold bd at h9_14; have h9_15 := h_345; unfold bd at h9_15; have h9_16 := h_363; unfold bd at h9_16; have h9_17 := b_383; unfold bd at h9_17; have h9_18 := bx_384; unfold bd at h9_18; have h9_19 := h_404; unfold bd at h9_19; have h9_20 := h_9; unfold bd at h9_20; have h9_21 := b_381; unfold bd at h9_21; have h8_0 := kb_0; unfold bd at h8_0; have h8_1 := kb_1; unfold bd at h8_1; omega)⟩ hl9
                · have fc_337 := nle_f c_337
                  have b_410 : bd 0 11 v73_12 := ltL fc_337 bv73_12 b_336 (by decide)
                  refine lv_aload_n hx hb dX14_readCall_106 rfl (lv_at hl 5 rfl) ?_
                  refine g_getk (C := RX14) (T := TX14) (N := 67) hx hb hts (mc_ inX14) hown hK g rfl 2 (by decide) rfl (hts _ (List.mem_cons_of_mem _ t_2148)) (fun _ h9 => h9) 4 rfl dX14_readCall_107 ?_
                  refine g_getk (C := RX12) (T := TX12) (N := 60) hx hb hts (mc_ inX12) hown hK g rfl 51 (by decide) rfl (hts _ (List.mem_cons_of_mem _ t_2006)) (fun _ h9 => h9) 0 rfl dX14_readCall_110 ?_
                  refine lv_aload hx hb dX14_readCall_113 (lv_at hl 3 rfl) ?_
                  refine lv_iload hx hb dX14_readCall_115 (lv_at hl 2 rfl) ?_
                  refine g_iald hx hb hK g mqn kqn (by decide) rfl (in_bd b_299 (by decide)) dX14_readCall_117 (fun x_411 bx_411 cx_411 => ?_)
                  obtain rfl : r_301 = x_411 := (by rw [cx_411, hY_330.at_]; exact (if_pos rfl).symm)
                  refine g_iald hx hb hK g ma_333 ka_333 (by decide) rfl (in_bd b_325 (by decide)) dX14_readCall_118 (fun x_412 bx_412 cx_412 => ?_)
                  obtain rfl : x_335 = x_412 := el_same cx_335 cx_412 rfl
                  refine lv_goto (tgt := 124) hx hb dX14_readCall_119 (by decide) ?_
                  refine lv_istore (lv' := [(12, .int x_335), (13, .int v73_13), (11, .int v73_11), (10, .ref qn), (9, .int x_1), (0, .ref a0_), (1, .int x1_), (2, .int x2_), (3, .long x3_), (5, .long x4_), (7, .int x5_), (8, .int x6_)]) hx hb dX14_readCall_124 hl (by decide) rfl (fun ls hl => ?_)
                  obtain ⟨y_413, ey_413⟩ : ∃ z : Int32, z = v73_11 + 1 := ⟨_, rfl⟩
                  refine lv_iinc (v := y_413) (lv' := [(11, .int y_413), (12, .int x_335), (13, .int v73_13), (10, .ref qn), (9, .int x_1), (0, .ref a0_), (1, .int x1_), (2, .int x2_), (3, .long x3_), (5, .long x4_), (7, .int x5_), (8, .int x6_)]) hx hb dX14_readCall_126 hl (k := 2) rfl (by rw [ey_413]; rfl) (by decide) rfl (fun ls hl => ?_)
                  have ty_413 := add_bd ey_413 b_299 kb_1 (by decide)
                  have b_414 : bd 1 3 y_413 := add_rg ty_413 b_299 kb_1 (by decide)
                  refine lv_aload_n hx hb dX14_readCall_129 rfl (lv_at hl 5 rfl) ?_
                  refine lv_bipush (v := 44) hx hb dX14_readCall_130 (by decide) ?_
                  have go_ := g
                  refine g_calli (va_runV (As := [.int 44]) (rest := []) ⟨hx, hb, hml, hown, hts⟩ (r_X14_isSign l dC dI L9 kd9 tys f H.size g.2.2.2.1 a0_ ma0_ ka0_ 44) (cwV 1 hts (gV_ t_2435 t_2437 t_108 t_198 t_2438) rfl rfl rfl (by decide +kernel) ⟨(show 0 + 1 ≤ N + 1 + 24 by omega), (show 8 + (2 + 11) + 0 ≤ 60 * (N + 1) + 700 by omega)⟩) (pre3V g hK ma0_ ka0_ (by decide) (q := (RX14, TX14, 67)) rfl) rfl rfl hl.1 rfl (lv_room (Nat.le_of_ble_eq_true rfl)) dX14_readCall_132 (cl_f hck_324)) g hK (by decide) (by decide) (fx' := [(12, 51, q0_, .ref a_333), (14, 25, a0_, .int x_10), (14, 10, a0_, .int x_306), (12, 19, q0_, .ref g46_12_19_q0_), (14, 2, a0_, .ref q0_), (14, 16, a0_, .int o_)]) rfl (fun r_415 fr_415 H locs hp hMr_415 g => ?_)
                  rcases hp with ⟨h_416, -⟩ | ⟨h_417, x_418, h_419, hF_420⟩
                  · have hG_421 := isY.frame hMr_415 go_.2.2.2.1 mqn kqn (by decide) (by decide) hY_330
                    have hG_422 := isV.frame hMr_415 go_.2.2.2.1 mq0_ kq0_ (by decide) (by decide) hG_331
                    have hG_423 := FR.frame hMr_415 go_.2.2.2.1 mq0_ kq0_ (by decide) (by decide) hF_329
                    have hG_424 := cEq.frame hMr_415 go_.2.2.2.1 ma0_ ka0_ (by decide) (by decide) hG_332
                    obtain rfl : r_415 = 0 := h_416
                    refine lv_istore (lv' := [(13, .int 0), (11, .int y_413), (12, .int x_335), (10, .ref qn), (9, .int x_1), (0, .ref a0_), (1, .int x1_), (2, .int x2_), (3, .long x3_), (5, .long x4_), (7, .int x5_), (8, .int x6_)]) hx hb dX14_readCall_135 hl (by decide) rfl (fun ls hl => ?_)
                    refine lv_iload hx hb dX14_readCall_137 (lv_at hl 0 rfl) ?_
                    refine lv_if_ne (tgt := 145) hx hb dX14_readCall_139 (by decide) (fun c_ => absurd c_ (by decide)) (fun c_ => ?_)
                    refine lv_goto (tgt := 73) hx hb dX14_readCall_142 (by decide) ?_
                    have hl9 := lv_sub hl [0, 2, 1, 3, 4, 5, 6, 7, 8, 9, 10, 11] (by rfl : lv_pick [(13, .int 0), (11, .int y_413), (12, .int x_335), (10, .ref qn), (9, .int x_1), (0, .ref a0_), (1, .int x1_), (2, .int x2_), (3, .long x3_), (5, .long x4_), (7, .int x5_), (8, .int x6_)] [0, 2, 1, 3, 4, 5, 6, 7, 8, 9, 10, 11] = [(13, .int 0), (12, .int x_335), (11, .int y_413), (10, .ref qn), (9, .int x_1), (0, .ref a0_), (1, .int x1_), (2, .int x2_), (3, .long x3_), (5, .long x4_), (7, .int x5_), (8, .int x6_)])
                    have g9 := g.sub (fx' := [(12, 19, q0_, .ref g46_12_19_q0_), (14, 10, a0_, .int x_306), (14, 25, a0_, .int x_10), (14, 2, a0_, .ref q0_), (14, 16, a0_, .int o_)]) [3, 2, 1, 4, 5] rfl
                    exact ih73  0 x_335 y_413 x_306 (bd_sub kb_0 (by decide)) (bd_sub b_336 (by decide)) (bd_sub b_414 (by decide)) h_307 (by have h9_0 := b_336; unfold bd at h9_0; have h9_1 := b_414; unfold bd at h9_1; have h9_2 := bv73_11; unfold bd at h9_2; have h9_3 := bv73_12; unfold bd at h9_3; have h9_4 := bv73_13; unfold bd at h9_4; have h9_5 := bw73_14_10_a0_; unfold bd at h9_5; have h9_6 := h_307; unfold bd at h9_6; have h9_7 := kb_0; unfold bd at h9_7; have h9_8 := kb_1; unfold bd at h9_8; omega) _ _ _ _ _ _ g9 ⟨_, _, _, hG_422, hG_423, hG_424, hx_323, hw_316, (by omega), (by omega), (by omega), (by omega), hck_324, (by omega), hNW, hG_421, (arg_s hA73 hX_315 (EV.at_ hv_317 vx_335) b_299.1 (by have h9_0 := bj73_13; unfold bd at h9_0; have h9_1 := bo_; unfold bd at h9_1; have h9_2 := b_17; unfold bd at h9_2; have h9_3 := b_325; unfold bd at h9_3; have h9_4 := b_16; unfold bd at h9_4; have h9_5 := b_299; unfold bd at h9_5; have h9_6 := b_410; unfold bd at h9_6; have h9_7 := b_298; unfold bd at h9_7; have h9_8 := bw73_14_10_a0_; unfold bd at h9_8; have h9_9 := bx2_; unfold bd at h9_9; have h9_10 := bx6_; unfold bd at h9_10; have h9_11 := bx_1; unfold bd at h9_11; have h9_12 := h_11; unfold bd at h9_12; have h9_13 := h_307; unfold bd at h9_13; have h9_14 := b_336; unfold bd at h9_14; have h9_15 := h_9; unfold bd at h9_15; have h9_16 := b_414; unfold bd at h9_16; have h8_0 := kb_0; unfold bd at h8_0; have h8_1 := kb_1; unfold bd at h8_1; omega) (by have h9_0 := bj73_13; unfold bd at h9_0; have h9_1 := bo_; unfold bd at h9_1; have h9_2 := b_17; unfold bd at h9_2; have h9_3 := b_325; unfold bd at h9_3; have h9_4 := b_16; unfold bd at h9_4; have h9_5 := b_299; unfold bd at h9_5; have h9_6 := b_410; unfold bd at h9_6; have h9_7 := b_298; unfold bd at h9_7; have h9_8 := bw73_14_10_a0_; unfold bd at h9_8; have h9_9 := bx2_; unfold bd at h9_9; have h9_10 := bx6_; unfold bd at h9_10; have h9_11 := bx_1; unfold bd at h9_11; have h9_12 := h_11; unfold bd at h9_12; have h9_13 := h_307; unfold bd at h9_13; have h9_14 := b_336; unfold bd at h9_14; have h9_15 := h_9; unfold bd at h9_15; have h9_16 := b_414; unfold bd at h9_16; have h8_0 := kb_0; unfold bd at h8_0; have h8_1 := kb_1; unfold bd at h8_1; omega) (by have h9_0 := bj73_13; unfold bd at h9_0; have h9_1 := bo_; unfold bd at h9_1; have h9_2 := b_17; unfold bd at h9_2; have h9_3 := b_325; unfold bd at h9_3; have h9_4 := b_16; unfold bd at h9_4; have h9_5 := b_299; unfold bd at h9_5; have h9_6 := b_410; unfold bd at h9_6; have h9_7 := b_298; unfold bd at h9_7; have h9_8 := bw73_14_10_a0_; unfold bd at h9_8; have h9_9 := bx2_; unfold bd at h9_9; have h9_10 := bx6_; unfold bd at h9_10; have h9_11 := bx_1; unfold bd at h9_11; have h9_12 := h_11; unfold bd at h9_12; have h9_13 := h_307; unfold bd at h9_13; have h9_14 := b_336; unfold bd at h9_14; have h9_15 := h_9; unfold bd at h9_15; have h9_16 := b_414; unfold bd at h9_16; have h8_0 := kb_0; unfold bd at h8_0; have h8_1 := kb_1; unfold bd at h8_1; omega)), (by have h9_0 := bj73_13; unfold bd at h9_0; have h9_1 := bo_; unfold bd at h9_1; have h9_2 := b_17; unfold bd at h9_2; have h9_3 := b_325; unfold bd at h9_3; have h9_4 := b_16; unfold bd at h9_4; have h9_5 := b_299; unfold bd at h9_5; have h9_6 := b_410; unfold bd at h9_6; have h9_7 := b_298; unfold bd at h9_7; have h9_8 := bw73_14_10_a0_; unfold bd at h9_8; have h9_9 := bx2_; unfold bd at h9_9; have h9_10 := bx6_; unfold bd at h9_10; have h9_11 := bx_1; unfold bd at h9_11; have h9_12 := h_11; unfold bd at h9_12; have h9_13 := h_307; unfold bd at h9_13; have h9_14 := b_336; unfold bd at h9_14; have h9_15 := h_9; unfold bd at h9_15; have h9_16 := b_414; unfold bd at h9_16; have h8_0 := kb_0; unfold bd at h8_0; have h8_1 := kb_1; unfold bd at h8_1; omega)⟩ hl9
                  · have hG_425 := isY.frame hMr_415 go_.2.2.2.1 mqn kqn (by decide) (by decide) hY_330
                    have hG_426 := isV.frame hMr_415 go_.2.2.2.1 mq0_ kq0_ (by decide) (by decide) hG_331
                    have hG_427 := FR.frame hMr_415 go_.2.2.2.1 mq0_ kq0_ (by decide) (by decide) hF_329
                    have hG_428 := cEq.frame hMr_415 go_.2.2.2.1 ma0_ ka0_ (by decide) (by decide) hG_332
                    obtain rfl : r_415 = 1 := h_417
                    have g := g.more hF_420
                    refine lv_istore (lv' := [(13, .int 1), (11, .int y_413), (12, .int x_335), (10, .ref qn), (9, .int x_1), (0, .ref a0_), (1, .int x1_), (2, .int x2_), (3, .long x3_), (5, .long x4_), (7, .int x5_), (8, .int x6_)]) hx hb dX14_readCall_135 hl (by decide) rfl (fun ls hl => ?_)
                    refine lv_iload hx hb dX14_readCall_137 (lv_at hl 0 rfl) ?_
                    refine lv_if_ne (tgt := 145) hx hb dX14_readCall_139 (by decide) (fun c_ => ?_) (fun c_ => absurd c_ (by decide))
                    refine lv_aload_n hx hb dX14_readCall_145 rfl (lv_at hl 5 rfl) ?_
                    have hs_429 := sE_1 g 0 rfl (by have h9_0 := bj73_13; unfold bd at h9_0; have h9_1 := bo_; unfold bd at h9_1; have h9_2 := b_17; unfold bd at h9_2; have h9_3 := b_325; unfold bd at h9_3; have h9_4 := b_16; unfold bd at h9_4; have h9_5 := b_299; unfold bd at h9_5; have h9_6 := b_410; unfold bd at h9_6; have h9_7 := b_298; unfold bd at h9_7; have h9_8 := bw73_14_10_a0_; unfold bd at h9_8; have h9_9 := bx2_; unfold bd at h9_9; have h9_10 := bx6_; unfold bd at h9_10; have h9_11 := bx_1; unfold bd at h9_11; have h9_12 := h_11; unfold bd at h9_12; have h9_13 := h_307; unfold bd at h9_13; have h9_14 := b_336; unfold bd at h9_14; have h9_15 := h_419; unfold bd at h9_15; have h9_16 := h_9; unfold bd at h9_16; have h9_17 := b_414; unfold bd at h9_17; have h8_0 := kb_0; unfold bd at h8_0; have h8_1 := kb_1; unfold bd at h8_1; omega)
                    have go_ := g
                    refine g_callEv (As := []) (rest := []) ⟨hx, hb, hml, hown, hts⟩ (r_X14_room l dC dI L9 kd9 tys fr_415 H.size g.2.2.2.1 a0_ ma0_ ka0_) (cwV 0 hts (gV_ t_2415 t_2417 t_103 t_198 t_2418) rfl rfl rfl (by decide +kernel) ⟨(show 2 + 1 ≤ N + 1 + 24 by omega), (show 8 + (1 + 11) + 45 ≤ 60 * (N + 1) + 700 by omega)⟩) (pre3V g hK ma0_ ka0_ (by decide) (q := (RX14, TX14, 67)) rfl) rfl hl.1 rfl (lv_room (Nat.le_of_ble_eq_true rfl)) dX14_readCall_146 (cl_f hck_324) g hK (by decide) (by decide) (fx' := [(14, 6, a0_, .int x_418), (12, 51, q0_, .ref a_333), (14, 25, a0_, .int x_10), (14, 10, a0_, .int x_306), (12, 19, q0_, .ref g46_12_19_q0_), (14, 2, a0_, .ref q0_), (14, 16, a0_, .int o_)]) rfl (fun xr_430 fr_430 H locs mxr_430 kxr_430 hp hMr_430 g => ?_) (fun fr_430 H locs hp hMr_430 g => ?_)
                    · have hG_431 := isY.frame hMr_430 go_.2.2.2.1 mqn kqn (by decide) (by decide) hG_425
                      have hG_432 := isV.frame hMr_430 go_.2.2.2.1 mq0_ kq0_ (by decide) (by decide) hG_426
                      have hG_433 := FR.frame hMr_430 go_.2.2.2.1 mq0_ kq0_ (by decide) (by decide) hG_427
                      have hG_434 := cEq.frame hMr_430 go_.2.2.2.1 ma0_ ka0_ (by decide) (by decide) hG_428
                      have hF_435 := NW.FR_b hNW mo_q hG_433
                      obtain ⟨mo9, ko9⟩ := NW.old hNW mxr_430 kxr_430 (by decide)
                      have g := NW.drop hNW (g.sub (fx' := []) [] rfl) (fun x h9 => by cases h9)
                      subst hQ
                      exact leavesX hempty hlocks (fun t ht hW => g_thrZ g hK mo9 ko9 ⟨hF_435, (by omega)⟩ ht hW) g.2.2.1.2.2
                    · obtain ⟨x_436, h_437, hF_438⟩ := hp
                      have hG_439 := isY.frame hMr_430 go_.2.2.2.1 mqn kqn (by decide) (by decide) hG_425
                      have hG_440 := isV.frame hMr_430 go_.2.2.2.1 mq0_ kq0_ (by decide) (by decide) hG_426
                      have hG_441 := FR.frame hMr_430 go_.2.2.2.1 mq0_ kq0_ (by decide) (by decide) hG_427
                      have hG_442 := cEq.frame hMr_430 go_.2.2.2.1 ma0_ ka0_ (by decide) (by decide) hG_428
                      have g := g.more hF_438
                      have e_443 := fx_same g 4 0 rfl rfl
                      have b_444 : bd 0 1200 x_306 := eqX (eq_f e_443.symm) h_307 h_437 (by decide)
                      have g := g.sub (fx' := [(14, 6, a0_, .int x_418), (12, 51, q0_, .ref a_333), (14, 25, a0_, .int x_10), (14, 10, a0_, .int x_306), (12, 19, q0_, .ref g46_12_19_q0_), (14, 2, a0_, .ref q0_), (14, 16, a0_, .int o_)]) [1, 2, 3, 4, 5, 6, 7] rfl
                      refine lv_aload_n hx hb dX14_readCall_149 rfl (lv_at hl 5 rfl) ?_
                      refine lv_iload hx hb dX14_readCall_150 (lv_at hl 1 rfl) ?_
                      refine lv_aload_n hx hb dX14_readCall_152 rfl (lv_at hl 5 rfl) ?_
                      refine g_getk (C := RX14) (T := TX14) (N := 67) hx hb hts (mc_ inX14) hown hK g rfl 2 (by decide) rfl (hts _ (List.mem_cons_of_mem _ t_2148)) (fun _ h9 => h9) 5 rfl dX14_readCall_153 ?_
                      refine g_getk (C := RX12) (T := TX12) (N := 60) hx hb hts (mc_ inX12) hown hK g rfl 19 (by decide) rfl (hts _ (List.mem_cons_of_mem _ t_1944)) (fun _ h9 => h9) 4 rfl dX14_readCall_156 ?_
                      refine lv_iload_n hx hb dX14_readCall_159 rfl (lv_at hl 7 rfl) ?_
                      refine g_iald hx hb hK g mg46_12_19_q0_ kg46_12_19_q0_ (by decide) rfl (in_bd bx2_ (by decide)) dX14_readCall_160 (fun x_445 bx_445 cx_445 => ?_)
                      have vx_445 : x_445 = V_310.i 19 x2_.toNatClampNeg := hG_440.at g 4 rfl rfl cx_445
                      refine lv_icmp_ge (tgt := 168) hx hb dX14_readCall_161 (by decide) (fun c_446 => ?_) (fun c_446 => ?_)
                      · have fc_446 := le_f c_446
                        refine lv_iconst (v := 0) hx hb dX14_readCall_168 (by decide) ?_
                        refine lv_bipush (v := 6) hx hb dX14_readCall_169 (by decide) ?_
                        refine lv_aload_n hx hb dX14_readCall_171 rfl (lv_at hl 5 rfl) ?_
                        refine g_geti (C := RX14) (T := TX14) (N := 67) hx hb hts (mc_ inX14) hown hK g ma0_ ka0_ (by decide) rfl 8 (by decide) rfl (hts _ (List.mem_cons_of_mem _ t_2154)) (fun _ h9 => h9) rfl dX14_readCall_172 (fun x_447 bx_447 g => ?_)
                        have hs_448 := sE_1 g 1 rfl (by have h9_0 := bj73_13; unfold bd at h9_0; have h9_1 := bo_; unfold bd at h9_1; have h9_2 := b_17; unfold bd at h9_2; have h9_3 := b_325; unfold bd at h9_3; have h9_4 := b_16; unfold bd at h9_4; have h9_5 := b_299; unfold bd at h9_5; have h9_6 := b_410; unfold bd at h9_6; have h9_7 := b_298; unfold bd at h9_7; have h9_8 := bw73_14_10_a0_; unfold bd at h9_8; have h9_9 := bx2_; unfold bd at h9_9; have h9_10 := bx6_; unfold bd at h9_10; have h9_11 := bx_1; unfold bd at h9_11; have h9_12 := h_11; unfold bd at h9_12; have h9_13 := b_444; unfold bd at h9_13; have h9_14 := b_336; unfold bd at h9_14; have h9_15 := h_419; unfold bd at h9_15; have h9_16 := h_437; unfold bd at h9_16; have h9_17 := bx_445; unfold bd at h9_17; have h9_18 := bx_447; unfold bd at h9_18; have h9_19 := h_9; unfold bd at h9_19; have h9_20 := b_414; unfold bd at h9_20; have h8_0 := kb_0; unfold bd at h8_0; have h8_1 := kb_1; unfold bd at h8_1; omega)
                        have go_ := g
                        refine g_callEv (As := [.int 0, .int 6, .int x_447]) (rest := []) ⟨hx, hb, hml, hown, hts⟩ (r_X14_need_2 l dC dI L9 kd9 tys fr_430 H.size g.2.2.2.1 a0_ ma0_ ka0_ 0 kb_0 6 x_447) (cwV 3 hts (gV_ t_2403 t_2405 t_100 t_198 t_2406) rfl rfl rfl (by decide +kernel) ⟨(show 1 + 1 ≤ N + 1 + 24 by omega), (show 8 + (4 + 11) + 22 ≤ 60 * (N + 1) + 700 by omega)⟩) (pre3V g hK ma0_ ka0_ (by decide) (q := (RX14, TX14, 67)) rfl) rfl hl.1 rfl (lv_room (Nat.le_of_ble_eq_true rfl)) dX14_readCall_175 (cl_f hck_324) g hK (by decide) (by decide) (fx' := [(14, 8, a0_, .int x_447), (14, 6, a0_, .int x_418), (12, 51, q0_, .ref a_333), (14, 25, a0_, .int x_10), (14, 10, a0_, .int x_306), (12, 19, q0_, .ref g46_12_19_q0_), (14, 2, a0_, .ref q0_), (14, 16, a0_, .int o_)]) rfl (fun xr_449 fr_449 H locs mxr_449 kxr_449 hp hMr_449 g => ?_) (fun fr_449 H locs hp hMr_449 g => ?_)
                        · have hG_450 := isY.frame hMr_449 go_.2.2.2.1 mqn kqn (by decide) (by decide) hG_439
                          have hG_451 := isV.frame hMr_449 go_.2.2.2.1 mq0_ kq0_ (by decide) (by decide) hG_440
                          have hG_452 := FR.frame hMr_449 go_.2.2.2.1 mq0_ kq0_ (by decide) (by decide) hG_441
                          have hG_453 := cEq.frame hMr_449 go_.2.2.2.1 ma0_ ka0_ (by decide) (by decide) hG_442
                          have hF_454 := NW.FR_b hNW mo_q hG_452
                          obtain ⟨mo9, ko9⟩ := NW.old hNW mxr_449 kxr_449 (by decide)
                          have g := NW.drop hNW (g.sub (fx' := []) [] rfl) (fun x h9 => by cases h9)
                          subst hQ
                          exact leavesX hempty hlocks (fun t ht hW => g_thrZ g hK mo9 ko9 ⟨hF_454, (by omega)⟩ ht hW) g.2.2.1.2.2
                        · exact hp.elim
                      · have fc_446 := nle_f c_446
                        have b_455 : bd 1 2 y_413 := ltL fc_446 b_414 bx_445 (by decide)
                        have b_456 : bd 0 1 v73_11 := add_inv ty_413 b_455 b_299 kb_1 (by decide)
                        have b_457 : bd 2 3 x_445 := ltR fc_446 b_414 bx_445 (by decide)
                        refine lv_iconst (v := 1) hx hb dX14_readCall_164 (by decide) ?_
                        refine lv_goto (tgt := 169) hx hb dX14_readCall_165 (by decide) ?_
                        refine lv_bipush (v := 6) hx hb dX14_readCall_169 (by decide) ?_
                        refine lv_aload_n hx hb dX14_readCall_171 rfl (lv_at hl 5 rfl) ?_
                        refine g_geti (C := RX14) (T := TX14) (N := 67) hx hb hts (mc_ inX14) hown hK g ma0_ ka0_ (by decide) rfl 8 (by decide) rfl (hts _ (List.mem_cons_of_mem _ t_2154)) (fun _ h9 => h9) rfl dX14_readCall_172 (fun x_458 bx_458 g => ?_)
                        have hs_459 := sE_1 g 1 rfl (by have h9_0 := bj73_13; unfold bd at h9_0; have h9_1 := bo_; unfold bd at h9_1; have h9_2 := b_17; unfold bd at h9_2; have h9_3 := b_325; unfold bd at h9_3; have h9_4 := b_16; unfold bd at h9_4; have h9_5 := b_456; unfold bd at h9_5; have h9_6 := b_410; unfold bd at h9_6; have h9_7 := b_298; unfold bd at h9_7; have h9_8 := bw73_14_10_a0_; unfold bd at h9_8; have h9_9 := bx2_; unfold bd at h9_9; have h9_10 := bx6_; unfold bd at h9_10; have h9_11 := bx_1; unfold bd at h9_11; have h9_12 := h_11; unfold bd at h9_12; have h9_13 := b_444; unfold bd at h9_13; have h9_14 := b_336; unfold bd at h9_14; have h9_15 := h_419; unfold bd at h9_15; have h9_16 := h_437; unfold bd at h9_16; have h9_17 := b_457; unfold bd at h9_17; have h9_18 := bx_458; unfold bd at h9_18; have h9_19 := h_9; unfold bd at h9_19; have h9_20 := b_455; unfold bd at h9_20; have h8_0 := kb_0; unfold bd at h8_0; have h8_1 := kb_1; unfold bd at h8_1; omega)
                        have go_ := g
                        refine g_callEv (As := [.int 1, .int 6, .int x_458]) (rest := []) ⟨hx, hb, hml, hown, hts⟩ (r_X14_need_3 l dC dI L9 kd9 tys fr_430 H.size g.2.2.2.1 a0_ ma0_ ka0_ 1 kb_1 6 x_458) (cwV 3 hts (gV_ t_2403 t_2405 t_100 t_198 t_2406) rfl rfl rfl (by decide +kernel) ⟨(show 0 + 1 ≤ N + 1 + 24 by omega), (show 8 + (4 + 11) + 0 ≤ 60 * (N + 1) + 700 by omega)⟩) (pre3V g hK ma0_ ka0_ (by decide) (q := (RX14, TX14, 67)) rfl) rfl hl.1 rfl (lv_room (Nat.le_of_ble_eq_true rfl)) dX14_readCall_175 (cl_f hck_324) g hK (by decide) (by decide) (fx' := [(14, 8, a0_, .int x_458), (14, 6, a0_, .int x_418), (12, 51, q0_, .ref a_333), (14, 25, a0_, .int x_10), (14, 10, a0_, .int x_306), (12, 19, q0_, .ref g46_12_19_q0_), (14, 2, a0_, .ref q0_), (14, 16, a0_, .int o_)]) rfl (fun xr_460 fr_460 H locs mxr_460 kxr_460 hp hMr_460 g => ?_) (fun fr_460 H locs hp hMr_460 g => ?_)
                        · have hG_461 := isY.frame hMr_460 go_.2.2.2.1 mqn kqn (by decide) (by decide) hG_439
                          have hG_462 := isV.frame hMr_460 go_.2.2.2.1 mq0_ kq0_ (by decide) (by decide) hG_440
                          have hG_463 := FR.frame hMr_460 go_.2.2.2.1 mq0_ kq0_ (by decide) (by decide) hG_441
                          have hG_464 := cEq.frame hMr_460 go_.2.2.2.1 ma0_ ka0_ (by decide) (by decide) hG_442
                          exact hp.elim
                        · have hG_465 := isY.frame hMr_460 go_.2.2.2.1 mqn kqn (by decide) (by decide) hG_439
                          have hG_466 := isV.frame hMr_460 go_.2.2.2.1 mq0_ kq0_ (by decide) (by decide) hG_440
                          have hG_467 := FR.frame hMr_460 go_.2.2.2.1 mq0_ kq0_ (by decide) (by decide) hG_441
                          have hG_468 := cEq.frame hMr_460 go_.2.2.2.1 ma0_ ka0_ (by decide) (by decide) hG_442
                          refine lv_aload_n hx hb dX14_readCall_178 rfl (lv_at hl 5 rfl) ?_
                          have hs_469 := sE_1 g 1 rfl (by have h9_0 := bj73_13; unfold bd at h9_0; have h9_1 := bo_; unfold bd at h9_1; have h9_2 := b_17; unfold bd at h9_2; have h9_3 := b_325; unfold bd at h9_3; have h9_4 := b_16; unfold bd at h9_4; have h9_5 := b_456; unfold bd at h9_5; have h9_6 := b_410; unfold bd at h9_6; have h9_7 := b_298; unfold bd at h9_7; have h9_8 := bw73_14_10_a0_; unfold bd at h9_8; have h9_9 := bx2_; unfold bd at h9_9; have h9_10 := bx6_; unfold bd at h9_10; have h9_11 := bx_1; unfold bd at h9_11; have h9_12 := h_11; unfold bd at h9_12; have h9_13 := b_444; unfold bd at h9_13; have h9_14 := b_336; unfold bd at h9_14; have h9_15 := h_419; unfold bd at h9_15; have h9_16 := h_437; unfold bd at h9_16; have h9_17 := b_457; unfold bd at h9_17; have h9_18 := bx_458; unfold bd at h9_18; have h9_19 := h_9; unfold bd at h9_19; have h9_20 := b_455; unfold bd at h9_20; have h8_0 := kb_0; unfold bd at h8_0; have h8_1 := kb_1; unfold bd at h8_1; omega)
                          have go_ := g
                          refine g_callEv (As := []) (rest := []) ⟨hx, hb, hml, hown, hts⟩ (r_X14_next_2 l dC dI L9 kd9 tys fr_460 H.size g.2.2.2.1 adK adV a0_ ma0_ ka0_ x_306 (bd_sub b_444 (by decide)) (g.fcts [4] rfl)) (cwV 0 hts (gV_ t_2411 t_2413 t_102 t_198 t_2414) rfl rfl rfl (by decide +kernel) ⟨(show 6 + 1 ≤ N + 1 + 24 by omega), (show 8 + (1 + 11) + 135 ≤ 60 * (N + 1) + 700 by omega)⟩) (pre3VA g hK hAm ma0_ ka0_ (by decide) (q := (RX14, TX14, 67)) rfl) rfl hl.1 rfl (lv_room (Nat.le_of_ble_eq_true rfl)) dX14_readCall_179 (cl_f hck_324) g hK (by decide) (by decide) (fx' := [(12, 51, q0_, .ref a_333), (14, 25, a0_, .int x_10), (12, 19, q0_, .ref g46_12_19_q0_), (14, 2, a0_, .ref q0_), (14, 16, a0_, .int o_)]) rfl (fun xr_470 fr_470 H locs mxr_470 kxr_470 hp hMr_470 g => ?_) (fun fr_470 H locs hp hMr_470 g => ?_)
                          · have hG_471 := isY.frame hMr_470 go_.2.2.2.1 mqn kqn (by decide) (by decide) hG_465
                            have hG_472 := isV.frame hMr_470 go_.2.2.2.1 mq0_ kq0_ (by decide) (by decide) hG_466
                            have hG_473 := FR.frame hMr_470 go_.2.2.2.1 mq0_ kq0_ (by decide) (by decide) hG_467
                            have hF_474 := NW.FR_b hNW mo_q hG_473
                            obtain ⟨mo9, ko9⟩ := NW.old hNW mxr_470 kxr_470 (by decide)
                            have g := NW.drop hNW (g.sub (fx' := []) [] rfl) (fun x h9 => by cases h9)
                            subst hQ
                            exact leavesX hempty hlocks (fun t ht hW => g_thrZ g hK mo9 ko9 ⟨hF_474, (by omega)⟩ ht hW) g.2.2.1.2.2
                          · obtain ⟨hx_475, h_476, x_477, h_478, hF_479⟩ := hp
                            have hG_480 := isY.frame hMr_470 go_.2.2.2.1 mqn kqn (by decide) (by decide) hG_465
                            have hG_481 := isV.frame hMr_470 go_.2.2.2.1 mq0_ kq0_ (by decide) (by decide) hG_466
                            have hG_482 := FR.frame hMr_470 go_.2.2.2.1 mq0_ kq0_ (by decide) (by decide) hG_467
                            obtain ⟨E_483, hE_483⟩ : ∃ E : Int, cEq fr_470 a0_ E := ⟨_, rfl⟩
                            have mxE_483 : E_483 ≤ 1202 := by have h9 := cF_le g ma0_ ka0_; have h8 : cF _ _ = _ := hE_483; omega
                            have lE_483 : E_311 + 1 ≤ E_483 := by have h9 := hx_475; have h8 : cF _ _ = _ := hE_483; have h7 : cF _ _ = _ := hG_468; have h6 := hs_469; have h5 := tk_c (f := fr_460) (t := a0_); omega
                            have g := g.more hF_479
                            refine lv_goto (tgt := 73) hx hb dX14_readCall_182 (by decide) ?_
                            have hl9 := lv_sub hl [0, 2, 1, 3, 4, 5, 6, 7, 8, 9, 10, 11] (by rfl : lv_pick [(13, .int 1), (11, .int y_413), (12, .int x_335), (10, .ref qn), (9, .int x_1), (0, .ref a0_), (1, .int x1_), (2, .int x2_), (3, .long x3_), (5, .long x4_), (7, .int x5_), (8, .int x6_)] [0, 2, 1, 3, 4, 5, 6, 7, 8, 9, 10, 11] = [(13, .int 1), (12, .int x_335), (11, .int y_413), (10, .ref qn), (9, .int x_1), (0, .ref a0_), (1, .int x1_), (2, .int x2_), (3, .long x3_), (5, .long x4_), (7, .int x5_), (8, .int x6_)])
                            have g9 := g.sub (fx' := [(12, 19, q0_, .ref g46_12_19_q0_), (14, 10, a0_, .int x_477), (14, 25, a0_, .int x_10), (14, 2, a0_, .ref q0_), (14, 16, a0_, .int o_)]) [3, 0, 2, 4, 5] rfl
                            exact ih73  1 x_335 y_413 x_477 (bd_sub kb_1 (by decide)) (bd_sub b_336 (by decide)) (bd_sub b_455 (by decide)) h_478 (by have h9_0 := b_336; unfold bd at h9_0; have h9_1 := b_455; unfold bd at h9_1; have h9_2 := bv73_11; unfold bd at h9_2; have h9_3 := bv73_12; unfold bd at h9_3; have h9_4 := bv73_13; unfold bd at h9_4; have h9_5 := bw73_14_10_a0_; unfold bd at h9_5; have h9_6 := h_478; unfold bd at h9_6; have h9_7 := kb_0; unfold bd at h9_7; have h9_8 := kb_1; unfold bd at h9_8; omega) _ _ _ _ _ _ g9 ⟨_, _, _, hG_481, hG_482, hE_483, hx_323, hw_316, (by omega), (by omega), (by omega), (by omega), hck_324, (by omega), hNW, hG_480, (arg_s hA73 hX_315 (EV.at_ hv_317 vx_335) b_456.1 (by have h9_0 := bj73_13; unfold bd at h9_0; have h9_1 := bo_; unfold bd at h9_1; have h9_2 := b_17; unfold bd at h9_2; have h9_3 := b_325; unfold bd at h9_3; have h9_4 := b_16; unfold bd at h9_4; have h9_5 := b_456; unfold bd at h9_5; have h9_6 := b_410; unfold bd at h9_6; have h9_7 := b_298; unfold bd at h9_7; have h9_8 := bw73_14_10_a0_; unfold bd at h9_8; have h9_9 := bx2_; unfold bd at h9_9; have h9_10 := bx6_; unfold bd at h9_10; have h9_11 := bx_1; unfold bd at h9_11; have h9_12 := h_11; unfold bd at h9_12; have h9_13 := b_444; unfold bd at h9_13; have h9_14 := b_336; unfold bd at h9_14; have h9_15 := h_419; unfold bd at h9_15; have h9_16 := h_437; unfold bd at h9_16; have h9_17 := b_457; unfold bd at h9_17; have h9_18 := bx_458; unfold bd at h9_18; have h9_19 := h_478; unfold bd at h9_19; have h9_20 := h_9; unfold bd at h9_20; have h9_21 := b_455; unfold bd at h9_21; have h8_0 := kb_0; unfold bd at h8_0; have h8_1 := kb_1; unfold bd at h8_1; omega) (by have h9_0 := bj73_13; unfold bd at h9_0; have h9_1 := bo_; unfold bd at h9_1; have h9_2 := b_17; unfold bd at h9_2; have h9_3 := b_325; unfold bd at h9_3; have h9_4 := b_16; unfold bd at h9_4; have h9_5 := b_456; unfold bd at h9_5; have h9_6 := b_410; unfold bd at h9_6; have h9_7 := b_298; unfold bd at h9_7; have h9_8 := bw73_14_10_a0_; unfold bd at h9_8; have h9_9 := bx2_; unfold bd at h9_9; have h9_10 := bx6_; unfold bd at h9_10; have h9_11 := bx_1; unfold bd at h9_11; have h9_12 := h_11; unfold bd at h9_12; have h9_13 := b_444; unfold bd at h9_13; have h9_14 := b_336; unfold bd at h9_14; have h9_15 := h_419; unfold bd at h9_15; have h9_16 := h_437; unfold bd at h9_16; have h9_17 := b_457; unfold bd at h9_17; have h9_18 := bx_458; unfold bd at h9_18; have h9_19 := h_478; unfold bd at h9_19; have h9_20 := h_9; unfold bd at h9_20; have h9_21 := b_455; unfold bd at h9_21; have h8_0 := kb_0; unfold bd at h8_0; have h8_1 := kb_1; unfold bd at h8_1; omega) (by have h9_0 := bj73_13; unfold bd at h9_0; have h9_1 := bo_; unfold bd at h9_1; have h9_2 := b_17; unfold bd at h9_2; have h9_3 := b_325; unfold bd at h9_3; have h9_4 := b_16; unfold bd at h9_4; have h9_5 := b_456; unfold bd at h9_5; have h9_6 := b_410; unfold bd at h9_6; have h9_7 := b_298; unfold bd at h9_7; have h9_8 := bw73_14_10_a0_; unfold bd at h9_8; have h9_9 := bx2_; unfold bd at h9_9; have h9_10 := bx6_; unfold bd at h9_10; have h9_11 := bx_1; unfold bd at h9_11; have h9_12 := h_11; unfold bd at h9_12; have h9_13 := b_444; unfold bd at h9_13; have h9_14 := b_336; unfold bd at h9_14; have h9_15 := h_419; unfold bd at h9_15; have h9_16 := h_437; unfold bd at h9_16; have h9_17 := b_457; unfold bd at h9_17; have h9_18 := bx_458; unfold bd at h9_18; have h9_19 := h_478; unfold bd at h9_19; have h9_20 := h_9; unfold bd at h9_20; have h9_21 := b_455; unfold bd at h9_21; have h8_0 := kb_0; unfold bd at h8_0; have h8_1 := kb_1; unfold bd at h8_1; omega)), (by have h9_0 := bj73_13; unfold bd at h9_0; have h9_1 := bo_; unfold bd at h9_1; have h9_2 := b_17; unfold bd at h9_2; have h9_3 := b_325; unfold bd at h9_3; have h9_4 := b_16; unfold bd at h9_4; have h9_5 := b_456; unfold bd at h9_5; have h9_6 := b_410; unfold bd at h9_6; have h9_7 := b_298; unfold bd at h9_7; have h9_8 := bw73_14_10_a0_; unfold bd at h9_8; have h9_9 := bx2_; unfold bd at h9_9; have h9_10 := bx6_; unfold bd at h9_10; have h9_11 := bx_1; unfold bd at h9_11; have h9_12 := h_11; unfold bd at h9_12; have h9_13 := b_444; unfold bd at h9_13; have h9_14 := b_336; unfold bd at h9_14; have h9_15 := h_419; unfold bd at h9_15; have h9_16 := h_437; unfold bd at h9_16; have h9_17 := b_457; unfold bd at h9_17; have h9_18 := bx_458; unfold bd at h9_18; have h9_19 := h_478; unfold bd at h9_19; have h9_20 := h_9; unfold bd at h9_20; have h9_21 := b_455; unfold bd at h9_21; have h8_0 := kb_0; unfold bd at h8_0; have h8_1 := kb_1; unfold bd at h8_1; omega)⟩ hl9
        have kb_0 : bd 0 0 (0 : Int32) := ⟨by decide, by decide⟩
        have hl9 := lv_sub hl [0, 1, 2, 3, 4, 5, 6, 7, 8, 9, 10, 11] (by rfl : lv_pick [(13, .int j73_13), (12, .int 0), (11, .int 0), (10, .ref qn), (9, .int x_1), (0, .ref a0_), (1, .int x1_), (2, .int x2_), (3, .long x3_), (5, .long x4_), (7, .int x5_), (8, .int x6_)] [0, 1, 2, 3, 4, 5, 6, 7, 8, 9, 10, 11] = [(13, .int j73_13), (12, .int 0), (11, .int 0), (10, .ref qn), (9, .int x_1), (0, .ref a0_), (1, .int x1_), (2, .int x2_), (3, .long x3_), (5, .long x4_), (7, .int x5_), (8, .int x6_)])
        have g9 := g.sub (fx' := [(12, 19, q0_, .ref g46_12_19_q0_), (14, 10, a0_, .int x_8), (14, 25, a0_, .int x_10), (14, 2, a0_, .ref q0_), (14, 16, a0_, .int o_)]) [0, 1, 2, 3, 4] rfl
        exact loop_25 (1300) j73_13 0 0 x_8 bj73_13 (bd_sub kb_0 (by decide)) (bd_sub kb_0 (by decide)) h_9 (by have h9_0 := bj73_13; unfold bd at h9_0; have h9_1 := h_9; unfold bd at h9_1; have h9_2 := kb_0; unfold bd at h9_2; omega) _ _ _ _ _ _ g9 ⟨_, _, _, hJ73_V_q0_, hJ73_F_q0_, hJ73_C_a0_, exN.rf, hwf, (by omega), (by omega), (by omega), (by omega), hck_23, (by omega), hNW, isY.rf, (fun j h9 => absurd h9 (by have h8 : (0 : Int32).toInt = 0 := (by decide); omega)), (by have h9_0 := bj73_13; unfold bd at h9_0; have h9_1 := bo_; unfold bd at h9_1; have h9_2 := b_17; unfold bd at h9_2; have h9_3 := b_16; unfold bd at h9_3; have h9_4 := bx2_; unfold bd at h9_4; have h9_5 := bx6_; unfold bd at h9_5; have h9_6 := bx_1; unfold bd at h9_6; have h9_7 := h_11; unfold bd at h9_7; have h9_8 := h_9; unfold bd at h9_8; have h8_0 := kb_0; unfold bd at h8_0; omega)⟩ hl9
      refine lv_aload_n hx hb dX14_readCall_57 rfl (lv_at hl 4 rfl) ?_
      refine lv_bipush (v := 41) hx hb dX14_readCall_58 (by decide) ?_
      have go_ := g
      refine g_calli (va_runV (As := [.int 41]) (rest := []) ⟨hx, hb, hml, hown, hts⟩ (r_X14_isSign l dC dI L9 kd9 tys f H.size g.2.2.2.1 a0_ ma0_ ka0_ 41) (cwV 1 hts (gV_ t_2435 t_2437 t_108 t_198 t_2438) rfl rfl rfl (by decide +kernel) ⟨(show 0 + 1 ≤ N + 1 + 24 by omega), (show 8 + (2 + 11) + 0 ≤ 60 * (N + 1) + 700 by omega)⟩) (pre3V g hK ma0_ ka0_ (by decide) (q := (RX14, TX14, 67)) rfl) rfl rfl hl.1 rfl (lv_room (Nat.le_of_ble_eq_true rfl)) dX14_readCall_60 (cl_f hck_23)) g hK (by decide) (by decide) (fx' := [(12, 19, q0_, .ref g46_12_19_q0_), (14, 10, a0_, .int x_8), (14, 25, a0_, .int x_10), (14, 2, a0_, .ref q0_), (14, 16, a0_, .int o_)]) rfl (fun r_484 fr_484 H locs hp hMr_484 g => ?_)
      rcases hp with ⟨h_485, -⟩ | ⟨h_486, x_487, h_488, hF_489⟩
      · have hG_490 := isV.frame hMr_484 go_.2.2.2.1 mq0_ kq0_ (by decide) (by decide) hG_19
        have hG_491 := FR.frame hMr_484 go_.2.2.2.1 mq0_ kq0_ (by decide) (by decide) hG_20
        have hG_492 := cEq.frame hMr_484 go_.2.2.2.1 ma0_ ka0_ (by decide) (by decide) hG_21
        obtain rfl : r_484 = 0 := h_485
        refine lv_if_ne (tgt := 70) hx hb dX14_readCall_63 (by decide) (fun c_ => absurd c_ (by decide)) (fun c_ => ?_)
        refine lv_iconst (v := 1) hx hb dX14_readCall_66 (by decide) ?_
        refine lv_goto (tgt := 71) hx hb dX14_readCall_67 (by decide) ?_
        refine lv_istore (lv' := [(13, .int 1), (12, .int 0), (11, .int 0), (10, .ref qn), (9, .int x_1), (0, .ref a0_), (1, .int x1_), (2, .int x2_), (3, .long x3_), (5, .long x4_), (7, .int x5_), (8, .int x6_)]) hx hb dX14_readCall_71 hl (by decide) rfl (fun ls hl => ?_)
        have kb_1 : bd 1 1 (1 : Int32) := ⟨by decide, by decide⟩
        have hl9 := lv_sub hl [0, 1, 2, 3, 4, 5, 6, 7, 8, 9, 10, 11] (by rfl : lv_pick [(13, .int 1), (12, .int 0), (11, .int 0), (10, .ref qn), (9, .int x_1), (0, .ref a0_), (1, .int x1_), (2, .int x2_), (3, .long x3_), (5, .long x4_), (7, .int x5_), (8, .int x6_)] [0, 1, 2, 3, 4, 5, 6, 7, 8, 9, 10, 11] = [(13, .int 1), (12, .int 0), (11, .int 0), (10, .ref qn), (9, .int x_1), (0, .ref a0_), (1, .int x1_), (2, .int x2_), (3, .long x3_), (5, .long x4_), (7, .int x5_), (8, .int x6_)])
        have g9 := g.sub (fx' := [(12, 19, q0_, .ref g46_12_19_q0_), (14, 10, a0_, .int x_8), (14, 25, a0_, .int x_10), (14, 2, a0_, .ref q0_), (14, 16, a0_, .int o_)]) [0, 1, 2, 3, 4] rfl
        exact join_24 1 _ _ _ _ (bd_sub kb_1 (by decide)) g9 hG_490 hG_491 hG_492 hl9
      · have hG_493 := isV.frame hMr_484 go_.2.2.2.1 mq0_ kq0_ (by decide) (by decide) hG_19
        have hG_494 := FR.frame hMr_484 go_.2.2.2.1 mq0_ kq0_ (by decide) (by decide) hG_20
        have hG_495 := cEq.frame hMr_484 go_.2.2.2.1 ma0_ ka0_ (by decide) (by decide) hG_21
        obtain rfl : r_484 = 1 := h_486
        have g := g.more hF_489
        refine lv_if_ne (tgt := 70) hx hb dX14_readCall_63 (by decide) (fun c_ => ?_) (fun c_ => absurd c_ (by decide))
        refine lv_iconst (v := 0) hx hb dX14_readCall_70 (by decide) ?_
        refine lv_istore (lv' := [(13, .int 0), (12, .int 0), (11, .int 0), (10, .ref qn), (9, .int x_1), (0, .ref a0_), (1, .int x1_), (2, .int x2_), (3, .long x3_), (5, .long x4_), (7, .int x5_), (8, .int x6_)]) hx hb dX14_readCall_71 hl (by decide) rfl (fun ls hl => ?_)
        have kb_0 : bd 0 0 (0 : Int32) := ⟨by decide, by decide⟩
        have hl9 := lv_sub hl [0, 1, 2, 3, 4, 5, 6, 7, 8, 9, 10, 11] (by rfl : lv_pick [(13, .int 0), (12, .int 0), (11, .int 0), (10, .ref qn), (9, .int x_1), (0, .ref a0_), (1, .int x1_), (2, .int x2_), (3, .long x3_), (5, .long x4_), (7, .int x5_), (8, .int x6_)] [0, 1, 2, 3, 4, 5, 6, 7, 8, 9, 10, 11] = [(13, .int 0), (12, .int 0), (11, .int 0), (10, .ref qn), (9, .int x_1), (0, .ref a0_), (1, .int x1_), (2, .int x2_), (3, .long x3_), (5, .long x4_), (7, .int x5_), (8, .int x6_)])
        have g9 := g.sub (fx' := [(12, 19, q0_, .ref g46_12_19_q0_), (14, 10, a0_, .int x_8), (14, 25, a0_, .int x_10), (14, 2, a0_, .ref q0_), (14, 16, a0_, .int o_)]) [1, 2, 3, 4, 5] rfl
        exact join_24 0 _ _ _ _ (bd_sub kb_0 (by decide)) g9 hG_493 hG_494 hG_495 hl9
    refine lv_aload_n hx hb dX14_readCall_12 rfl (lv_at hl 1 rfl) ?_
    refine lv_aload_n hx hb dX14_readCall_13 rfl (lv_at hl 1 rfl) ?_
    refine g_getk (C := RX14) (T := TX14) (N := 67) hx hb hts (mc_ inX14) hown hK g rfl 2 (by decide) rfl (hts _ (List.mem_cons_of_mem _ t_2148)) (fun _ h9 => h9) 2 rfl dX14_readCall_14 ?_
    refine g_getr (K := 175) (C := RX12) (T := TX12) (N := 60) hx hb hts (mc_ inX12) hown hK g mq0_ kq0_ (by decide) rfl 19 (by decide) rfl (hts _ (List.mem_cons_of_mem _ t_1944)) (fun _ h9 => h9) rfl dX14_readCall_17 (fun a_496 ma_496 ka_496 g => ?_)
    refine lv_iload_n hx hb dX14_readCall_20 rfl (lv_at hl 3 rfl) ?_
    refine g_iald hx hb hK g ma_496 ka_496 (by decide) rfl (in_bd bx2_ (by decide)) dX14_readCall_21 (fun x_497 bx_497 cx_497 => ?_)
    have vx_497 : x_497 = V_.i 19 x2_.toNatClampNeg := hG_13.at g 0 rfl rfl cx_497
    have kb_0 : bd 0 0 (0 : Int32) := ⟨by decide, by decide⟩
    refine lv_if_gt (tgt := 34) hx hb dX14_readCall_22 (by decide) (fun c_498 => ?_) (fun c_498 => ?_)
    · have fc_498 := lt_f c_498
      have b_499 : bd 1 3 x_497 := ltR fc_498 kb_0 bx_497 (by decide)
      refine lv_iconst (v := 1) hx hb dX14_readCall_34 (by decide) ?_
      refine lv_goto (tgt := 39) hx hb dX14_readCall_35 (by decide) ?_
      refine lv_bipush (v := 6) hx hb dX14_readCall_39 (by decide) ?_
      refine lv_iload hx hb dX14_readCall_41 (lv_at hl 0 rfl) ?_
      have kb_1 : bd 1 1 (1 : Int32) := ⟨by decide, by decide⟩
      have go_ := g
      refine g_callEv (As := [.int 1, .int 6, .int x_1]) (rest := []) ⟨hx, hb, hml, hown, hts⟩ (r_X14_need_3 l dC dI L kd tys fr_2 H.size g.2.2.2.1 a0_ ma0_ ka0_ 1 kb_1 6 x_1) (cwV 3 hts (gV_ t_2403 t_2405 t_100 t_198 t_2406) rfl rfl rfl (by decide +kernel) ⟨(show 0 + 1 ≤ N + 1 + 24 by omega), (show 8 + (4 + 11) + 0 ≤ 60 * (N + 1) + 700 by omega)⟩) (pre3V g hK ma0_ ka0_ (by decide) (q := (RX14, TX14, 67)) rfl) rfl hl.1 rfl (lv_room (Nat.le_of_ble_eq_true rfl)) dX14_readCall_43 (cl_f hck_0) g hK (by decide) (by decide) (fx' := [(12, 19, q0_, .ref a_496), (14, 10, a0_, .int x_8), (14, 25, a0_, .int x_10), (14, 2, a0_, .ref q0_), (14, 16, a0_, .int o_)]) rfl (fun xr_500 fr_500 H locs mxr_500 kxr_500 hp hMr_500 g => ?_) (fun fr_500 H locs hp hMr_500 g => ?_)
      · have hG_501 := isV.frame hMr_500 go_.2.2.2.1 mq0_ kq0_ (by decide) (by decide) hG_13
        have hG_502 := FR.frame hMr_500 go_.2.2.2.1 mq0_ kq0_ (by decide) (by decide) hG_14
        have hG_503 := cEq.frame hMr_500 go_.2.2.2.1 ma0_ ka0_ (by decide) (by decide) hE_15
        exact hp.elim
      · have hG_504 := isV.frame hMr_500 go_.2.2.2.1 mq0_ kq0_ (by decide) (by decide) hG_13
        have hG_505 := FR.frame hMr_500 go_.2.2.2.1 mq0_ kq0_ (by decide) (by decide) hG_14
        have hG_506 := cEq.frame hMr_500 go_.2.2.2.1 ma0_ ka0_ (by decide) (by decide) hE_15
        have hl9 := lv_sub hl [0, 1, 2, 3, 4, 5, 6, 7] (by rfl : lv_pick [(9, .int x_1), (0, .ref a0_), (1, .int x1_), (2, .int x2_), (3, .long x3_), (5, .long x4_), (7, .int x5_), (8, .int x6_)] [0, 1, 2, 3, 4, 5, 6, 7] = [(9, .int x_1), (0, .ref a0_), (1, .int x1_), (2, .int x2_), (3, .long x3_), (5, .long x4_), (7, .int x5_), (8, .int x6_)])
        have g9 := g.sub (fx' := [(12, 19, q0_, .ref a_496), (14, 10, a0_, .int x_8), (14, 25, a0_, .int x_10), (14, 2, a0_, .ref q0_), (14, 16, a0_, .int o_)]) [0, 1, 2, 3, 4] rfl
        exact join_18 a_496 _ _ _ _ ma_496 ka_496 g9 hG_504 hG_505 hG_506 hl9
    · have fc_498 := nlt_f c_498
      have b_507 : bd 0 0 x_497 := leL fc_498 bx_497 kb_0 (by decide)
      refine lv_aload_n hx hb dX14_readCall_25 rfl (lv_at hl 1 rfl) ?_
      refine lv_bipush (v := 41) hx hb dX14_readCall_26 (by decide) ?_
      have go_ := g
      refine g_calli (va_runV (As := [.int 41]) (rest := [.ref a0_]) ⟨hx, hb, hml, hown, hts⟩ (r_X14_isSign l dC dI L kd tys fr_2 H.size g.2.2.2.1 a0_ ma0_ ka0_ 41) (cwV 1 hts (gV_ t_2435 t_2437 t_108 t_198 t_2438) rfl rfl rfl (by decide +kernel) ⟨(show 0 + 1 ≤ N + 1 + 24 by omega), (show 8 + (2 + 11) + 0 ≤ 60 * (N + 1) + 700 by omega)⟩) (pre3V g hK ma0_ ka0_ (by decide) (q := (RX14, TX14, 67)) rfl) rfl rfl hl.1 rfl (lv_room (Nat.le_of_ble_eq_true rfl)) dX14_readCall_28 (cl_f hck_0)) g hK (by decide) (by decide) (fx' := [(12, 19, q0_, .ref a_496), (14, 10, a0_, .int x_8), (14, 25, a0_, .int x_10), (14, 2, a0_, .ref q0_), (14, 16, a0_, .int o_)]) rfl (fun r_508 fr_508 H locs hp hMr_508 g => ?_)
      rcases hp with ⟨h_509, -⟩ | ⟨h_510, x_511, h_512, hF_513⟩
      · have hG_514 := isV.frame hMr_508 go_.2.2.2.1 mq0_ kq0_ (by decide) (by decide) hG_13
        have hG_515 := FR.frame hMr_508 go_.2.2.2.1 mq0_ kq0_ (by decide) (by decide) hG_14
        have hG_516 := cEq.frame hMr_508 go_.2.2.2.1 ma0_ ka0_ (by decide) (by decide) hE_15
        obtain rfl : r_508 = 0 := h_509
        refine lv_if_eq (tgt := 38) hx hb dX14_readCall_31 (by decide) (fun c_ => ?_) (fun c_ => absurd (by decide) c_)
        refine lv_iconst (v := 0) hx hb dX14_readCall_38 (by decide) ?_
        refine lv_bipush (v := 6) hx hb dX14_readCall_39 (by decide) ?_
        refine lv_iload hx hb dX14_readCall_41 (lv_at hl 0 rfl) ?_
        have go_ := g
        refine g_callEv (As := [.int 0, .int 6, .int x_1]) (rest := []) ⟨hx, hb, hml, hown, hts⟩ (r_X14_need_2 l dC dI L kd tys fr_508 H.size g.2.2.2.1 a0_ ma0_ ka0_ 0 kb_0 6 x_1) (cwV 3 hts (gV_ t_2403 t_2405 t_100 t_198 t_2406) rfl rfl rfl (by decide +kernel) ⟨(show 1 + 1 ≤ N + 1 + 24 by omega), (show 8 + (4 + 11) + 22 ≤ 60 * (N + 1) + 700 by omega)⟩) (pre3V g hK ma0_ ka0_ (by decide) (q := (RX14, TX14, 67)) rfl) rfl hl.1 rfl (lv_room (Nat.le_of_ble_eq_true rfl)) dX14_readCall_43 (cl_f hck_0) g hK (by decide) (by decide) (fx' := [(12, 19, q0_, .ref a_496), (14, 10, a0_, .int x_8), (14, 25, a0_, .int x_10), (14, 2, a0_, .ref q0_), (14, 16, a0_, .int o_)]) rfl (fun xr_517 fr_517 H locs mxr_517 kxr_517 hp hMr_517 g => ?_) (fun fr_517 H locs hp hMr_517 g => ?_)
        · have hG_518 := isV.frame hMr_517 go_.2.2.2.1 mq0_ kq0_ (by decide) (by decide) hG_514
          have hG_519 := FR.frame hMr_517 go_.2.2.2.1 mq0_ kq0_ (by decide) (by decide) hG_515
          have hG_520 := cEq.frame hMr_517 go_.2.2.2.1 ma0_ ka0_ (by decide) (by decide) hG_516
          subst hQ
          exact leavesX hempty hlocks (fun t ht hW => g_thrZ g hK mxr_517 kxr_517 ⟨hG_519, (by omega)⟩ ht hW) g.2.2.1.2.2
        · exact hp.elim
      · have hG_521 := isV.frame hMr_508 go_.2.2.2.1 mq0_ kq0_ (by decide) (by decide) hG_13
        have hG_522 := FR.frame hMr_508 go_.2.2.2.1 mq0_ kq0_ (by decide) (by decide) hG_14
        have hG_523 := cEq.frame hMr_508 go_.2.2.2.1 ma0_ ka0_ (by decide) (by decide) hE_15
        obtain rfl : r_508 = 1 := h_510
        have g := g.more hF_513
        refine lv_if_eq (tgt := 38) hx hb dX14_readCall_31 (by decide) (fun c_ => absurd c_ (by decide)) (fun c_ => ?_)
        refine lv_iconst (v := 1) hx hb dX14_readCall_34 (by decide) ?_
        refine lv_goto (tgt := 39) hx hb dX14_readCall_35 (by decide) ?_
        refine lv_bipush (v := 6) hx hb dX14_readCall_39 (by decide) ?_
        refine lv_iload hx hb dX14_readCall_41 (lv_at hl 0 rfl) ?_
        have hs_524 := sE_1 g 0 rfl (by have h9_0 := bo_; unfold bd at h9_0; have h9_1 := b_17; unfold bd at h9_1; have h9_2 := b_16; unfold bd at h9_2; have h9_3 := bx2_; unfold bd at h9_3; have h9_4 := bx6_; unfold bd at h9_4; have h9_5 := bx_1; unfold bd at h9_5; have h9_6 := h_11; unfold bd at h9_6; have h9_7 := b_507; unfold bd at h9_7; have h9_8 := h_512; unfold bd at h9_8; have h9_9 := h_9; unfold bd at h9_9; have h8_0 := kb_0; unfold bd at h8_0; omega)
        have kb_1 : bd 1 1 (1 : Int32) := ⟨by decide, by decide⟩
        have go_ := g
        refine g_callEv (As := [.int 1, .int 6, .int x_1]) (rest := []) ⟨hx, hb, hml, hown, hts⟩ (r_X14_need_3 l dC dI L kd tys fr_508 H.size g.2.2.2.1 a0_ ma0_ ka0_ 1 kb_1 6 x_1) (cwV 3 hts (gV_ t_2403 t_2405 t_100 t_198 t_2406) rfl rfl rfl (by decide +kernel) ⟨(show 0 + 1 ≤ N + 1 + 24 by omega), (show 8 + (4 + 11) + 0 ≤ 60 * (N + 1) + 700 by omega)⟩) (pre3V g hK ma0_ ka0_ (by decide) (q := (RX14, TX14, 67)) rfl) rfl hl.1 rfl (lv_room (Nat.le_of_ble_eq_true rfl)) dX14_readCall_43 (cl_f hck_0) g hK (by decide) (by decide) (fx' := [(14, 6, a0_, .int x_511), (12, 19, q0_, .ref a_496), (14, 10, a0_, .int x_8), (14, 25, a0_, .int x_10), (14, 2, a0_, .ref q0_), (14, 16, a0_, .int o_)]) rfl (fun xr_525 fr_525 H locs mxr_525 kxr_525 hp hMr_525 g => ?_) (fun fr_525 H locs hp hMr_525 g => ?_)
        · have hG_526 := isV.frame hMr_525 go_.2.2.2.1 mq0_ kq0_ (by decide) (by decide) hG_521
          have hG_527 := FR.frame hMr_525 go_.2.2.2.1 mq0_ kq0_ (by decide) (by decide) hG_522
          have hG_528 := cEq.frame hMr_525 go_.2.2.2.1 ma0_ ka0_ (by decide) (by decide) hG_523
          exact hp.elim
        · have hG_529 := isV.frame hMr_525 go_.2.2.2.1 mq0_ kq0_ (by decide) (by decide) hG_521
          have hG_530 := FR.frame hMr_525 go_.2.2.2.1 mq0_ kq0_ (by decide) (by decide) hG_522
          have hG_531 := cEq.frame hMr_525 go_.2.2.2.1 ma0_ ka0_ (by decide) (by decide) hG_523
          have hl9 := lv_sub hl [0, 1, 2, 3, 4, 5, 6, 7] (by rfl : lv_pick [(9, .int x_1), (0, .ref a0_), (1, .int x1_), (2, .int x2_), (3, .long x3_), (5, .long x4_), (7, .int x5_), (8, .int x6_)] [0, 1, 2, 3, 4, 5, 6, 7] = [(9, .int x_1), (0, .ref a0_), (1, .int x1_), (2, .int x2_), (3, .long x3_), (5, .long x4_), (7, .int x5_), (8, .int x6_)])
          have g9 := g.sub (fx' := [(12, 19, q0_, .ref a_496), (14, 10, a0_, .int x_8), (14, 25, a0_, .int x_10), (14, 2, a0_, .ref q0_), (14, 16, a0_, .int o_)]) [1, 2, 3, 4, 5] rfl
          exact join_18 a_496 _ _ _ _ ma_496 ka_496 g9 hG_529 hG_530 hG_531 hl9
