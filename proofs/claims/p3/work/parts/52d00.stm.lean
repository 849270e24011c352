set_option maxHeartbeats 4000000 in
set_option maxRecDepth 100000 in
theorem r_X14_mayBegin_2 (l : Launch) (dC : Nat → ClassId) (dI : Nat → Nat → Nat) (L : List Nat) (kd : Nat → Nat) (tys : List (ClassId × FieldType)) (f0 : Nat → va_E) (sz : Nat) (hWT : WT L kd tys f0) (a0_ : Nat) (ma0_ : a0_ ∈ L) (ka0_ : kd a0_ = 14) (q0_ : Nat) (mq0_ : q0_ ∈ L) (kq0_ : kd q0_ = 12) (V_ : PV) (hGVq0_ : isV f0 q0_ V_) (hfx : Fs L kd f0 [(14, 2, a0_, .ref q0_)]) : MetE l yX14_mayBegin (.code yX14_mayBegin cX14_mayBegin 1 none :: lw_g) ({ frames := 2, cells := 0, slots := 0, locals := 45 }) (va_Pc [.ref a0_] (P3 (dC, dI) L tys f0 sz)) (q3E (dC, dI) L kd tys [(14, 14), (14, 15)] [180] f0 sz (pRv (fun (f : Nat → va_E) => ((∃ V1 : PV, isV f q0_ V1 ∧ exN V_ V1 ∧ (wfN V_ (V_.n 57).toInt → wfN V1 (V1.n 57).toInt) ∧ (V1.n 57).toInt = (V_.n 57).toInt) ∧ (FR L kd f0 f q0_) ∧ True))) (fun (f : Nat → va_E) => FR L kd f0 f q0_)) 0 0 (pA L sz) := by
  refine MetE.ofW (cc := cX14_mayBegin) (maxL := 1) (ret := none) (by decide) rfl ?_
  intro p e s m args below meth c s₁ B hml hempty hv
  obtain ⟨rfl, hsz, hP, hK, hD0⟩ := hv
  have hx := B.exec
  have hb := B.bytes
  have hr := B.returns
  have hts := atoms_spec (ws := (.code yX14_mayBegin cX14_mayBegin 1 none :: lw_g)) B.pre
  have hown : s.vm.findClass RX14 = some m.cls := findClass_of_methodNamed B.named
  have hlocks := B.notSynchronized
  subst hsz
  have g : G3 (dC, dI) L kd tys s f0 [(14, 14), (14, 15)] [180] f0 s.heap [] [(14, 2, a0_, .ref q0_)] := G3.start hP hD0 hWT hfx
  have hl := lv_entry ([.ref a0_]) (n := 1) (Nat.le_of_ble_eq_true rfl)
  rw [lg_entry_eq]
  generalize (lg_sl ([.ref a0_]) ++ List.replicate (1 - (lg_sl ([.ref a0_])).length) Slot.unset).toArray = ls at hl ⊢
  have hl : lv_has ls 1 [(0, .ref a0_)] := hl
  refine W_q (fun Q hQ => ?_)
  refine lv_aload_n hx hb dX14_mayBegin_0 rfl (lv_at hl 0 rfl) ?_
  refine lv_aload_n hx hb dX14_mayBegin_1 rfl (lv_at hl 0 rfl) ?_
  refine g_getk (C := RX14) (T := TX14) (N := 67) hx hb hts (mc_ inX14) hown hK g rfl 2 (by decide) rfl (hts _ (List.mem_cons_of_mem _ t_2148)) (fun _ h9 => h9) 0 rfl dX14_mayBegin_2 ?_
  refine g_getr (K := 180) (C := RX12) (T := TX12) (N := 60) hx hb hts (mc_ inX12) hown hK g mq0_ kq0_ (by decide) rfl 24 (by decide) rfl (hts _ (List.mem_cons_of_mem _ t_1954)) (fun _ h9 => h9) rfl dX14_mayBegin_5 (fun a_1 ma_1 ka_1 g => ?_)
  refine lv_aload_n hx hb dX14_mayBegin_8 rfl (lv_at hl 0 rfl) ?_
  refine g_geti (C := RX14) (T := TX14) (N := 67) hx hb hts (mc_ inX14) hown hK g ma0_ ka0_ (by decide) rfl 17 (by decide) rfl (hts _ (List.mem_cons_of_mem _ t_2163)) (fun _ h9 => h9) rfl dX14_mayBegin_9 (fun x_2 bx_2 g => ?_)
  refine g_iald hx hb hK g ma_1 ka_1 (by decide) rfl (in_bd bx_2 (by decide)) dX14_mayBegin_12 (fun x_3 bx_3 cx_3 => ?_)
  have vx_3 : x_3 = V_.i 24 x_2.toNatClampNeg := hGVq0_.at g 1 rfl rfl cx_3
  refine lv_bipush (v := 40) hx hb dX14_mayBegin_13 (by decide) ?_
  have kb_40 : bd 40 40 (40 : Int32) := ⟨by decide, by decide⟩
  refine lv_icmp_ge (tgt := 22) hx hb dX14_mayBegin_15 (by decide) (fun c_4 => ?_) (fun c_4 => ?_)
  · have fc_4 := le_f c_4
    have b_5 : bd 40 40 x_3 := leR fc_4 kb_40 bx_3 (by decide)
    refine lv_iconst (v := 0) hx hb dX14_mayBegin_22 (by decide) ?_
    refine lv_iconst (v := 4) hx hb dX14_mayBegin_23 (by decide) ?_
    refine lv_aload_n hx hb dX14_mayBegin_24 rfl (lv_at hl 0 rfl) ?_
    refine g_geti (C := RX14) (T := TX14) (N := 67) hx hb hts (mc_ inX14) hown hK g ma0_ ka0_ (by decide) rfl 8 (by decide) rfl (hts _ (List.mem_cons_of_mem _ t_2154)) (fun _ h9 => h9) rfl dX14_mayBegin_25 (fun x_6 bx_6 g => ?_)
    have kb_0 : bd 0 0 (0 : Int32) := ⟨by decide, by decide⟩
    have go_ := g
    refine g_callEv (As := [.int 0, .int 4, .int x_6]) (rest := []) ⟨hx, hb, hml, hown, hts⟩ (r_X14_need_2 l dC dI L kd tys f0 s.heap.size g.2.2.2.1 a0_ ma0_ ka0_ 0 kb_0 4 x_6) (cwV 3 hts (gV_ t_2403 t_2405 t_100 t_198 t_2406) rfl rfl rfl (by decide +kernel) ⟨(Nat.le_of_ble_eq_true rfl), (Nat.le_of_ble_eq_true rfl)⟩) (pre3V g hK ma0_ ka0_ (by decide) (q := (RX14, TX14, 67)) rfl) rfl hl.1 rfl (lv_room (Nat.le_of_ble_eq_true rfl)) dX14_mayBegin_28 ⟨(Nat.le_of_ble_eq_true rfl), (Nat.le_of_ble_eq_true rfl)⟩ g hK (by decide) (by decide) (fx' := [(14, 8, a0_, .int x_6), (14, 17, a0_, .int x_2), (12, 24, q0_, .ref a_1), (14, 2, a0_, .ref q0_)]) rfl (fun xr_7 fr_7 H locs mxr_7 kxr_7 hp hMr_7 g => ?_) (fun fr_7 H locs hp hMr_7 g => ?_)
    · have hG_8 := isV.frame hMr_7 go_.2.2.2.1 mq0_ kq0_ (by decide) (by decide) hGVq0_
      have hG_9 := FR.frame hMr_7 go_.2.2.2.1 mq0_ kq0_ (by decide) (by decide) FR.refl
      subst hQ
      exact WX.leaves hempty hlocks (fun t ht hW => g_thrE g hK mxr_7 kxr_7 hG_9 ht hW) g.2.2.1.2.2
    · exact hp.elim
  · have fc_4 := nle_f c_4
    have b_10 : bd 0 39 x_3 := ltL fc_4 bx_3 kb_40 (by decide)
    refine lv_iconst (v := 1) hx hb dX14_mayBegin_18 (by decide) ?_
    refine lv_goto (tgt := 23) hx hb dX14_mayBegin_19 (by decide) ?_
    refine lv_iconst (v := 4) hx hb dX14_mayBegin_23 (by decide) ?_
    refine lv_aload_n hx hb dX14_mayBegin_24 rfl (lv_at hl 0 rfl) ?_
    refine g_geti (C := RX14) (T := TX14) (N := 67) hx hb hts (mc_ inX14) hown hK g ma0_ ka0_ (by decide) rfl 8 (by decide) rfl (hts _ (List.mem_cons_of_mem _ t_2154)) (fun _ h9 => h9) rfl dX14_mayBegin_25 (fun x_11 bx_11 g => ?_)
    have kb_1 : bd 1 1 (1 : Int32) := ⟨by decide, by decide⟩
    have go_ := g
    refine g_callEv (As := [.int 1, .int 4, .int x_11]) (rest := []) ⟨hx, hb, hml, hown, hts⟩ (r_X14_need_3 l dC dI L kd tys f0 s.heap.size g.2.2.2.1 a0_ ma0_ ka0_ 1 kb_1 4 x_11) (cwV 3 hts (gV_ t_2403 t_2405 t_100 t_198 t_2406) rfl rfl rfl (by decide +kernel) ⟨(Nat.le_of_ble_eq_true rfl), (Nat.le_of_ble_eq_true rfl)⟩) (pre3V g hK ma0_ ka0_ (by decide) (q := (RX14, TX14, 67)) rfl) rfl hl.1 rfl (lv_room (Nat.le_of_ble_eq_true rfl)) dX14_mayBegin_28 ⟨(Nat.le_of_ble_eq_true rfl), (Nat.le_of_ble_eq_true rfl)⟩ g hK (by decide) (by decide) (fx' := [(14, 8, a0_, .int x_11), (14, 17, a0_, .int x_2), (12, 24, q0_, .ref a_1), (14, 2, a0_, .ref q0_)]) rfl (fun xr_12 fr_12 H locs mxr_12 kxr_12 hp hMr_12 g => ?_) (fun fr_12 H locs hp hMr_12 g => ?_)
    · have hG_13 := isV.frame hMr_12 go_.2.2.2.1 mq0_ kq0_ (by decide) (by decide) hGVq0_
      have hG_14 := FR.frame hMr_12 go_.2.2.2.1 mq0_ kq0_ (by decide) (by decide) FR.refl
      exact hp.elim
    · have hG_15 := isV.frame hMr_12 go_.2.2.2.1 mq0_ kq0_ (by decide) (by decide) hGVq0_
      have hG_16 := FR.frame hMr_12 go_.2.2.2.1 mq0_ kq0_ (by decide) (by decide) FR.refl
      refine lv_aload_n hx hb dX14_mayBegin_31 rfl (lv_at hl 0 rfl) ?_
      refine g_getk (C := RX14) (T := TX14) (N := 67) hx hb hts (mc_ inX14) hown hK g rfl 2 (by decide) rfl (hts _ (List.mem_cons_of_mem _ t_2148)) (fun _ h9 => h9) 3 rfl dX14_mayBegin_32 ?_
      refine g_getk (C := RX12) (T := TX12) (N := 60) hx hb hts (mc_ inX12) hown hK g rfl 24 (by decide) rfl (hts _ (List.mem_cons_of_mem _ t_1954)) (fun _ h9 => h9) 2 rfl dX14_mayBegin_35 ?_
      refine lv_aload_n hx hb dX14_mayBegin_38 rfl (lv_at hl 0 rfl) ?_
      refine g_getk (C := RX14) (T := TX14) (N := 67) hx hb hts (mc_ inX14) hown hK g rfl 17 (by decide) rfl (hts _ (List.mem_cons_of_mem _ t_2163)) (fun _ h9 => h9) 1 rfl dX14_mayBegin_39 ?_
      refine lv_dup2_11 hx hb dX14_mayBegin_42 rfl rfl ?_
      refine g_iald hx hb hK g ma_1 ka_1 (by decide) rfl (in_bd bx_2 (by decide)) dX14_mayBegin_43 (fun x_17 bx_17 cx_17 => ?_)
      obtain rfl : x_3 = x_17 := el_same cx_3 cx_17 (arr_eq hMr_12 ma_1 ka_1 (by decide) rfl)
      refine lv_iconst (v := 1) hx hb dX14_mayBegin_44 (by decide) ?_
      refine lv_iadd hx hb dX14_mayBegin_45 ?_
      refine lv_topi (fun y_18 ey_18 => ?_)
      have ty_18 := add_bd ey_18 b_10 kb_1 (by decide)
      have b_19 : bd 1 40 y_18 := add_rg ty_18 b_10 kb_1 (by decide)
      have gp_20 := g
      have go_ := g
      refine g_iastX hx hb hK g ma_1 ka_1 (by decide) rfl (in_bd bx_2 (by decide)) (bd_sub b_19 (by decide)) (by decide) dX14_mayBegin_46 (fun f H locs hM_21 u_22 g => ?_)
      have hV_23 := isV.ui hG_15 gp_20 2 rfl mq0_ kq0_ rfl u_22
      have hF_24 := FR.arr hG_16 gp_20 2 rfl mq0_ kq0_ rfl rfl u_22.1
      subst hQ
      exact W.thenQ (W.vret hx hb hr (fun t ht hW => g_retE g hK ⟨rfl, ⟨⟨_, hV_23, u24_n⟩, hF_24, trivial⟩⟩ ht hW) g.2.2.1.2.2 dX14_mayBegin_47) (fun _ => MQ.toE)
set_option maxHeartbeats 4000000 in
set_option maxRecDepth 100000 in
theorem r_X14_readBlock (N : Nat) (ih : RecS N) (l : Launch) (dC : Nat → ClassId) (dI : Nat → Nat → Nat) (L : List Nat) (kd : Nat → Nat) (tys : List (ClassId × FieldType)) (f0 : Nat → va_E) (sz : Nat) (hWT : WT L kd tys f0) (adK adV : Nat → Nat) (a0_ : Nat) (ma0_ : a0_ ∈ L) (ka0_ : kd a0_ = 14) (q0_ : Nat) (mq0_ : q0_ ∈ L) (kq0_ : kd q0_ = 12) (V_ : PV) (δ_ : Nat → Nat) (U_ : Nat → Prop) (o_ : Int32) (bo_ : bd 0 7 o_) (op_ : Int32) (bop_ : bd 0 40 op_) (t_ : Int32) (bt_ : bd 0 1201 t_) (me_ : Int32) (bme_ : bd 0 109 me_) (br_ : Int32) (bbr_ : bd 0 8 br_) (hV : isV f0 q0_ V_) (hSI : SI V_ δ_ V_ δ_ U_) (hU : ∀ s : Nat, U_ s → (s : Int) < (V_.n 46).toInt) (ho : (o_.toNatClampNeg : Int) < (V_.n 0).toInt) (hm27 : (me_.toNatClampNeg : Int) < (V_.n 27).toInt) (hm18 : (V_.i 18 me_.toNatClampNeg).toNatClampNeg = o_.toNatClampNeg) (hnn : (V_.n 57).toInt ≤ cF f0 a0_) (hns : 2 * (V_.n 46).toInt ≤ cF f0 a0_) (hn0 : 0 ≤ (V_.n 46).toInt) (K_ : Nat) (hK_ : 1204 ≤ 2 * (K_ : Int) + cF f0 a0_) (hN : 2 * (8 - br_.toInt) + 1 ≤ ((N + 1 : Nat) : Int)) (hfx : Fs L kd f0 [(14, 2, a0_, .ref q0_), (14, 16, a0_, .int o_), (14, 25, a0_, .int op_), (14, 10, a0_, .int t_), (14, 17, a0_, .int me_), (14, 26, a0_, .int br_)]) : MetX l yX14_readBlock (.code yX14_readBlock cX14_readBlock 5 (some .int) :: lw_g) ({ frames := (N + 1) + 493, cells := K_, slots := 3 * K_, locals := 60 * (N + 1) + 28500 }) (va_Pc [.ref a0_] (P3A (dC, dI) L tys f0 sz adK adV)) (q3Z (dC, dI) L kd tys [(12, 46), (12, 57), (12, 58), (14, 6), (14, 7), (14, 8), (14, 9), (14, 10), (14, 11), (14, 12), (14, 13), (14, 14), (14, 15), (14, 21), (14, 25), (14, 26)] [180, 189, 190, 191, 192, 193, 194, 195, 196, 197, 198, 199, 200, 201, 202, 203, 204, 205, 206, 207, 208, 209, 210, 213, 214] f0 sz (pXi (fun (r : Int32) (f : Nat → va_E) (k : Nat) => (rdS L kd f0 a0_ q0_ V_ δ_ U_ f k (fun V1 δ1 => TS V1 δ1 r (br_.toNatClampNeg + 1) me_.toNatClampNeg)) ∧ ∃ z2_ : Int32, bd 0 1201 z2_ ∧ Fs L kd f [(14, 25, a0_, .int op_), (14, 26, a0_, .int br_), (14, 10, a0_, .int z2_)])) (fun (f : Nat → va_E) (k : Nat) => FR L kd f0 f q0_ ∧ 2 * (k : Int) + cF f0 a0_ ≤ 1203)) (pA L sz) := by
  refine MetX.ofW (cc := cX14_readBlock) (maxL := 5) (ret := (some .int)) (by decide) rfl ?_
  intro p e s m args below meth c s₁ B hml hempty hv
  obtain ⟨rfl, ⟨hsz, hP, hK, hD0⟩, hAm⟩ := hv
  have hx := B.exec
  have hb := B.bytes
  have hr := B.returns
  have hts := atoms_spec (ws := (.code yX14_readBlock cX14_readBlock 5 (some .int) :: lw_g)) B.pre
  have hown : s.vm.findClass RX14 = some m.cls := findClass_of_methodNamed B.named
  have hlocks := B.notSynchronized
  subst hsz
  have g : G3 (dC, dI) L kd tys s f0 [(12, 46), (12, 57), (12, 58), (14, 6), (14, 7), (14, 8), (14, 9), (14, 10), (14, 11), (14, 12), (14, 13), (14, 14), (14, 15), (14, 21), (14, 25), (14, 26)] [180, 189, 190, 191, 192, 193, 194, 195, 196, 197, 198, 199, 200, 201, 202, 203, 204, 205, 206, 207, 208, 209, 210, 213, 214] f0 s.heap [] [(14, 2, a0_, .ref q0_), (14, 16, a0_, .int o_), (14, 25, a0_, .int op_), (14, 10, a0_, .int t_), (14, 17, a0_, .int me_), (14, 26, a0_, .int br_)] := G3.start hP hD0 hWT hfx
  have hl := lv_entry ([.ref a0_]) (n := 5) (Nat.le_of_ble_eq_true rfl)
  rw [lg_entry_eq]
  generalize (lg_sl ([.ref a0_]) ++ List.replicate (5 - (lg_sl ([.ref a0_])).length) Slot.unset).toArray = ls at hl ⊢
  have hl : lv_has ls 5 [(0, .ref a0_)] := hl
  refine W_q (fun Q hQ => ?_)
  refine W_c0 (fun cl_0 hc_0 => ?_)
  have hck_0 : cl_0 ≤ K_ := by omega
  have hC_0 : cEq f0 a0_ (cF f0 a0_) := rfl
  have hm_0 : cF f0 a0_ ≤ 1202 := cF_le g ma0_ ka0_
  have hm_1 : -1 ≤ cF f0 a0_ := cF_ge g ma0_ ka0_
  have hsi_0 : SI V_ δ_ V_ δ_ U_ := hSI
  refine lv_aload_n hx hb dX14_readBlock_0 rfl (lv_at hl 0 rfl) ?_
  refine lv_aload_n hx hb dX14_readBlock_1 rfl (lv_at hl 0 rfl) ?_
  refine lv_bipush (v := 123) hx hb dX14_readBlock_2 (by decide) ?_
  have go_ := g
  refine g_calli (va_runV (As := [.int 123]) (rest := [.ref a0_]) ⟨hx, hb, hml, hown, hts⟩ (r_X14_isSign l dC dI L kd tys f0 s.heap.size g.2.2.2.1 a0_ ma0_ ka0_ 123) (cwV 1 hts (gV_ t_2435 t_2437 t_108 t_198 t_2438) rfl rfl rfl (by decide +kernel) ⟨(show 0 + 1 ≤ N + 1 + 493 by omega), (show 8 + (2 + 11) + 0 ≤ 60 * (N + 1) + 28500 by omega)⟩) (pre3V g hK ma0_ ka0_ (by decide) (q := (RX14, TX14, 67)) rfl) rfl rfl hl.1 rfl (lv_room (Nat.le_of_ble_eq_true rfl)) dX14_readBlock_4 (cl_f hck_0)) g hK (by decide) (by decide) (fx' := [(14, 2, a0_, .ref q0_), (14, 16, a0_, .int o_), (14, 25, a0_, .int op_), (14, 10, a0_, .int t_), (14, 17, a0_, .int me_), (14, 26, a0_, .int br_)]) rfl (fun r_1 fr_1 H locs hp hMr_1 g => ?_)
  rcases hp with ⟨h_2, -⟩ | ⟨h_3, x_4, h_5, hF_6⟩
  · have hG_7 := isV.frame hMr_1 go_.2.2.2.1 mq0_ kq0_ (by decide) (by decide) hV
    have hG_8 := FR.frame hMr_1 go_.2.2.2.1 mq0_ kq0_ (by decide) (by decide) FR.refl
    have hG_9 := cEq.frame hMr_1 go_.2.2.2.1 ma0_ ka0_ (by decide) (by decide) hC_0
    obtain rfl : r_1 = 0 := h_2
    refine lv_iconst (v := 1) hx hb dX14_readBlock_7 (by decide) ?_
    refine lv_aload_n hx hb dX14_readBlock_8 rfl (lv_at hl 0 rfl) ?_
    refine g_geti (C := RX14) (T := TX14) (N := 67) hx hb hts (mc_ inX14) hown hK g ma0_ ka0_ (by decide) rfl 8 (by decide) rfl (hts _ (List.mem_cons_of_mem _ t_2154)) (fun _ h9 => h9) rfl dX14_readBlock_9 (fun x_10 bx_10 g => ?_)
    have kb_0 : bd 0 0 (0 : Int32) := ⟨by decide, by decide⟩
    have go_ := g
    refine g_callEv (As := [.int 0, .int 1, .int x_10]) (rest := []) ⟨hx, hb, hml, hown, hts⟩ (r_X14_need_2 l dC dI L kd tys fr_1 H.size g.2.2.2.1 a0_ ma0_ ka0_ 0 kb_0 1 x_10) (cwV 3 hts (gV_ t_2403 t_2405 t_100 t_198 t_2406) rfl rfl rfl (by decide +kernel) ⟨(show 1 + 1 ≤ N + 1 + 493 by omega), (show 8 + (4 + 11) + 22 ≤ 60 * (N + 1) + 28500 by omega)⟩) (pre3V g hK ma0_ ka0_ (by decide) (q := (RX14, TX14, 67)) rfl) rfl hl.1 rfl (lv_room (Nat.le_of_ble_eq_true rfl)) dX14_readBlock_12 (cl_f hck_0) g hK (by decide) (by decide) (fx' := [(14, 8, a0_, .int x_10), (14, 2, a0_, .ref q0_), (14, 16, a0_, .int o_), (14, 25, a0_, .int op_), (14, 10, a0_, .int t_), (14, 17, a0_, .int me_), (14, 26, a0_, .int br_)]) rfl (fun xr_11 fr_11 H locs mxr_11 kxr_11 hp hMr_11 g => ?_) (fun fr_11 H locs hp hMr_11 g => ?_)
    · have hG_12 := isV.frame hMr_11 go_.2.2.2.1 mq0_ kq0_ (by decide) (by decide) hG_7
      have hG_13 := FR.frame hMr_11 go_.2.2.2.1 mq0_ kq0_ (by decide) (by decide) hG_8
      have hG_14 := cEq.frame hMr_11 go_.2.2.2.1 ma0_ ka0_ (by decide) (by decide) hG_9
      subst hQ
      exact leavesX hempty hlocks (fun t ht hW => g_thrZ g hK mxr_11 kxr_11 ⟨hG_13, (by omega)⟩ ht hW) g.2.2.1.2.2
    · exact hp.elim
  · have hG_15 := isV.frame hMr_1 go_.2.2.2.1 mq0_ kq0_ (by decide) (by decide) hV
    have hG_16 := FR.frame hMr_1 go_.2.2.2.1 mq0_ kq0_ (by decide) (by decide) FR.refl
    have hG_17 := cEq.frame hMr_1 go_.2.2.2.1 ma0_ ka0_ (by decide) (by decide) hC_0
    obtain rfl : r_1 = 1 := h_3
    have g := g.more hF_6
    refine lv_iconst (v := 1) hx hb dX14_readBlock_7 (by decide) ?_
    refine lv_aload_n hx hb dX14_readBlock_8 rfl (lv_at hl 0 rfl) ?_
    refine g_geti (C := RX14) (T := TX14) (N := 67) hx hb hts (mc_ inX14) hown hK g ma0_ ka0_ (by decide) rfl 8 (by decide) rfl (hts _ (List.mem_cons_of_mem _ t_2154)) (fun _ h9 => h9) rfl dX14_readBlock_9 (fun x_18 bx_18 g => ?_)
    have hs_19 := sE_1 g 1 rfl (by have h9_0 := bbr_; unfold bd at h9_0; have h9_1 := bme_; unfold bd at h9_1; have h9_2 := bo_; unfold bd at h9_2; have h9_3 := bop_; unfold bd at h9_3; have h9_4 := bt_; unfold bd at h9_4; have h9_5 := bx_18; unfold bd at h9_5; have h9_6 := h_5; unfold bd at h9_6; omega)
    have kb_1 : bd 1 1 (1 : Int32) := ⟨by decide, by decide⟩
    have go_ := g
    refine g_callEv (As := [.int 1, .int 1, .int x_18]) (rest := []) ⟨hx, hb, hml, hown, hts⟩ (r_X14_need_3 l dC dI L kd tys fr_1 H.size g.2.2.2.1 a0_ ma0_ ka0_ 1 kb_1 1 x_18) (cwV 3 hts (gV_ t_2403 t_2405 t_100 t_198 t_2406) rfl rfl rfl (by decide +kernel) ⟨(show 0 + 1 ≤ N + 1 + 493 by omega), (show 8 + (4 + 11) + 0 ≤ 60 * (N + 1) + 28500 by omega)⟩) (pre3V g hK ma0_ ka0_ (by decide) (q := (RX14, TX14, 67)) rfl) rfl hl.1 rfl (lv_room (Nat.le_of_ble_eq_true rfl)) dX14_readBlock_12 (cl_f hck_0) g hK (by decide) (by decide) (fx' := [(14, 8, a0_, .int x_18), (14, 6, a0_, .int x_4), (14, 2, a0_, .ref q0_), (14, 16, a0_, .int o_), (14, 25, a0_, .int op_), (14, 10, a0_, .int t_), (14, 17, a0_, .int me_), (14, 26, a0_, .int br_)]) rfl (fun xr_20 fr_20 H locs mxr_20 kxr_20 hp hMr_20 g => ?_) (fun fr_20 H locs hp hMr_20 g => ?_)
    · have hG_21 := isV.frame hMr_20 go_.2.2.2.1 mq0_ kq0_ (by decide) (by decide) hG_15
      have hG_22 := FR.frame hMr_20 go_.2.2.2.1 mq0_ kq0_ (by decide) (by decide) hG_16
      have hG_23 := cEq.frame hMr_20 go_.2.2.2.1 ma0_ ka0_ (by decide) (by decide) hG_17
      exact hp.elim
    · have hG_24 := isV.frame hMr_20 go_.2.2.2.1 mq0_ kq0_ (by decide) (by decide) hG_15
      have hG_25 := FR.frame hMr_20 go_.2.2.2.1 mq0_ kq0_ (by decide) (by decide) hG_16
      have hG_26 := cEq.frame hMr_20 go_.2.2.2.1 ma0_ ka0_ (by decide) (by decide) hG_17
      refine lv_aload_n hx hb dX14_readBlock_15 rfl (lv_at hl 0 rfl) ?_
      refine lv_aload_n hx hb dX14_readBlock_16 rfl (lv_at hl 0 rfl) ?_
      refine g_getk (C := RX14) (T := TX14) (N := 67) hx hb hts (mc_ inX14) hown hK g rfl 26 (by decide) rfl (hts _ (List.mem_cons_of_mem _ t_2172)) (fun _ h9 => h9) 7 rfl dX14_readBlock_17 ?_
      refine lv_bipush (v := 8) hx hb dX14_readBlock_20 (by decide) ?_
      have kb_8 : bd 8 8 (8 : Int32) := ⟨by decide, by decide⟩
      refine lv_icmp_ge (tgt := 29) hx hb dX14_readBlock_22 (by decide) (fun c_27 => ?_) (fun c_27 => ?_)
      · have fc_27 := le_f c_27
        have b_28 : bd 8 8 br_ := leR fc_27 kb_8 bbr_ (by decide)
        refine lv_iconst (v := 0) hx hb dX14_readBlock_29 (by decide) ?_
        refine lv_iconst (v := 4) hx hb dX14_readBlock_30 (by decide) ?_
        refine lv_aload_n hx hb dX14_readBlock_31 rfl (lv_at hl 0 rfl) ?_
        refine g_getk (C := RX14) (T := TX14) (N := 67) hx hb hts (mc_ inX14) hown hK g rfl 8 (by decide) rfl (hts _ (List.mem_cons_of_mem _ t_2154)) (fun _ h9 => h9) 0 rfl dX14_readBlock_32 ?_
        have hs_29 := sE_1 g 1 rfl (by have h9_0 := b_28; unfold bd at h9_0; have h9_1 := bme_; unfold bd at h9_1; have h9_2 := bo_; unfold bd at h9_2; have h9_3 := bop_; unfold bd at h9_3; have h9_4 := bt_; unfold bd at h9_4; have h9_5 := bx_18; unfold bd at h9_5; have h9_6 := h_5; unfold bd at h9_6; have h8_0 := kb_1; unfold bd at h8_0; have h8_1 := kb_8; unfold bd at h8_1; omega)
        have kb_0 : bd 0 0 (0 : Int32) := ⟨by decide, by decide⟩
        have go_ := g
        refine g_callEv (As := [.int 0, .int 4, .int x_18]) (rest := []) ⟨hx, hb, hml, hown, hts⟩ (r_X14_need_2 l dC dI L kd tys fr_20 H.size g.2.2.2.1 a0_ ma0_ ka0_ 0 kb_0 4 x_18) (cwV 3 hts (gV_ t_2403 t_2405 t_100 t_198 t_2406) rfl rfl rfl (by decide +kernel) ⟨(show 1 + 1 ≤ N + 1 + 493 by omega), (show 8 + (4 + 11) + 22 ≤ 60 * (N + 1) + 28500 by omega)⟩) (pre3V g hK ma0_ ka0_ (by decide) (q := (RX14, TX14, 67)) rfl) rfl hl.1 rfl (lv_room (Nat.le_of_ble_eq_true rfl)) dX14_readBlock_35 (cl_f hck_0) g hK (by decide) (by decide) (fx' := [(14, 8, a0_, .int x_18), (14, 6, a0_, .int x_4), (14, 2, a0_, .ref q0_), (14, 16, a0_, .int o_), (14, 25, a0_, .int op_), (14, 10, a0_, .int t_), (14, 17, a0_, .int me_), (14, 26, a0_, .int br_)]) rfl (fun xr_30 fr_30 H locs mxr_30 kxr_30 hp hMr_30 g => ?_) (fun fr_30 H locs hp hMr_30 g => ?_)
        · have hG_31 := isV.frame hMr_30 go_.2.2.2.1 mq0_ kq0_ (by decide) (by decide) hG_24
          have hG_32 := FR.frame hMr_30 go_.2.2.2.1 mq0_ kq0_ (by decide) (by decide) hG_25
          have hG_33 := cEq.frame hMr_30 go_.2.2.2.1 ma0_ ka0_ (by decide) (by decide) hG_26
          subst hQ
          exact leavesX hempty hlocks (fun t ht hW => g_thrZ g hK mxr_30 kxr_30 ⟨hG_32, (by omega)⟩ ht hW) g.2.2.1.2.2
        · exact hp.elim
      · have fc_27 := nle_f c_27
        have b_34 : bd 0 7 br_ := ltL fc_27 bbr_ kb_8 (by decide)
        refine lv_iconst (v := 1) hx hb dX14_readBlock_25 (by decide) ?_
        refine lv_goto (tgt := 30) hx hb dX14_readBlock_26 (by decide) ?_
        refine lv_iconst (v := 4) hx hb dX14_readBlock_30 (by decide) ?_
        refine lv_aload_n hx hb dX14_readBlock_31 rfl (lv_at hl 0 rfl) ?_
        refine g_getk (C := RX14) (T := TX14) (N := 67) hx hb hts (mc_ inX14) hown hK g rfl 8 (by decide) rfl (hts _ (List.mem_cons_of_mem _ t_2154)) (fun _ h9 => h9) 0 rfl dX14_readBlock_32 ?_
        have hs_35 := sE_1 g 1 rfl (by have h9_0 := b_34; unfold bd at h9_0; have h9_1 := bme_; unfold bd at h9_1; have h9_2 := bo_; unfold bd at h9_2; have h9_3 := bop_; unfold bd at h9_3; have h9_4 := bt_; unfold bd at h9_4; have h9_5 := bx_18; unfold bd at h9_5; have h9_6 := h_5; unfold bd at h9_6; have h8_0 := kb_1; unfold bd at h8_0; have h8_1 := kb_8; unfold bd at h8_1; omega)
        have go_ := g
        refine g_callEv (As := [.int 1, .int 4, .int x_18]) (rest := []) ⟨hx, hb, hml, hown, hts⟩ (r_X14_need_3 l dC dI L kd tys fr_20 H.size g.2.2.2.1 a0_ ma0_ ka0_ 1 kb_1 4 x_18) (cwV 3 hts (gV_ t_2403 t_2405 t_100 t_198 t_2406) rfl rfl rfl (by decide +kernel) ⟨(show 0 + 1 ≤ N + 1 + 493 by omega), (show 8 + (4 + 11) + 0 ≤ 60 * (N + 1) + 28500 by omega)⟩) (pre3V g hK ma0_ ka0_ (by decide) (q := (RX14, TX14, 67)) rfl) rfl hl.1 rfl (lv_room (Nat.le_of_ble_eq_true rfl)) dX14_readBlock_35 (cl_f hck_0) g hK (by decide) (by decide) (fx' := [(14, 8, a0_, .int x_18), (14, 6, a0_, .int x_4), (14, 2, a0_, .ref q0_), (14, 16, a0_, .int o_), (14, 25, a0_, .int op_), (14, 10, a0_, .int t_), (14, 17, a0_, .int me_), (14, 26, a0_, .int br_)]) rfl (fun xr_36 fr_36 H locs mxr_36 kxr_36 hp hMr_36 g => ?_) (fun fr_36 H locs hp hMr_36 g => ?_)
        · have hG_37 := isV.frame hMr_36 go_.2.2.2.1 mq0_ kq0_ (by decide) (by decide) hG_24
          have hG_38 := FR.frame hMr_36 go_.2.2.2.1 mq0_ kq0_ (by decide) (by decide) hG_25
          have hG_39 := cEq.frame hMr_36 go_.2.2.2.1 ma0_ ka0_ (by decide) (by decide) hG_26
          exact hp.elim
        · have hG_40 := isV.frame hMr_36 go_.2.2.2.1 mq0_ kq0_ (by decide) (by decide) hG_24
          have hG_41 := FR.frame hMr_36 go_.2.2.2.1 mq0_ kq0_ (by decide) (by decide) hG_25
          have hG_42 := cEq.frame hMr_36 go_.2.2.2.1 ma0_ ka0_ (by decide) (by decide) hG_26
          refine lv_aload_n hx hb dX14_readBlock_38 rfl (lv_at hl 0 rfl) ?_
          refine lv_dup hx hb dX14_readBlock_39 rfl ?_
          refine g_getk (C := RX14) (T := TX14) (N := 67) hx hb hts (mc_ inX14) hown hK g rfl 26 (by decide) rfl (hts _ (List.mem_cons_of_mem _ t_2172)) (fun _ h9 => h9) 7 rfl dX14_readBlock_40 ?_
          refine lv_iconst (v := 1) hx hb dX14_readBlock_43 (by decide) ?_
          refine lv_iadd hx hb dX14_readBlock_44 ?_
          refine lv_topi (fun y_43 ey_43 => ?_)
          have ty_43 := add_bd ey_43 b_34 kb_1 (by decide)
          have b_44 : bd 1 8 y_43 := add_rg ty_43 b_34 kb_1 (by decide)
          have go_ := g
          refine g_put (C := RX14) (T := TX14) (N := 67) hx hb hts (mc_ inX14) tyX14 tyX14_ok nmX14 hown hK g ma0_ ka0_ (by decide) rfl 26 (by decide) (hts _ (List.mem_cons_of_mem _ t_2172)) (fun _ h9 => h9) rfl rfl (okV_i (bd_sub b_44 (by decide))) rfl rfl (by decide) (Or.inr (Or.inl (by decide))) (fx' := [(14, 8, a0_, .int x_18), (14, 6, a0_, .int x_4), (14, 2, a0_, .ref q0_), (14, 16, a0_, .int o_), (14, 25, a0_, .int op_), (14, 10, a0_, .int t_), (14, 17, a0_, .int me_)]) rfl dX14_readBlock_45 (fun f H locs hM_45 g => ?_)
          have hG_46 := isV.frame hM_45 go_.2.2.2.1 mq0_ kq0_ (by decide) (by decide) hG_40
          have hG_47 := FR.frame hM_45 go_.2.2.2.1 mq0_ kq0_ (by decide) (by decide) hG_41
          have hG_48 := cEq.frame hM_45 go_.2.2.2.1 ma0_ ka0_ (by decide) (by decide) hG_42
          refine lv_aload_n hx hb dX14_readBlock_48 rfl (lv_at hl 0 rfl) ?_
          have hs_49 := sE_1 g 2 rfl (by have h9_0 := b_34; unfold bd at h9_0; have h9_1 := bme_; unfold bd at h9_1; have h9_2 := bo_; unfold bd at h9_2; have h9_3 := bop_; unfold bd at h9_3; have h9_4 := bt_; unfold bd at h9_4; have h9_5 := bx_18; unfold bd at h9_5; have h9_6 := h_5; unfold bd at h9_6; have h9_7 := b_44; unfold bd at h9_7; have h8_0 := kb_1; unfold bd at h8_0; have h8_1 := kb_8; unfold bd at h8_1; omega)
          have go_ := g
          refine g_callEv (As := []) (rest := []) ⟨hx, hb, hml, hown, hts⟩ (r_X14_next_2 l dC dI L kd tys f H.size g.2.2.2.1 adK adV a0_ ma0_ ka0_ t_ bt_ (g.fcts [6] rfl)) (cwV 0 hts (gV_ t_2411 t_2413 t_102 t_198 t_2414) rfl rfl rfl (by decide +kernel) ⟨(show 6 + 1 ≤ N + 1 + 493 by omega), (show 8 + (1 + 11) + 135 ≤ 60 * (N + 1) + 28500 by omega)⟩) (pre3VA g hK hAm ma0_ ka0_ (by decide) (q := (RX14, TX14, 67)) rfl) rfl hl.1 rfl (lv_room (Nat.le_of_ble_eq_true rfl)) dX14_readBlock_49 (cl_f hck_0) g hK (by decide) (by decide) (fx' := [(14, 26, a0_, .int y_43), (14, 2, a0_, .ref q0_), (14, 16, a0_, .int o_), (14, 25, a0_, .int op_), (14, 17, a0_, .int me_)]) rfl (fun xr_50 fr_50 H locs mxr_50 kxr_50 hp hMr_50 g => ?_) (fun fr_50 H locs hp hMr_50 g => ?_)
          · have hG_51 := isV.frame hMr_50 go_.2.2.2.1 mq0_ kq0_ (by decide) (by decide) hG_46
            have hG_52 := FR.frame hMr_50 go_.2.2.2.1 mq0_ kq0_ (by decide) (by decide) hG_47
            subst hQ
            exact leavesX hempty hlocks (fun t ht hW => g_thrZ g hK mxr_50 kxr_50 ⟨hG_52, (by omega)⟩ ht hW) g.2.2.1.2.2
          · obtain ⟨hx_53, h_54, x_55, h_56, hF_57⟩ := hp
            have hG_58 := isV.frame hMr_50 go_.2.2.2.1 mq0_ kq0_ (by decide) (by decide) hG_46
            have hG_59 := FR.frame hMr_50 go_.2.2.2.1 mq0_ kq0_ (by decide) (by decide) hG_47
            obtain ⟨E_60, hE_60⟩ : ∃ E : Int, cEq fr_50 a0_ E := ⟨_, rfl⟩
            have mxE_60 : E_60 ≤ 1202 := by have h9 := cF_le g ma0_ ka0_; have h8 : cF _ _ = _ := hE_60; omega
            have lE_60 : (cF f0 a0_) + 1 ≤ E_60 := by have h9 := hx_53; have h8 : cF _ _ = _ := hE_60; have h7 : cF _ _ = _ := hG_48; have h6 := hs_49; have h5 := tk_c (f := f) (t := a0_); omega
            have b_61 : bd 0 1200 t_ := eqX rfl bt_ h_54 (by decide)
            have g := g.more hF_57
            refine lv_aload_n hx hb dX14_readBlock_52 rfl (lv_at hl 0 rfl) ?_
            refine g_geti (C := RX14) (T := TX14) (N := 67) hx hb hts (mc_ inX14) hown hK g ma0_ ka0_ (by decide) rfl 21 (by decide) rfl (hts _ (List.mem_cons_of_mem _ t_2167)) (fun _ h9 => h9) rfl dX14_readBlock_53 (fun x_62 bx_62 g => ?_)
            refine lv_istore_n (lv' := [(1, .int x_62), (0, .ref a0_)]) hx hb dX14_readBlock_56 rfl hl (by decide) rfl (fun ls hl => ?_)
            refine lv_iconst (v := (-1)) hx hb dX14_readBlock_57 (by decide) ?_
            refine lv_istore_n (lv' := [(2, .int (-1)), (1, .int x_62), (0, .ref a0_)]) hx hb dX14_readBlock_58 rfl hl (by decide) rfl (fun ls hl => ?_)
            refine lv_iconst (v := (-1)) hx hb dX14_readBlock_59 (by decide) ?_
            refine lv_istore_n (lv' := [(3, .int (-1)), (2, .int (-1)), (1, .int x_62), (0, .ref a0_)]) hx hb dX14_readBlock_60 rfl hl (by decide) rfl (fun ls hl => ?_)
            have loop_63 : ∀ (n : Nat) (v61_3 : Int32) (v61_2 : Int32) (w61_14_10_a0_ : Int32), bd (-1) 699 v61_3 → bd (-1) 4000 v61_2 → bd 0 1201 w61_14_10_a0_ → ((n : Int) - 1 < (n : Int)) → ∀ (f : Nat → va_E) (H : Heap) (locs : List Loc) (ls : Array Slot) (cl61 : Nat), G3 (dC, dI) L kd tys s f0 [(12, 46), (12, 57), (12, 58), (14, 6), (14, 7), (14, 8), (14, 9), (14, 10), (14, 11), (14, 12), (14, 13), (14, 14), (14, 15), (14, 21), (14, 25), (14, 26)] [180, 189, 190, 191, 192, 193, 194, 195, 196, 197, 198, 199, 200, 201, 202, 203, 204, 205, 206, 207, 208, 209, 210, 213, 214] f H locs [(14, 10, a0_, .int w61_14_10_a0_), (14, 26, a0_, .int y_43), (14, 2, a0_, .ref q0_), (14, 16, a0_, .int o_), (14, 25, a0_, .int op_), (14, 17, a0_, .int me_)] → (∃ (V1 : PV) (D1 : Nat → Nat) (E1 : Int), isV f q0_ V1 ∧ FR L kd f0 f q0_ ∧ cEq f a0_ E1 ∧ SI V_ δ_ V1 D1 U_ ∧ TS V1 D1 v61_2 (br_.toNatClampNeg + 1) me_.toNatClampNeg ∧ (v61_2.toInt = -1 ∨ isS V_ v61_3 (br_.toNatClampNeg + 1) me_.toNatClampNeg V1 D1) ∧ (V1.n 57).toInt - (V_.n 57).toInt ≤ E1 - cF f0 a0_ ∧ 2 * ((V1.n 46).toInt - (V_.n 46).toInt) ≤ E1 - cF f0 a0_ ∧ (V_.n 46).toInt ≤ (V1.n 46).toInt ∧ 2 * (cl61 : Int) ≤ E1 - cF f0 a0_ ∧ cF f0 a0_ + 1 ≤ E1 ∧ E1 ≤ 1202 ∧ cl61 ≤ K_ ∧ 1202 - E1 < (n : Int)) → lv_has ls 5 [(3, .int v61_3), (2, .int v61_2), (1, .int x_62), (0, .ref a0_)] → W p l e ({ frames := (N + 1) + 493, cells := K_, slots := 3 * K_, locals := 60 * (N + 1) + 28500 } : Room) s m [.ref a0_].toArray below meth c H locs cl61 (3 * cl61) Q (F0 m 61 ls []) := by
              intro n61
              induction n61 with
              | zero =>
                intro v61_3 v61_2 w61_14_10_a0_ bv61_3 bv61_2 bw61_14_10_a0_ hm61 f H locs ls cl61 g  ⟨V61, D61, E61, hV61, hF61, hC61, hsi61, ht61, hls61, hn61, hs61, hl61, hk61, hc61, mx61, hck61, hms61⟩ hl
                exact absurd hms61 (by omega)
              | succ n61 ih61 =>
                intro v61_3 v61_2 w61_14_10_a0_ bv61_3 bv61_2 bw61_14_10_a0_ hm61 f H locs ls cl61 g  ⟨V61, D61, E61, hV61, hF61, hC61, hsi61, ht61, hls61, hn61, hs61, hl61, hk61, hc61, mx61, hck61, hms61⟩ hl
                refine lv_aload_n hx hb dX14_readBlock_61 rfl (lv_at hl 3 rfl) ?_
                refine lv_bipush (v := 125) hx hb dX14_readBlock_62 (by decide) ?_
                have go_ := g
                refine g_calli (va_runV (As := [.int 125]) (rest := []) ⟨hx, hb, hml, hown, hts⟩ (r_X14_isSign l dC dI L kd tys f H.size g.2.2.2.1 a0_ ma0_ ka0_ 125) (cwV 1 hts (gV_ t_2435 t_2437 t_108 t_198 t_2438) rfl rfl rfl (by decide +kernel) ⟨(show 0 + 1 ≤ N + 1 + 493 by omega), (show 8 + (2 + 11) + 0 ≤ 60 * (N + 1) + 28500 by omega)⟩) (pre3V g hK ma0_ ka0_ (by decide) (q := (RX14, TX14, 67)) rfl) rfl rfl hl.1 rfl (lv_room (Nat.le_of_ble_eq_true rfl)) dX14_readBlock_64 (cl_f hck61)) g hK (by decide) (by decide) (fx' := [(14, 10, a0_, .int w61_14_10_a0_), (14, 26, a0_, .int y_43), (14, 2, a0_, .ref q0_), (14, 16, a0_, .int o_), (14, 25, a0_, .int op_), (14, 17, a0_, .int me_)]) rfl (fun r_64 fr_64 H locs hp hMr_64 g => ?_)
                rcases hp with ⟨h_65, -⟩ | ⟨h_66, x_67, h_68, hF_69⟩
                · have hG_70 := isV.frame hMr_64 go_.2.2.2.1 mq0_ kq0_ (by decide) (by decide) hV61
                  have hG_71 := FR.frame hMr_64 go_.2.2.2.1 mq0_ kq0_ (by decide) (by decide) hF61
                  have hG_72 := cEq.frame hMr_64 go_.2.2.2.1 ma0_ ka0_ (by decide) (by decide) hC61
                  obtain rfl : r_64 = 0 := h_65
                  refine lv_if_ne (tgt := 104) hx hb dX14_readBlock_67 (by decide) (fun c_ => absurd c_ (by decide)) (fun c_ => ?_)
                  refine lv_aload_n hx hb dX14_readBlock_70 rfl (lv_at hl 3 rfl) ?_
                  have qc__73 : cF fr_64 a0_ = _ := hG_72
                  have qc__74 : cF fr_64 a0_ = _ := hG_72
                  have go_ := g
                  refine g_callZi (As := []) (rest := []) ⟨hx, hb, hml, hown, hts⟩ (ih.2 l dC dI L kd tys fr_64 H.size g.2.2.2.1 adK adV a0_ ma0_ ka0_ q0_ mq0_ kq0_ V61 D61 U_ o_ bo_ op_ bop_ w61_14_10_a0_ bw61_14_10_a0_ me_ bme_ y_43 b_44 hG_70 (SI.rf hsi61.2.2.1 hsi61.2.2.2) (fun s9 h9 => Int.lt_of_lt_of_le (hU s9 h9) hsi61.1.2.2.2.2.1) (by rw [hsi61.1.2.2.1 0 (by decide) (by decide)]; exact ho) (by rw [hsi61.1.2.2.1 27 (by decide) (by decide)]; exact hm27) (by rw [hsi61.1.1 18 (by decide) (by decide)]; exact hm18) (by omega) (by omega) (by omega) (K_ - cl61) (by omega) (by have h9_0 := b_34; unfold bd at h9_0; have h9_1 := bme_; unfold bd at h9_1; have h9_2 := bo_; unfold bd at h9_2; have h9_3 := bop_; unfold bd at h9_3; have h9_4 := b_61; unfold bd at h9_4; have h9_5 := bv61_2; unfold bd at h9_5; have h9_6 := bv61_3; unfold bd at h9_6; have h9_7 := bw61_14_10_a0_; unfold bd at h9_7; have h9_8 := bx_18; unfold bd at h9_8; have h9_9 := h_5; unfold bd at h9_9; have h9_10 := h_56; unfold bd at h9_10; have h9_11 := bx_62; unfold bd at h9_11; have h9_12 := b_44; unfold bd at h9_12; have h8_0 := kb_1; unfold bd at h8_0; have h8_1 := kb_8; unfold bd at h8_1; omega) (g.fcts [2, 3, 4, 0, 5, 1] rfl)) (cwV 0 hts (gV_ t_2546 t_2548 t_132 t_198 t_2549) rfl rfl rfl (by decide +kernel) ⟨(show N + 493 + 1 ≤ N + 1 + 493 by omega), (show 8 + (8 + 11) + (60 * N + 28500) ≤ 60 * (N + 1) + 28500 by omega)⟩) (pre3VA g hK hAm ma0_ ka0_ (by decide) (q := (RX14, TX14, 67)) rfl) rfl hl.1 rfl (lv_room (Nat.le_of_ble_eq_true rfl)) dX14_readBlock_71 (cl_k (K := K_) (k := K_ - cl61) (show cl61 + (K_ - cl61) ≤ K_ by omega)) g hK (by decide) (by decide) (fx' := [(14, 2, a0_, .ref q0_), (14, 16, a0_, .int o_), (14, 17, a0_, .int me_)]) rfl (fun xr_75 fr_75 H locs kr_75 cr_75 ecr_75 mxr_75 kxr_75 hp hMr_75 g => ?_) (fun r_75 fr_75 H locs kr_75 cr_75 ecr_75 hp hMr_75 g => ?_)
                  · have hF_76 := FR.call (mds := []) (mas := []) hG_71 go_ mq0_ kq0_ rfl hp.1
                    have hpk := hp.2
                    subst hQ
                    exact leavesX hempty hlocks (fun t ht hW => g_thrZ g hK mxr_75 kxr_75 ⟨hF_76, (by omega)⟩ ht hW) g.2.2.1.2.2
                  · obtain ⟨hx_77, x_78, h_79, hF_80⟩ := hp
                    obtain ⟨V_81, D_82, E_83, hV_84, hF_85, hE_86, hsi_87, hP_88, hn_89, hs_90, hk_91, hc_92⟩ := rds_use hx_77 hG_72
                    have hF_93 := FR.call (mds := []) (mas := []) hG_71 go_ mq0_ kq0_ rfl hF_85
                    have mxE_83 : E_83 ≤ 1202 := by have h9 := cF_le g ma0_ ka0_; have h8 : cF _ _ = _ := hE_86; omega
                    have hsi_94 := SI.call hsi61 hsi_87
                    have hsi_94l := hsi_87.1.2.2.2.2.1
                    have hl_95 := TS.ex hsi_87.1 hsi_87.2.1 ht61
                    have hls_96 := hls61.imp id (fun h9 => isS.ex_ h9 hn0 hsi_87.1 hsi_87.2.1)
                    have hck_97 : cr_75 ≤ K_ := by omega
                    have hi_98 := isS.base hP_88 hsi61.1
                    have hi_98a := hP_88.1
                    have hi_98b := hP_88.2.1
                    have b_99 : bd 0 699 r_75 := ⟨(by omega), (by omega)⟩
                    have hlv_100 : y_43.toNatClampNeg = br_.toNatClampNeg + 1 := tn1 bbr_.1 (by have h9_0 := b_34; unfold bd at h9_0; have h9_1 := bme_; unfold bd at h9_1; have h9_2 := bo_; unfold bd at h9_2; have h9_3 := bop_; unfold bd at h9_3; have h9_4 := b_99; unfold bd at h9_4; have h9_5 := b_61; unfold bd at h9_5; have h9_6 := bv61_2; unfold bd at h9_6; have h9_7 := bv61_3; unfold bd at h9_7; have h9_8 := bw61_14_10_a0_; unfold bd at h9_8; have h9_9 := bx_18; unfold bd at h9_9; have h9_10 := h_5; unfold bd at h9_10; have h9_11 := h_56; unfold bd at h9_11; have h9_12 := bx_62; unfold bd at h9_12; have h9_13 := b_44; unfold bd at h9_13; have h8_0 := kb_1; unfold bd at h8_0; have h8_1 := kb_8; unfold bd at h8_1; omega)
                    have hi_101 : isS V_ r_75 (br_.toNatClampNeg + 1) me_.toNatClampNeg V_81 D_82 := by rw [← hlv_100]; exact hi_98
                    have ht_102 := isS.ts hi_101 hn0
                    have g := g.more hF_80
                    refine lv_istore (lv' := [(4, .int r_75), (3, .int v61_3), (2, .int v61_2), (1, .int x_62), (0, .ref a0_)]) hx hb dX14_readBlock_74 hl (by decide) rfl (fun ls hl => ?_)
                    refine lv_iload_n hx hb dX14_readBlock_76 rfl (lv_at hl 2 rfl) ?_
                    refine lv_iconst (v := (-1)) hx hb dX14_readBlock_77 (by decide) ?_
                    have kb_m1 : bd (-1) (-1) ((-1) : Int32) := ⟨by decide, by decide⟩
                    refine lv_icmp_ne (tgt := 87) hx hb dX14_readBlock_78 (by decide) (fun c_103 => ?_) (fun c_103 => ?_)
                    · have fc_103 := neq_f c_103
                      have b_104 : bd 0 4000 v61_2 := neX fc_103 bv61_2 kb_m1 (by decide)
                      refine lv_aload_n hx hb dX14_readBlock_87 rfl (lv_at hl 4 rfl) ?_
                      have hi_105 := hls_96.resolve_left fc_103
                      have hi_105a := hi_105.1
                      have hi_105b := hi_105.2.1
                      have b_106 : bd 0 699 v61_3 := ⟨(by omega), (by omega)⟩
                      refine g_getk (C := RX14) (T := TX14) (N := 67) hx hb hts (mc_ inX14) hown hK g rfl 2 (by decide) rfl (hts _ (List.mem_cons_of_mem _ t_2148)) (fun _ h9 => h9) 3 rfl dX14_readBlock_88 ?_
                      refine g_getr (K := 196) (C := RX12) (T := TX12) (N := 60) hx hb hts (mc_ inX12) hown hK g mq0_ kq0_ (by decide) rfl 41 (by decide) rfl (hts _ (List.mem_cons_of_mem _ t_1987)) (fun _ h9 => h9) rfl dX14_readBlock_91 (fun a_107 ma_107 ka_107 g => ?_)
                      refine lv_iload_n hx hb dX14_readBlock_94 rfl (lv_at hl 1 rfl) ?_
                      refine lv_iload hx hb dX14_readBlock_95 (lv_at hl 0 rfl) ?_
                      have gp_108 := g
                      have go_ := g
                      refine g_iastX hx hb hK g ma_107 ka_107 (by decide) rfl (in_bd b_106 (by decide)) (bd_sub b_99 (by decide)) (by decide) dX14_readBlock_97 (fun f H locs hM_109 u_111 g => ?_)
                      have hG_110 := cEq.frame hM_109 go_.2.2.2.1 ma0_ ka0_ (by decide) (by decide) hE_86
                      have hV_112 := isV.ui hV_84 gp_108 0 rfl mq0_ kq0_ rfl u_111
                      have hF_113 := FR.arr hF_93 gp_108 0 rfl mq0_ kq0_ rfl rfl u_111.1
                      obtain ⟨V_114, hV_115, hsi_116, hst_117, hne_119, hne_119b, hl_120, hl_121, hl_122, hl_123⟩ : ∃ V1 : PV, isV f q0_ V1 ∧ SI V_ δ_ V1 D_82 U_ ∧ True ∧ (V1.n 57).toInt = (V_81.n 57).toInt ∧ (V1.n 46).toInt = (V_81.n 46).toInt ∧ TS V1 D_82 v61_2 (br_.toNatClampNeg + 1) me_.toNatClampNeg ∧ TS V1 D_82 r_75 (br_.toNatClampNeg + 1) me_.toNatClampNeg ∧ isS V_ r_75 (br_.toNatClampNeg + 1) me_.toNatClampNeg V1 D_82 ∧ isS V_ v61_3 (br_.toNatClampNeg + 1) me_.toNatClampNeg V1 D_82 := ⟨_, hV_112, SI.link hsi_94 b_106.1 (by have h9 := hi_105.1; omega) hi_105.2.1 (fun h9 => absurd (hU _ h9) (by rw [tnZ b_106.1]; have h8 := hi_105.1; omega)) hi_105.2.2.1 hi_105.2.2.2 ht_102, trivial, rfl, rfl, TS.ui_ (by decide) hl_95, TS.ui_ (by decide) ht_102, isS.ui_ (by decide) hi_101, isS.ui_ (by decide) hi_105⟩
                      refine lv_iload hx hb dX14_readBlock_98 (lv_at hl 0 rfl) ?_
                      refine lv_istore_n (lv' := [(3, .int r_75), (4, .int r_75), (2, .int v61_2), (1, .int x_62), (0, .ref a0_)]) hx hb dX14_readBlock_100 rfl hl (by decide) rfl (fun ls hl => ?_)
                      refine lv_goto (tgt := 61) hx hb dX14_readBlock_101 (by decide) ?_
                      have hl9 := lv_sub hl [0, 2, 3, 4] (by rfl : lv_pick [(3, .int r_75), (4, .int r_75), (2, .int v61_2), (1, .int x_62), (0, .ref a0_)] [0, 2, 3, 4] = [(3, .int r_75), (2, .int v61_2), (1, .int x_62), (0, .ref a0_)])
                      have g9 := g.sub (fx' := [(14, 10, a0_, .int x_78), (14, 26, a0_, .int y_43), (14, 2, a0_, .ref q0_), (14, 16, a0_, .int o_), (14, 25, a0_, .int op_), (14, 17, a0_, .int me_)]) [3, 2, 4, 5, 1, 6] rfl
                      exact ih61  r_75 v61_2 x_78 (bd_sub b_99 (by decide)) (bd_sub b_104 (by decide)) h_79 (by have h9_0 := b_104; unfold bd at h9_0; have h9_1 := b_99; unfold bd at h9_1; have h9_2 := bv61_2; unfold bd at h9_2; have h9_3 := bv61_3; unfold bd at h9_3; have h9_4 := bw61_14_10_a0_; unfold bd at h9_4; have h9_5 := h_79; unfold bd at h9_5; have h9_6 := kb_1; unfold bd at h9_6; have h9_7 := kb_8; unfold bd at h9_7; have h9_8 := kb_m1; unfold bd at h9_8; omega) _ _ _ _ _ g9 ⟨_, _, _, hV_115, hF_113, hG_110, hsi_116, hl_120, (Or.inr hl_122), (by omega), (by omega), (by omega), (by omega), (by omega), (by omega), hck_97, (by omega)⟩ hl9
                    · have fc_103 := eq_f c_103
                      have b_124 : bd (-1) (-1) v61_2 := eqX fc_103 bv61_2 kb_m1 (by decide)
                      refine lv_iload hx hb dX14_readBlock_81 (lv_at hl 0 rfl) ?_
                      refine lv_istore_n (lv' := [(2, .int r_75), (4, .int r_75), (3, .int v61_3), (1, .int x_62), (0, .ref a0_)]) hx hb dX14_readBlock_83 rfl hl (by decide) rfl (fun ls hl => ?_)
                      refine lv_goto (tgt := 98) hx hb dX14_readBlock_84 (by decide) ?_
                      refine lv_iload hx hb dX14_readBlock_98 (lv_at hl 1 rfl) ?_
                      refine lv_istore_n (lv' := [(3, .int r_75), (2, .int r_75), (4, .int r_75), (1, .int x_62), (0, .ref a0_)]) hx hb dX14_readBlock_100 rfl hl (by decide) rfl (fun ls hl => ?_)
                      refine lv_goto (tgt := 61) hx hb dX14_readBlock_101 (by decide) ?_
                      have hl9 := lv_sub hl [0, 1, 3, 4] (by rfl : lv_pick [(3, .int r_75), (2, .int r_75), (4, .int r_75), (1, .int x_62), (0, .ref a0_)] [0, 1, 3, 4] = [(3, .int r_75), (2, .int r_75), (1, .int x_62), (0, .ref a0_)])
                      have g9 := g.sub (fx' := [(14, 10, a0_, .int x_78), (14, 26, a0_, .int y_43), (14, 2, a0_, .ref q0_), (14, 16, a0_, .int o_), (14, 25, a0_, .int op_), (14, 17, a0_, .int me_)]) [2, 1, 3, 4, 0, 5] rfl
                      exact ih61  r_75 r_75 x_78 (bd_sub b_99 (by decide)) (bd_sub b_99 (by decide)) h_79 (by have h9_0 := b_99; unfold bd at h9_0; have h9_1 := bv61_2; unfold bd at h9_1; have h9_2 := bv61_3; unfold bd at h9_2; have h9_3 := bw61_14_10_a0_; unfold bd at h9_3; have h9_4 := h_79; unfold bd at h9_4; have h9_5 := kb_1; unfold bd at h9_5; have h9_6 := kb_8; unfold bd at h9_6; have h9_7 := kb_m1; unfold bd at h9_7; omega) _ _ _ _ _ g9 ⟨_, _, _, hV_84, hF_93, hE_86, hsi_94, ht_102, (Or.inr hi_101), (by omega), (by omega), (by omega), (by omega), (by omega), (by omega), hck_97, (by omega)⟩ hl9
                · have hG_125 := isV.frame hMr_64 go_.2.2.2.1 mq0_ kq0_ (by decide) (by decide) hV61
                  have hG_126 := FR.frame hMr_64 go_.2.2.2.1 mq0_ kq0_ (by decide) (by decide) hF61
                  have hG_127 := cEq.frame hMr_64 go_.2.2.2.1 ma0_ ka0_ (by decide) (by decide) hC61
                  obtain rfl : r_64 = 1 := h_66
                  have g := g.more hF_69
                  refine lv_if_ne (tgt := 104) hx hb dX14_readBlock_67 (by decide) (fun c_ => ?_) (fun c_ => absurd c_ (by decide))
                  refine lv_aload_n hx hb dX14_readBlock_104 rfl (lv_at hl 3 rfl) ?_
                  have hs_128 := sE_1 g 0 rfl (by have h9_0 := b_34; unfold bd at h9_0; have h9_1 := bme_; unfold bd at h9_1; have h9_2 := bo_; unfold bd at h9_2; have h9_3 := bop_; unfold bd at h9_3; have h9_4 := b_61; unfold bd at h9_4; have h9_5 := bv61_2; unfold bd at h9_5; have h9_6 := bv61_3; unfold bd at h9_6; have h9_7 := bw61_14_10_a0_; unfold bd at h9_7; have h9_8 := bx_18; unfold bd at h9_8; have h9_9 := h_5; unfold bd at h9_9; have h9_10 := h_56; unfold bd at h9_10; have h9_11 := bx_62; unfold bd at h9_11; have h9_12 := h_68; unfold bd at h9_12; have h9_13 := b_44; unfold bd at h9_13; have h8_0 := kb_1; unfold bd at h8_0; have h8_1 := kb_8; unfold bd at h8_1; omega)
                  have go_ := g
                  refine g_callEv (As := []) (rest := []) ⟨hx, hb, hml, hown, hts⟩ (r_X14_next_2 l dC dI L kd tys fr_64 H.size g.2.2.2.1 adK adV a0_ ma0_ ka0_ w61_14_10_a0_ bw61_14_10_a0_ (g.fcts [1] rfl)) (cwV 0 hts (gV_ t_2411 t_2413 t_102 t_198 t_2414) rfl rfl rfl (by decide +kernel) ⟨(show 6 + 1 ≤ N + 1 + 493 by omega), (show 8 + (1 + 11) + 135 ≤ 60 * (N + 1) + 28500 by omega)⟩) (pre3VA g hK hAm ma0_ ka0_ (by decide) (q := (RX14, TX14, 67)) rfl) rfl hl.1 rfl (lv_room (Nat.le_of_ble_eq_true rfl)) dX14_readBlock_105 (cl_f hck61) g hK (by decide) (by decide) (fx' := [(14, 26, a0_, .int y_43), (14, 2, a0_, .ref q0_), (14, 16, a0_, .int o_), (14, 25, a0_, .int op_), (14, 17, a0_, .int me_)]) rfl (fun xr_129 fr_129 H locs mxr_129 kxr_129 hp hMr_129 g => ?_) (fun fr_129 H locs hp hMr_129 g => ?_)
                  · have hG_130 := isV.frame hMr_129 go_.2.2.2.1 mq0_ kq0_ (by decide) (by decide) hG_125
                    have hG_131 := FR.frame hMr_129 go_.2.2.2.1 mq0_ kq0_ (by decide) (by decide) hG_126
                    subst hQ
                    exact leavesX hempty hlocks (fun t ht hW => g_thrZ g hK mxr_129 kxr_129 ⟨hG_131, (by omega)⟩ ht hW) g.2.2.1.2.2
                  · obtain ⟨hx_132, h_133, x_134, h_135, hF_136⟩ := hp
                    have hG_137 := isV.frame hMr_129 go_.2.2.2.1 mq0_ kq0_ (by decide) (by decide) hG_125
                    have hG_138 := FR.frame hMr_129 go_.2.2.2.1 mq0_ kq0_ (by decide) (by decide) hG_126
                    obtain ⟨E_139, hE_139⟩ : ∃ E : Int, cEq fr_129 a0_ E := ⟨_, rfl⟩
                    have mxE_139 : E_139 ≤ 1202 := by have h9 := cF_le g ma0_ ka0_; have h8 : cF _ _ = _ := hE_139; omega
                    have lE_139 : E61 + 1 ≤ E_139 := by have h9 := hx_132; have h8 : cF _ _ = _ := hE_139; have h7 : cF _ _ = _ := hG_127; have h6 := hs_128; have h5 := tk_c (f := fr_64) (t := a0_); omega
                    have b_140 : bd 0 1200 w61_14_10_a0_ := eqX rfl bw61_14_10_a0_ h_133 (by decide)
                    have g := g.more hF_136
                    refine lv_aload_n hx hb dX14_readBlock_108 rfl (lv_at hl 3 rfl) ?_
                    refine lv_dup hx hb dX14_readBlock_109 rfl ?_
                    refine g_getk (C := RX14) (T := TX14) (N := 67) hx hb hts (mc_ inX14) hown hK g rfl 26 (by decide) rfl (hts _ (List.mem_cons_of_mem _ t_2172)) (fun _ h9 => h9) 1 rfl dX14_readBlock_110 ?_
                    refine lv_iconst (v := 1) hx hb dX14_readBlock_113 (by decide) ?_
                    refine lv_isub hx hb dX14_readBlock_114 ?_
                    refine lv_topi (fun y_141 ey_141 => ?_)
                    obtain rfl : br_ = y_141 := add_sub_c ey_43 ey_141
                    have go_ := g
                    refine g_put (C := RX14) (T := TX14) (N := 67) hx hb hts (mc_ inX14) tyX14 tyX14_ok nmX14 hown hK g ma0_ ka0_ (by decide) rfl 26 (by decide) (hts _ (List.mem_cons_of_mem _ t_2172)) (fun _ h9 => h9) rfl rfl (okV_i (bd_sub b_34 (by decide))) rfl rfl (by decide) (Or.inr (Or.inl (by decide))) (fx' := [(14, 10, a0_, .int x_134), (14, 2, a0_, .ref q0_), (14, 16, a0_, .int o_), (14, 25, a0_, .int op_), (14, 17, a0_, .int me_)]) rfl dX14_readBlock_115 (fun f H locs hM_142 g => ?_)
                    have hG_143 := isV.frame hM_142 go_.2.2.2.1 mq0_ kq0_ (by decide) (by decide) hG_137
                    have hG_144 := FR.frame hM_142 go_.2.2.2.1 mq0_ kq0_ (by decide) (by decide) hG_138
                    have hG_145 := cEq.frame hM_142 go_.2.2.2.1 ma0_ ka0_ (by decide) (by decide) hE_139
                    refine lv_aload_n hx hb dX14_readBlock_118 rfl (lv_at hl 3 rfl) ?_
                    refine lv_iload_n hx hb dX14_readBlock_119 rfl (lv_at hl 2 rfl) ?_
                    have go_ := g
                    refine g_put (C := RX14) (T := TX14) (N := 67) hx hb hts (mc_ inX14) tyX14 tyX14_ok nmX14 hown hK g ma0_ ka0_ (by decide) rfl 21 (by decide) (hts _ (List.mem_cons_of_mem _ t_2167)) (fun _ h9 => h9) rfl rfl (okV_i bx_62) rfl rfl (by decide) (Or.inr (Or.inl (by decide))) (fx' := [(14, 26, a0_, .int br_), (14, 10, a0_, .int x_134), (14, 2, a0_, .ref q0_), (14, 16, a0_, .int o_), (14, 25, a0_, .int op_), (14, 17, a0_, .int me_)]) rfl dX14_readBlock_120 (fun f H locs hM_146 g => ?_)
                    have hG_147 := isV.frame hM_146 go_.2.2.2.1 mq0_ kq0_ (by decide) (by decide) hG_143
                    have hG_148 := FR.frame hM_146 go_.2.2.2.1 mq0_ kq0_ (by decide) (by decide) hG_144
                    have hG_149 := cEq.frame hM_146 go_.2.2.2.1 ma0_ ka0_ (by decide) (by decide) hG_145
                    refine lv_iload_n hx hb dX14_readBlock_123 rfl (lv_at hl 1 rfl) ?_
                    have h9c : cF f a0_ = _ := hG_149
                    subst hQ
                    exact iretX (v := v61_2) hx hb hr (fun t ht hW => g_retZ g hK ⟨_, rfl, ⟨⟨_, _, hG_147, hG_148, hsi61, ht61, (by omega), (by omega), (by omega), (by omega)⟩, x_134, h_135, (g.fcts [5, 1, 2] rfl)⟩⟩ ht hW) g.2.2.1.2.2 dX14_readBlock_124 hlocks
            have kb_m1 : bd (-1) (-1) ((-1) : Int32) := ⟨by decide, by decide⟩
            have hl9 := lv_sub hl [0, 1, 2, 3] (by rfl : lv_pick [(3, .int (-1)), (2, .int (-1)), (1, .int x_62), (0, .ref a0_)] [0, 1, 2, 3] = [(3, .int (-1)), (2, .int (-1)), (1, .int x_62), (0, .ref a0_)])
            have g9 := g.sub (fx' := [(14, 10, a0_, .int x_55), (14, 26, a0_, .int y_43), (14, 2, a0_, .ref q0_), (14, 16, a0_, .int o_), (14, 25, a0_, .int op_), (14, 17, a0_, .int me_)]) [1, 2, 3, 4, 5, 6] rfl
            exact loop_63 (1300) (-1) (-1) x_55 (bd_sub kb_m1 (by decide)) (bd_sub kb_m1 (by decide)) h_56 (by have h9_0 := h_56; unfold bd at h9_0; have h9_1 := kb_1; unfold bd at h9_1; have h9_2 := kb_8; unfold bd at h9_2; have h9_3 := kb_m1; unfold bd at h9_3; omega) _ _ _ _ _ g9 ⟨_, _, _, hG_58, hG_59, hE_60, hsi_0, (Or.inl (by decide)), (Or.inl (by decide)), (by omega), (by omega), (by omega), (by omega), (by omega), (by omega), hck_0, (by omega)⟩ hl9
