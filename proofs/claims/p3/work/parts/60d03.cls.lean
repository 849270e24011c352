set_option maxHeartbeats 4000000 in
set_option maxRecDepth 100000 in
theorem r_X14_readMark (l : Launch) (dC : Nat → ClassId) (dI : Nat → Nat → Nat) (L : List Nat) (kd : Nat → Nat) (tys : List (ClassId × FieldType)) (f0 : Nat → va_E) (sz : Nat) (hWT : WT L kd tys f0) (adK adV : Nat → Nat) (a0_ : Nat) (ma0_ : a0_ ∈ L) (ka0_ : kd a0_ = 14) (q0_ : Nat) (mq0_ : q0_ ∈ L) (kq0_ : kd q0_ = 12) (V_ : PV) (δ_ : Nat → Nat) (o_ : Int32) (bo_ : bd 0 7 o_) (op_ : Int32) (bop_ : bd 0 40 op_) (t_ : Int32) (bt_ : bd 0 1201 t_) (me_ : Int32) (bme_ : bd 0 109 me_) (hV : isV f0 q0_ V_) (hKI : KI V_ δ_ o_.toNatClampNeg) (hnn : (V_.n 57).toInt ≤ cF f0 a0_) (hns : 2 * (V_.n 46).toInt ≤ cF f0 a0_) (hn0 : 0 ≤ (V_.n 46).toInt) (hm18 : (V_.i 18 me_.toNatClampNeg).toNatClampNeg = o_.toNatClampNeg) (K_ : Nat) (hK_ : 1204 ≤ 2 * (K_ : Int) + cF f0 a0_) (hfx : Fs L kd f0 [(14, 2, a0_, .ref q0_), (14, 16, a0_, .int o_), (14, 25, a0_, .int op_), (14, 10, a0_, .int t_), (14, 17, a0_, .int me_)]) : MetX l yX14_readMark (.code yX14_readMark cX14_readMark 5 none :: lw_g) ({ frames := 487, cells := K_, slots := 3 * K_, locals := 28408 }) (va_Pc [.ref a0_] (P3A (dC, dI) L tys f0 sz adK adV)) (q3Z (dC, dI) L kd tys [(12, 46), (12, 57), (12, 58), (14, 6), (14, 7), (14, 8), (14, 9), (14, 10), (14, 11), (14, 12), (14, 13), (14, 14), (14, 15), (14, 20), (14, 21), (14, 22), (14, 23), (14, 24), (14, 25), (14, 26)] [160, 161, 162, 163, 164, 165, 166, 167, 168, 169, 175, 176, 177, 178, 180, 182, 183, 184, 185, 186, 187, 188, 189, 190, 191, 192, 193, 194, 195, 196, 197, 198, 199, 200, 201, 202, 203, 204, 205, 206, 207, 208, 209, 210, 213, 214] f0 sz (pXv (fun (f : Nat → va_E) (k : Nat) => (rdK L kd f0 a0_ q0_ V_ o_.toNatClampNeg f k (fun V1 => V1.n 27 = V_.n 27 ∧ V1.i 18 = V_.i 18)) ∧ ∃ z1_ : Int32, bd 0 1201 z1_ ∧ Fs L kd f [(14, 25, a0_, .int op_), (14, 10, a0_, .int z1_)])) (fun (f : Nat → va_E) (k : Nat) => FR L kd f0 f q0_ ∧ 2 * (k : Int) + cF f0 a0_ ≤ 1203)) (pA L sz) := by
  refine MetX.ofW (cc := cX14_readMark) (maxL := 5) (ret := none) (by decide) rfl ?_
  intro p e s m args below meth c s₁ B hml hempty hv
  obtain ⟨rfl, ⟨hsz, hP, hK, hD0⟩, hAm⟩ := hv
  have hx := B.exec
  have hb := B.bytes
  have hr := B.returns
  have hts := atoms_spec (ws := (.code yX14_readMark cX14_readMark 5 none :: lw_g)) B.pre
  have hown : s.vm.findClass RX14 = some m.cls := findClass_of_methodNamed B.named
  have hlocks := B.notSynchronized
  subst hsz
  have g : G3 (dC, dI) L kd tys s f0 [(12, 46), (12, 57), (12, 58), (14, 6), (14, 7), (14, 8), (14, 9), (14, 10), (14, 11), (14, 12), (14, 13), (14, 14), (14, 15), (14, 20), (14, 21), (14, 22), (14, 23), (14, 24), (14, 25), (14, 26)] [160, 161, 162, 163, 164, 165, 166, 167, 168, 169, 175, 176, 177, 178, 180, 182, 183, 184, 185, 186, 187, 188, 189, 190, 191, 192, 193, 194, 195, 196, 197, 198, 199, 200, 201, 202, 203, 204, 205, 206, 207, 208, 209, 210, 213, 214] f0 s.heap [] [(14, 2, a0_, .ref q0_), (14, 16, a0_, .int o_), (14, 25, a0_, .int op_), (14, 10, a0_, .int t_), (14, 17, a0_, .int me_)] := G3.start hP hD0 hWT hfx
  have hl := lv_entry ([.ref a0_]) (n := 5) (Nat.le_of_ble_eq_true rfl)
  rw [lg_entry_eq]
  generalize (lg_sl ([.ref a0_]) ++ List.replicate (5 - (lg_sl ([.ref a0_])).length) Slot.unset).toArray = ls at hl ⊢
  have hl : lv_has ls 5 [(0, .ref a0_)] := hl
  refine W_q (fun Q hQ => ?_)
  refine W_c0 (fun cl_0 hc_0 => ?_)
  have hck_0 : cl_0 ≤ K_ := by omega
  have hC_0 : cEq f0 a0_ (cF f0 a0_) := rfl
  have hm_0 : cF f0 a0_ ≤ 1202 := cF_le g ma0_ ka0_
  have hm_1 : -1 ≤ cF f0 a0_ := cF_ge g ma0_ ka0_
  have hki_0 : KI V_ δ_ o_.toNatClampNeg := hKI
  have ho7 : o_.toNatClampNeg < 8 ∧ (o_.toNatClampNeg : Int) = o_.toInt := by have h9 := bo_.1; have h8 := bo_.2; have h7 := tnZ h9; omega
  have hme := tnZ bme_.1
  have p18_0 : V_.i 18 = V_.i 18 := rfl
  have p27_0 : V_.n 27 = V_.n 27 := rfl
  have join_1 : ∀ (g52_14_8_a0_ : Int32) (g52_12_26_q0_ : Nat) (g52_12_22_q0_ : Nat) (f : Nat → va_E) (H : Heap) (locs : List Loc) (ls : Array Slot), bd 0 8000 g52_14_8_a0_ → g52_12_26_q0_ ∈ L → kd g52_12_26_q0_ = 182 → g52_12_22_q0_ ∈ L → kd g52_12_22_q0_ = 178 → G3 (dC, dI) L kd tys s f0 [(12, 46), (12, 57), (12, 58), (14, 6), (14, 7), (14, 8), (14, 9), (14, 10), (14, 11), (14, 12), (14, 13), (14, 14), (14, 15), (14, 20), (14, 21), (14, 22), (14, 23), (14, 24), (14, 25), (14, 26)] [160, 161, 162, 163, 164, 165, 166, 167, 168, 169, 175, 176, 177, 178, 180, 182, 183, 184, 185, 186, 187, 188, 189, 190, 191, 192, 193, 194, 195, 196, 197, 198, 199, 200, 201, 202, 203, 204, 205, 206, 207, 208, 209, 210, 213, 214] f H locs [(14, 8, a0_, .int g52_14_8_a0_), (12, 26, q0_, .ref g52_12_26_q0_), (12, 22, q0_, .ref g52_12_22_q0_), (14, 2, a0_, .ref q0_), (14, 16, a0_, .int o_), (14, 25, a0_, .int op_), (14, 10, a0_, .int t_), (14, 17, a0_, .int me_)] → isV f q0_ V_ → FR L kd f0 f q0_ → cEq f a0_ (cF f0 a0_) → ((V_.i 22 me_.toNatClampNeg).toInt ≤ 7) → lv_has ls 5 [(0, .ref a0_)] → W p l e ({ frames := 487, cells := K_, slots := 3 * K_, locals := 28408 } : Room) s m [.ref a0_].toArray below meth c H locs cl_0 (3 * cl_0) Q (F0 m 52 ls []) := by
    intro g52_14_8_a0_ g52_12_26_q0_ g52_12_22_q0_ f H locs ls bg52_14_8_a0_ mg52_12_26_q0_ kg52_12_26_q0_ mg52_12_22_q0_ kg52_12_22_q0_ g hJ52_V_q0_ hJ52_F_q0_ hJ52_C_a0_ hm52 hl
    refine lv_aload_n hx hb dX14_readMark_52 rfl (lv_at hl 0 rfl) ?_
    refine g_geti (C := RX14) (T := TX14) (N := 67) hx hb hts (mc_ inX14) hown hK g ma0_ ka0_ (by decide) rfl 7 (by decide) rfl (hts _ (List.mem_cons_of_mem _ t_2153)) (fun _ h9 => h9) rfl dX14_readMark_53 (fun x_2 bx_2 g => ?_)
    refine lv_istore_n (lv' := [(1, .int x_2), (0, .ref a0_)]) hx hb dX14_readMark_56 rfl hl (by decide) rfl (fun ls hl => ?_)
    refine lv_bipush (v := 8) hx hb dX14_readMark_57 (by decide) ?_
    refine lv_aload_n hx hb dX14_readMark_59 rfl (lv_at hl 1 rfl) ?_
    refine g_getk (C := RX14) (T := TX14) (N := 67) hx hb hts (mc_ inX14) hown hK g rfl 17 (by decide) rfl (hts _ (List.mem_cons_of_mem _ t_2163)) (fun _ h9 => h9) 8 rfl dX14_readMark_60 ?_
    refine lv_imul hx hb dX14_readMark_63 ?_
    refine lv_topi (fun y_3 ey_3 => ?_)
    have ty_3 := cmul_bd ey_3 (c := 8) (by decide) bme_ (by decide)
    have b_4 : bd 0 872 y_3 := mulc_rg ty_3 bme_ (by decide)
    refine lv_aload_n hx hb dX14_readMark_64 rfl (lv_at hl 1 rfl) ?_
    refine g_getk (C := RX14) (T := TX14) (N := 67) hx hb hts (mc_ inX14) hown hK g rfl 2 (by decide) rfl (hts _ (List.mem_cons_of_mem _ t_2148)) (fun _ h9 => h9) 4 rfl dX14_readMark_65 ?_
    refine g_getk (C := RX12) (T := TX12) (N := 60) hx hb hts (mc_ inX12) hown hK g rfl 22 (by decide) rfl (hts _ (List.mem_cons_of_mem _ t_1950)) (fun _ h9 => h9) 3 rfl dX14_readMark_68 ?_
    refine lv_aload_n hx hb dX14_readMark_71 rfl (lv_at hl 1 rfl) ?_
    refine g_getk (C := RX14) (T := TX14) (N := 67) hx hb hts (mc_ inX14) hown hK g rfl 17 (by decide) rfl (hts _ (List.mem_cons_of_mem _ t_2163)) (fun _ h9 => h9) 8 rfl dX14_readMark_72 ?_
    refine g_iald hx hb hK g mg52_12_22_q0_ kg52_12_22_q0_ (by decide) rfl (in_bd bme_ (by decide)) dX14_readMark_75 (fun x_5 bx_5 cx_5 => ?_)
    have vx_5 : x_5 = V_.i 22 me_.toNatClampNeg := hJ52_V_q0_.at g 3 rfl rfl cx_5
    have b_6 : bd 0 7 x_5 := ⟨bx_5.1, (by rw [vx_5]; exact hm52)⟩
    refine lv_iadd hx hb dX14_readMark_76 ?_
    refine lv_topi (fun y_7 ey_7 => ?_)
    have ty_7 := add_bd ey_7 b_4 b_6 (by decide)
    have b_8 : bd 0 879 y_7 := add_rg ty_7 b_4 b_6 (by decide)
    refine lv_istore_n (lv' := [(2, .int y_7), (1, .int x_2), (0, .ref a0_)]) hx hb dX14_readMark_77 rfl hl (by decide) rfl (fun ls hl => ?_)
    have join_9 : ∀ (f : Nat → va_E) (H : Heap) (locs : List Loc) (ls : Array Slot), G3 (dC, dI) L kd tys s f0 [(12, 46), (12, 57), (12, 58), (14, 6), (14, 7), (14, 8), (14, 9), (14, 10), (14, 11), (14, 12), (14, 13), (14, 14), (14, 15), (14, 20), (14, 21), (14, 22), (14, 23), (14, 24), (14, 25), (14, 26)] [160, 161, 162, 163, 164, 165, 166, 167, 168, 169, 175, 176, 177, 178, 180, 182, 183, 184, 185, 186, 187, 188, 189, 190, 191, 192, 193, 194, 195, 196, 197, 198, 199, 200, 201, 202, 203, 204, 205, 206, 207, 208, 209, 210, 213, 214] f H locs [(14, 7, a0_, .int x_2), (14, 8, a0_, .int g52_14_8_a0_), (12, 26, q0_, .ref g52_12_26_q0_), (12, 22, q0_, .ref g52_12_22_q0_), (14, 2, a0_, .ref q0_), (14, 16, a0_, .int o_), (14, 25, a0_, .int op_), (14, 10, a0_, .int t_), (14, 17, a0_, .int me_)] → isV f q0_ V_ → FR L kd f0 f q0_ → cEq f a0_ (cF f0 a0_) → lv_has ls 5 [(2, .int y_7), (1, .int x_2), (0, .ref a0_)] → W p l e ({ frames := 487, cells := K_, slots := 3 * K_, locals := 28408 } : Room) s m [.ref a0_].toArray below meth c H locs cl_0 (3 * cl_0) Q (F0 m 130 ls []) := by
      intro  f H locs ls  g hJ130_V_q0_ hJ130_F_q0_ hJ130_C_a0_ hl
      refine lv_aload_n hx hb dX14_readMark_130 rfl (lv_at hl 2 rfl) ?_
      have go_ := g
      refine g_callEv (As := []) (rest := []) ⟨hx, hb, hml, hown, hts⟩ (r_X14_next_2 l dC dI L kd tys f H.size g.2.2.2.1 adK adV a0_ ma0_ ka0_ t_ bt_ (g.fcts [7] rfl)) (cwV 0 hts (gV_ t_2411 t_2413 t_102 t_198 t_2414) rfl rfl rfl (by decide +kernel) ⟨(Nat.le_of_ble_eq_true rfl), (Nat.le_of_ble_eq_true rfl)⟩) (pre3VA g hK hAm ma0_ ka0_ (by decide) (q := (RX14, TX14, 67)) rfl) rfl hl.1 rfl (lv_room (Nat.le_of_ble_eq_true rfl)) dX14_readMark_131 (cl_f hck_0) g hK (by decide) (by decide) (fx' := [(12, 26, q0_, .ref g52_12_26_q0_), (12, 22, q0_, .ref g52_12_22_q0_), (14, 2, a0_, .ref q0_), (14, 16, a0_, .int o_), (14, 25, a0_, .int op_), (14, 17, a0_, .int me_)]) rfl (fun xr_10 fr_10 H locs mxr_10 kxr_10 hp hMr_10 g => ?_) (fun fr_10 H locs hp hMr_10 g => ?_)
      · have hG_11 := isV.frame hMr_10 go_.2.2.2.1 mq0_ kq0_ (by decide) (by decide) hJ130_V_q0_
        have hG_12 := FR.frame hMr_10 go_.2.2.2.1 mq0_ kq0_ (by decide) (by decide) hJ130_F_q0_
        subst hQ
        exact leavesX hempty hlocks (fun t ht hW => g_thrZ g hK mxr_10 kxr_10 ⟨hG_12, (by omega)⟩ ht hW) g.2.2.1.2.2
      · obtain ⟨hx_13, h_14, x_15, h_16, hF_17⟩ := hp
        have hG_18 := isV.frame hMr_10 go_.2.2.2.1 mq0_ kq0_ (by decide) (by decide) hJ130_V_q0_
        have hG_19 := FR.frame hMr_10 go_.2.2.2.1 mq0_ kq0_ (by decide) (by decide) hJ130_F_q0_
        obtain ⟨E_20, hE_20⟩ : ∃ E : Int, cEq fr_10 a0_ E := ⟨_, rfl⟩
        have mxE_20 : E_20 ≤ 1202 := by have h9 := cF_le g ma0_ ka0_; have h8 : cF _ _ = _ := hE_20; omega
        have lE_20 : (cF f0 a0_) ≤ E_20 := by have h9 := hx_13; have h8 : cF _ _ = _ := hE_20; have h7 : cF _ _ = _ := hJ130_C_a0_; have h6 := sE_bd (f := f) (t := a0_); have h5 := tk_c (f := f) (t := a0_); omega
        have b_21 : bd 0 1200 t_ := eqX rfl bt_ h_14 (by decide)
        have g := g.more hF_17
        refine lv_iload_n hx hb dX14_readMark_134 rfl (lv_at hl 1 rfl) ?_
        refine lv_bipush (v := 11) hx hb dX14_readMark_135 (by decide) ?_
        have kb_11 : bd 11 11 (11 : Int32) := ⟨by decide, by decide⟩
        refine lv_icmp_ne (tgt := 160) hx hb dX14_readMark_137 (by decide) (fun c_22 => ?_) (fun c_22 => ?_)
        · have fc_22 := neq_f c_22
          refine lv_aload_n hx hb dX14_readMark_160 rfl (lv_at hl 2 rfl) ?_
          refine g_getk (C := RX14) (T := TX14) (N := 67) hx hb hts (mc_ inX14) hown hK g rfl 2 (by decide) rfl (hts _ (List.mem_cons_of_mem _ t_2148)) (fun _ h9 => h9) 3 rfl dX14_readMark_161 ?_
          refine g_getr (K := 184) (C := RX12) (T := TX12) (N := 60) hx hb hts (mc_ inX12) hown hK g mq0_ kq0_ (by decide) rfl 29 (by decide) rfl (hts _ (List.mem_cons_of_mem _ t_1963)) (fun _ h9 => h9) rfl dX14_readMark_164 (fun a_23 ma_23 ka_23 g => ?_)
          refine lv_iload_n hx hb dX14_readMark_167 rfl (lv_at hl 0 rfl) ?_
          refine lv_iconst (v := (-1)) hx hb dX14_readMark_168 (by decide) ?_
          have hb_24 : ∀ c : Nat, c < 110 → (V_.i 22 c).toInt ≤ 8 := (fun c hc => (isV.rng hG_18 g mq0_ kq0_ (j := 22) (K := 178) (by decide) rfl (by decide) rfl hc).2)
          have gp_25 := g
          have kb_m1 : bd (-1) (-1) ((-1) : Int32) := ⟨by decide, by decide⟩
          have go_ := g
          refine g_iastX hx hb hK g ma_23 ka_23 (by decide) rfl (in_bd b_8 (by decide)) (bd_sub kb_m1 (by decide)) (by decide) dX14_readMark_169 (fun f H locs hM_26 u_28 g => ?_)
          have hG_27 := cEq.frame hM_26 go_.2.2.2.1 ma0_ ka0_ (by decide) (by decide) hE_20
          have hV_29 := isV.ui hG_18 gp_25 0 rfl mq0_ kq0_ rfl u_28
          have hF_30 := FR.arr hG_19 gp_25 0 rfl mq0_ kq0_ rfl rfl u_28.1
          have hki_31 : KI (V_.ui 29 y_7.toNatClampNeg ((-1) : Int32)) δ_ o_.toNatClampNeg := KI.u28 (a := me_.toNatClampNeg) hki_0 (by decide) hb_24 (by rw [← (show x_5 = V_.i 22 me_.toNatClampNeg from vx_5)]; exact b_6.1) (by rw [← (show x_5 = V_.i 22 me_.toNatClampNeg from vx_5), tnZ (by have h9_0 := bg52_14_8_a0_; unfold bd at h9_0; have h9_1 := bme_; unfold bd at h9_1; have h9_2 := bo_; unfold bd at h9_2; have h9_3 := bop_; unfold bd at h9_3; have h9_4 := b_21; unfold bd at h9_4; have h9_5 := h_16; unfold bd at h9_5; have h9_6 := b_6; unfold bd at h9_6; have h9_7 := b_4; unfold bd at h9_7; have h9_8 := b_8; unfold bd at h9_8; have h8_0 := kb_11; unfold bd at h8_0; have h8_1 := kb_m1; unfold bd at h8_1; omega), tnZ bme_.1]; have h9_0 := bg52_14_8_a0_; unfold bd at h9_0; have h9_1 := bme_; unfold bd at h9_1; have h9_2 := bo_; unfold bd at h9_2; have h9_3 := bop_; unfold bd at h9_3; have h9_4 := b_21; unfold bd at h9_4; have h9_5 := h_16; unfold bd at h9_5; have h9_6 := b_6; unfold bd at h9_6; have h9_7 := b_4; unfold bd at h9_7; have h9_8 := b_8; unfold bd at h9_8; have h8_0 := kb_11; unfold bd at h8_0; have h8_1 := kb_m1; unfold bd at h8_1; omega) (by rw [← (show x_5 = V_.i 22 me_.toNatClampNeg from vx_5)]; have h9_0 := bg52_14_8_a0_; unfold bd at h9_0; have h9_1 := bme_; unfold bd at h9_1; have h9_2 := bo_; unfold bd at h9_2; have h9_3 := bop_; unfold bd at h9_3; have h9_4 := b_21; unfold bd at h9_4; have h9_5 := h_16; unfold bd at h9_5; have h9_6 := b_6; unfold bd at h9_6; have h9_7 := b_4; unfold bd at h9_7; have h9_8 := b_8; unfold bd at h9_8; have h8_0 := kb_11; unfold bd at h8_0; have h8_1 := kb_m1; unfold bd at h8_1; omega)
          have q_32 : (V_.ui 29 y_7.toNatClampNeg ((-1) : Int32)).i 29 y_7.toNatClampNeg = ((-1) : Int32) := ui_same
          refine lv_aload_n hx hb dX14_readMark_170 rfl (lv_at hl 2 rfl) ?_
          refine g_getk (C := RX14) (T := TX14) (N := 67) hx hb hts (mc_ inX14) hown hK g rfl 2 (by decide) rfl (hts _ (List.mem_cons_of_mem _ t_2148)) (fun _ h9 => h9) 4 rfl dX14_readMark_171 ?_
          refine g_getr (K := 185) (C := RX12) (T := TX12) (N := 60) hx hb hts (mc_ inX12) hown hK g mq0_ kq0_ (by decide) rfl 30 (by decide) rfl (hts _ (List.mem_cons_of_mem _ t_1965)) (fun _ h9 => h9) rfl dX14_readMark_174 (fun a_33 ma_33 ka_33 g => ?_)
          refine lv_iload_n hx hb dX14_readMark_177 rfl (lv_at hl 0 rfl) ?_
          refine lv_aload_n hx hb dX14_readMark_178 rfl (lv_at hl 2 rfl) ?_
          refine g_geti (C := RX14) (T := TX14) (N := 67) hx hb hts (mc_ inX14) hown hK g ma0_ ka0_ (by decide) rfl 8 (by decide) rfl (hts _ (List.mem_cons_of_mem _ t_2154)) (fun _ h9 => h9) rfl dX14_readMark_179 (fun x_34 bx_34 g => ?_)
          have gp_36 := g
          have go_ := g
          refine g_iastX hx hb hK g ma_33 ka_33 (by decide) rfl (in_bd b_8 (by decide)) (bd_sub bx_34 (by decide)) (by decide) dX14_readMark_182 (fun f H locs hM_37 u_39 g => ?_)
          have hG_38 := cEq.frame hM_37 go_.2.2.2.1 ma0_ ka0_ (by decide) (by decide) hG_27
          have hV_40 := isV.ui hV_29 gp_36 1 rfl mq0_ kq0_ rfl u_39
          have hF_41 := FR.arr hF_30 gp_36 1 rfl mq0_ kq0_ rfl rfl u_39.1
          have hki_42 : KI ((V_.ui 29 y_7.toNatClampNeg ((-1) : Int32)).ui 30 y_7.toNatClampNeg x_34) δ_ o_.toNatClampNeg := KI.ui_ hki_31 (by decide)
          refine lv_aload_n hx hb dX14_readMark_183 rfl (lv_at hl 2 rfl) ?_
          refine g_getk (C := RX14) (T := TX14) (N := 67) hx hb hts (mc_ inX14) hown hK g rfl 2 (by decide) rfl (hts _ (List.mem_cons_of_mem _ t_2148)) (fun _ h9 => h9) 6 rfl dX14_readMark_184 ?_
          refine g_getr (K := 186) (C := RX12) (T := TX12) (N := 60) hx hb hts (mc_ inX12) hown hK g mq0_ kq0_ (by decide) rfl 31 (by decide) rfl (hts _ (List.mem_cons_of_mem _ t_1967)) (fun _ h9 => h9) rfl dX14_readMark_187 (fun a_43 ma_43 ka_43 g => ?_)
          refine lv_iload_n hx hb dX14_readMark_190 rfl (lv_at hl 0 rfl) ?_
          refine lv_iconst (v := 0) hx hb dX14_readMark_191 (by decide) ?_
          have gp_45 := g
          have kb_0 : bd 0 0 (0 : Int32) := ⟨by decide, by decide⟩
          have go_ := g
          refine g_iastX hx hb hK g ma_43 ka_43 (by decide) rfl (in_bd b_8 (by decide)) (bd_sub kb_0 (by decide)) (by decide) dX14_readMark_192 (fun f H locs hM_46 u_48 g => ?_)
          have hG_47 := cEq.frame hM_46 go_.2.2.2.1 ma0_ ka0_ (by decide) (by decide) hG_38
          have hV_49 := isV.ui hV_40 gp_45 0 rfl mq0_ kq0_ rfl u_48
          have hF_50 := FR.arr hF_41 gp_45 0 rfl mq0_ kq0_ rfl rfl u_48.1
          have hki_51 : KI (((V_.ui 29 y_7.toNatClampNeg ((-1) : Int32)).ui 30 y_7.toNatClampNeg x_34).ui 31 y_7.toNatClampNeg (0 : Int32)) δ_ o_.toNatClampNeg := KI.ui_ hki_42 (by decide)
          refine lv_aload_n hx hb dX14_readMark_193 rfl (lv_at hl 2 rfl) ?_
          refine lv_iconst (v := 1) hx hb dX14_readMark_194 (by decide) ?_
          have kb_1 : bd 1 1 (1 : Int32) := ⟨by decide, by decide⟩
          have go_ := g
          refine g_put (C := RX14) (T := TX14) (N := 67) hx hb hts (mc_ inX14) tyX14 tyX14_ok nmX14 hown hK g ma0_ ka0_ (by decide) rfl 22 (by decide) (hts _ (List.mem_cons_of_mem _ t_2168)) (fun _ h9 => h9) rfl rfl (okV_i (bd_sub kb_1 (by decide))) rfl rfl (by decide) (Or.inr (Or.inl (by decide))) (fx' := [(12, 31, q0_, .ref a_43), (14, 8, a0_, .int x_34), (12, 30, q0_, .ref a_33), (12, 29, q0_, .ref a_23), (14, 10, a0_, .int x_15), (12, 26, q0_, .ref g52_12_26_q0_), (12, 22, q0_, .ref g52_12_22_q0_), (14, 2, a0_, .ref q0_), (14, 16, a0_, .int o_), (14, 25, a0_, .int op_), (14, 17, a0_, .int me_)]) rfl dX14_readMark_195 (fun f H locs hM_52 g => ?_)
          have hG_53 := cEq.frame hM_52 go_.2.2.2.1 ma0_ ka0_ (by decide) (by decide) hG_47
          have hG_54 := isV.frame hM_52 go_.2.2.2.1 mq0_ kq0_ (by decide) (by decide) hV_49
          have hG_55 := FR.frame hM_52 go_.2.2.2.1 mq0_ kq0_ (by decide) (by decide) hF_50
          refine lv_iload_n hx hb dX14_readMark_198 rfl (lv_at hl 1 rfl) ?_
          refine lv_bipush (v := 6) hx hb dX14_readMark_199 (by decide) ?_
          have kb_6 : bd 6 6 (6 : Int32) := ⟨by decide, by decide⟩
          refine lv_icmp_eq (tgt := 210) hx hb dX14_readMark_201 (by decide) (fun c_56 => ?_) (fun c_56 => ?_)
          · have fc_56 := eq_f c_56
            have b_57 : bd 6 6 x_2 := eqX fc_56 (bdT x_2) kb_6 (by decide)
            refine lv_aload_n hx hb dX14_readMark_210 rfl (lv_at hl 2 rfl) ?_
            refine g_getk (C := RX14) (T := TX14) (N := 67) hx hb hts (mc_ inX14) hown hK g rfl 2 (by decide) rfl (hts _ (List.mem_cons_of_mem _ t_2148)) (fun _ h9 => h9) 8 rfl dX14_readMark_211 ?_
            refine g_getr (K := 183) (C := RX12) (T := TX12) (N := 60) hx hb hts (mc_ inX12) hown hK g mq0_ kq0_ (by decide) rfl 28 (by decide) rfl (hts _ (List.mem_cons_of_mem _ t_1961)) (fun _ h9 => h9) rfl dX14_readMark_214 (fun a_58 ma_58 ka_58 g => ?_)
            refine lv_iload_n hx hb dX14_readMark_217 rfl (lv_at hl 0 rfl) ?_
            refine lv_iload_n hx hb dX14_readMark_218 rfl (lv_at hl 1 rfl) ?_
            refine lv_bipush (v := 6) hx hb dX14_readMark_219 (by decide) ?_
            refine lv_icmp_ne (tgt := 228) hx hb dX14_readMark_221 (by decide) (fun c_59 => ?_) (fun c_59 => ?_)
            · have fc_59 := neq_f c_59
              have b_60 : bd 7 5 x_2 := neX fc_59 b_57 kb_6 (by decide)
              exact bd_no b_60 (by decide)
            · have fc_59 := eq_f c_59
              refine lv_iconst (v := 1) hx hb dX14_readMark_224 (by decide) ?_
              refine lv_goto (tgt := 229) hx hb dX14_readMark_225 (by decide) ?_
              have hb_61 : ∀ c : Nat, c < 110 → ((((V_.ui 29 y_7.toNatClampNeg ((-1) : Int32)).ui 30 y_7.toNatClampNeg x_34).ui 31 y_7.toNatClampNeg (0 : Int32)).i 22 c).toInt ≤ 8 := (fun c hc => (isV.rng hG_54 g mq0_ kq0_ (j := 22) (K := 178) (by decide) rfl (by decide) rfl hc).2)
              have gp_62 := g
              have go_ := g
              refine g_iastX hx hb hK g ma_58 ka_58 (by decide) rfl (in_bd b_8 (by decide)) (bd_sub kb_1 (by decide)) (by decide) dX14_readMark_229 (fun f H locs hM_63 u_65 g => ?_)
              have hG_64 := cEq.frame hM_63 go_.2.2.2.1 ma0_ ka0_ (by decide) (by decide) hG_53
              have hV_66 := isV.ui hG_54 gp_62 0 rfl mq0_ kq0_ rfl u_65
              have hF_67 := FR.arr hG_55 gp_62 0 rfl mq0_ kq0_ rfl rfl u_65.1
              have hki_68 : KI ((((V_.ui 29 y_7.toNatClampNeg ((-1) : Int32)).ui 30 y_7.toNatClampNeg x_34).ui 31 y_7.toNatClampNeg (0 : Int32)).ui 28 y_7.toNatClampNeg (1 : Int32)) δ_ o_.toNatClampNeg := KI.u28 (a := me_.toNatClampNeg) hki_51 (by decide) hb_61 (by rw [← (show x_5 = (((V_.ui 29 y_7.toNatClampNeg ((-1) : Int32)).ui 30 y_7.toNatClampNeg x_34).ui 31 y_7.toNatClampNeg (0 : Int32)).i 22 me_.toNatClampNeg from vx_5)]; exact b_6.1) (by rw [← (show x_5 = (((V_.ui 29 y_7.toNatClampNeg ((-1) : Int32)).ui 30 y_7.toNatClampNeg x_34).ui 31 y_7.toNatClampNeg (0 : Int32)).i 22 me_.toNatClampNeg from vx_5), tnZ (by have h9_0 := bg52_14_8_a0_; unfold bd at h9_0; have h9_1 := bme_; unfold bd at h9_1; have h9_2 := bo_; unfold bd at h9_2; have h9_3 := bop_; unfold bd at h9_3; have h9_4 := b_21; unfold bd at h9_4; have h9_5 := h_16; unfold bd at h9_5; have h9_6 := b_57; unfold bd at h9_6; have h9_7 := bx_34; unfold bd at h9_7; have h9_8 := b_6; unfold bd at h9_8; have h9_9 := b_4; unfold bd at h9_9; have h9_10 := b_8; unfold bd at h9_10; have h8_0 := kb_0; unfold bd at h8_0; have h8_1 := kb_1; unfold bd at h8_1; have h8_2 := kb_11; unfold bd at h8_2; have h8_3 := kb_6; unfold bd at h8_3; have h8_4 := kb_m1; unfold bd at h8_4; omega), tnZ bme_.1]; have h9_0 := bg52_14_8_a0_; unfold bd at h9_0; have h9_1 := bme_; unfold bd at h9_1; have h9_2 := bo_; unfold bd at h9_2; have h9_3 := bop_; unfold bd at h9_3; have h9_4 := b_21; unfold bd at h9_4; have h9_5 := h_16; unfold bd at h9_5; have h9_6 := b_57; unfold bd at h9_6; have h9_7 := bx_34; unfold bd at h9_7; have h9_8 := b_6; unfold bd at h9_8; have h9_9 := b_4; unfold bd at h9_9; have h9_10 := b_8; unfold bd at h9_10; have h8_0 := kb_0; unfold bd at h8_0; have h8_1 := kb_1; unfold bd at h8_1; have h8_2 := kb_11; unfold bd at h8_2; have h8_3 := kb_6; unfold bd at h8_3; have h8_4 := kb_m1; unfold bd at h8_4; omega) (by rw [← (show x_5 = (((V_.ui 29 y_7.toNatClampNeg ((-1) : Int32)).ui 30 y_7.toNatClampNeg x_34).ui 31 y_7.toNatClampNeg (0 : Int32)).i 22 me_.toNatClampNeg from vx_5)]; have h9_0 := bg52_14_8_a0_; unfold bd at h9_0; have h9_1 := bme_; unfold bd at h9_1; have h9_2 := bo_; unfold bd at h9_2; have h9_3 := bop_; unfold bd at h9_3; have h9_4 := b_21; unfold bd at h9_4; have h9_5 := h_16; unfold bd at h9_5; have h9_6 := b_57; unfold bd at h9_6; have h9_7 := bx_34; unfold bd at h9_7; have h9_8 := b_6; unfold bd at h9_8; have h9_9 := b_4; unfold bd at h9_9; have h9_10 := b_8; unfold bd at h9_10; have h8_0 := kb_0; unfold bd at h8_0; have h8_1 := kb_1; unfold bd at h8_1; have h8_2 := kb_11; unfold bd at h8_2; have h8_3 := kb_6; unfold bd at h8_3; have h8_4 := kb_m1; unfold bd at h8_4; omega)
              have q_69 : ((((V_.ui 29 y_7.toNatClampNeg ((-1) : Int32)).ui 30 y_7.toNatClampNeg x_34).ui 31 y_7.toNatClampNeg (0 : Int32)).ui 28 y_7.toNatClampNeg (1 : Int32)).i 28 y_7.toNatClampNeg = (1 : Int32) := ui_same
              refine lv_aload_n hx hb dX14_readMark_230 rfl (lv_at hl 2 rfl) ?_
              refine lv_iload_n hx hb dX14_readMark_231 rfl (lv_at hl 1 rfl) ?_
              refine lv_bipush (v := 7) hx hb dX14_readMark_232 (by decide) ?_
              have kb_7 : bd 7 7 (7 : Int32) := ⟨by decide, by decide⟩
              refine lv_icmp_ne (tgt := 241) hx hb dX14_readMark_234 (by decide) (fun c_70 => ?_) (fun c_70 => ?_)
              · have fc_70 := neq_f c_70
                refine lv_iconst (v := 0) hx hb dX14_readMark_241 (by decide) ?_
                have go_ := g
                refine g_put (C := RX14) (T := TX14) (N := 67) hx hb hts (mc_ inX14) tyX14 tyX14_ok nmX14 hown hK g ma0_ ka0_ (by decide) rfl 23 (by decide) (hts _ (List.mem_cons_of_mem _ t_2169)) (fun _ h9 => h9) rfl rfl (okV_i (bd_sub kb_0 (by decide))) rfl rfl (by decide) (Or.inr (Or.inl (by decide))) (fx' := [(12, 28, q0_, .ref a_58), (14, 22, a0_, .int 1), (12, 31, q0_, .ref a_43), (14, 8, a0_, .int x_34), (12, 30, q0_, .ref a_33), (12, 29, q0_, .ref a_23), (14, 10, a0_, .int x_15), (12, 26, q0_, .ref g52_12_26_q0_), (12, 22, q0_, .ref g52_12_22_q0_), (14, 2, a0_, .ref q0_), (14, 16, a0_, .int o_), (14, 25, a0_, .int op_), (14, 17, a0_, .int me_)]) rfl dX14_readMark_242 (fun f H locs hM_71 g => ?_)
                have hG_72 := cEq.frame hM_71 go_.2.2.2.1 ma0_ ka0_ (by decide) (by decide) hG_64
                have hG_73 := isV.frame hM_71 go_.2.2.2.1 mq0_ kq0_ (by decide) (by decide) hV_66
                have hG_74 := FR.frame hM_71 go_.2.2.2.1 mq0_ kq0_ (by decide) (by decide) hF_67
                refine lv_aload_n hx hb dX14_readMark_245 rfl (lv_at hl 2 rfl) ?_
                refine g_getk (C := RX14) (T := TX14) (N := 67) hx hb hts (mc_ inX14) hown hK g rfl 2 (by decide) rfl (hts _ (List.mem_cons_of_mem _ t_2148)) (fun _ h9 => h9) 10 rfl dX14_readMark_246 ?_
                refine g_getk (C := RX12) (T := TX12) (N := 60) hx hb hts (mc_ inX12) hown hK g rfl 29 (by decide) rfl (hts _ (List.mem_cons_of_mem _ t_1963)) (fun _ h9 => h9) 6 rfl dX14_readMark_249 ?_
                refine lv_iload_n hx hb dX14_readMark_252 rfl (lv_at hl 0 rfl) ?_
                refine lv_aload_n hx hb dX14_readMark_253 rfl (lv_at hl 2 rfl) ?_
                have qc__75 : cF f a0_ = _ := hG_72
                have qn__76 : (((((V_.ui 29 y_7.toNatClampNeg ((-1) : Int32)).ui 30 y_7.toNatClampNeg x_34).ui 31 y_7.toNatClampNeg (0 : Int32)).ui 28 y_7.toNatClampNeg (1 : Int32)).n 57).toInt = (V_.n 57).toInt ∧ (((((V_.ui 29 y_7.toNatClampNeg ((-1) : Int32)).ui 30 y_7.toNatClampNeg x_34).ui 31 y_7.toNatClampNeg (0 : Int32)).ui 28 y_7.toNatClampNeg (1 : Int32)).n 46).toInt = (V_.n 46).toInt := ⟨rfl, rfl⟩
                have qc__77 : cF f a0_ = _ := hG_72
                have go_ := g
                refine g_callZi (As := []) (rest := [.int y_7, .ref a_23]) ⟨hx, hb, hml, hown, hts⟩ (r_X14_readEx l dC dI L kd tys f H.size g.2.2.2.1 adK adV a0_ ma0_ ka0_ q0_ mq0_ kq0_ ((((V_.ui 29 y_7.toNatClampNeg ((-1) : Int32)).ui 30 y_7.toNatClampNeg x_34).ui 31 y_7.toNatClampNeg (0 : Int32)).ui 28 y_7.toNatClampNeg (1 : Int32)) o_ bo_ op_ bop_ x_15 h_16 hG_73 hki_68.1.1 (by have h9 := hki_68.2.2.2; omega) (by omega) (K_ - cl_0) (by omega) (g.fcts [10, 11, 12, 7] rfl)) (cwV 0 hts (gV_ t_2460 t_2462 t_112 t_198 t_2463) rfl rfl rfl (by decide +kernel) ⟨(Nat.le_of_ble_eq_true rfl), (Nat.le_of_ble_eq_true rfl)⟩) (pre3VA g hK hAm ma0_ ka0_ (by decide) (q := (RX14, TX14, 67)) rfl) rfl hl.1 rfl (lv_room (Nat.le_of_ble_eq_true rfl)) dX14_readMark_254 (cl_k (K := K_) (k := K_ - cl_0) (show cl_0 + (K_ - cl_0) ≤ K_ by omega)) g hK (by decide) (by decide) (fx' := [(14, 23, a0_, .int 0), (12, 28, q0_, .ref a_58), (14, 22, a0_, .int 1), (12, 31, q0_, .ref a_43), (12, 30, q0_, .ref a_33), (12, 29, q0_, .ref a_23), (12, 26, q0_, .ref g52_12_26_q0_), (12, 22, q0_, .ref g52_12_22_q0_), (14, 2, a0_, .ref q0_), (14, 16, a0_, .int o_), (14, 17, a0_, .int me_)]) rfl (fun xr_78 fr_78 H locs kr_78 cr_78 ecr_78 mxr_78 kxr_78 hp hMr_78 g => ?_) (fun r_78 fr_78 H locs kr_78 cr_78 ecr_78 hp hMr_78 g => ?_)
                · have hF_79 := FR.call (mds := []) (mas := []) hG_74 go_ mq0_ kq0_ rfl hp.1
                  have hpk := hp.2
                  subst hQ
                  exact leavesX hempty hlocks (fun t ht hW => g_thrZ g hK mxr_78 kxr_78 ⟨hF_79, (by omega)⟩ ht hW) g.2.2.1.2.2
                · obtain ⟨hx_80, x_81, h_82, hF_83⟩ := hp
                  obtain ⟨V_84, E_85, hV_86, hF_87, hE_88, hX_89, hw_90, hv_91, hP_92, hn_93, hk_94, hc_95⟩ := rd_use hx_80 hG_72
                  have hF_96 := FR.call (mds := []) (mas := []) hG_74 go_ mq0_ kq0_ rfl hF_87
                  have mxE_85 : E_85 ≤ 1202 := by have h9 := cF_le g ma0_ ka0_; have h8 : cF _ _ = _ := hE_88; omega
                  have hki_97 := KI.nodes hki_68 hX_89 hw_90 (by omega)
                  have hki_97n : (V_84.n 46).toInt = (((((V_.ui 29 y_7.toNatClampNeg ((-1) : Int32)).ui 30 y_7.toNatClampNeg x_34).ui 31 y_7.toNatClampNeg (0 : Int32)).ui 28 y_7.toNatClampNeg (1 : Int32)).n 46).toInt := by rw [exN.n46 hX_89]
                  have hq_98 : x_5 = V_84.i 22 me_.toNatClampNeg := vx_5.trans (congrFun ((hX_89).1 22 (by decide) (by decide)) _).symm
                  have p18_99 : V_84.i 18 = V_.i 18 := ((hX_89).1 18 (by decide) (by decide)).trans (show ((((V_.ui 29 y_7.toNatClampNeg ((-1) : Int32)).ui 30 y_7.toNatClampNeg x_34).ui 31 y_7.toNatClampNeg (0 : Int32)).ui 28 y_7.toNatClampNeg (1 : Int32)).i 18 = V_.i 18 from p18_0)
                  have p27_100 : V_84.n 27 = V_.n 27 := ((hX_89).2.2.1 27 (by decide)).trans (show ((((V_.ui 29 y_7.toNatClampNeg ((-1) : Int32)).ui 30 y_7.toNatClampNeg x_34).ui 31 y_7.toNatClampNeg (0 : Int32)).ui 28 y_7.toNatClampNeg (1 : Int32)).n 27 = V_.n 27 from p27_0)
                  have q_101 : V_84.i 28 y_7.toNatClampNeg = (1 : Int32) := (congrFun ((hX_89).1 28 (by decide) (by decide)) _).trans q_69
                  have q_102 : V_84.i 29 y_7.toNatClampNeg = ((-1) : Int32) := (congrFun ((hX_89).1 29 (by decide) (by decide)) _).trans q_32
                  have hck_103 : cr_78 ≤ K_ := by omega
                  have b_104 : bd 0 2499 r_78 := ⟨hv_91.1, (by have h9 := hv_91.2.1; omega)⟩
                  have g := g.more hF_83
                  have hb_105 : ∀ c : Nat, c < 110 → (V_84.i 22 c).toInt ≤ 8 := (fun c hc => (isV.rng hV_86 g mq0_ kq0_ (j := 22) (K := 178) (by decide) rfl (by decide) rfl hc).2)
                  have gp_106 := g
                  have go_ := g
                  refine g_iastX hx hb hK g ma_23 ka_23 (by decide) rfl (in_bd b_8 (by decide)) (bd_sub b_104 (by decide)) (by decide) dX14_readMark_257 (fun f H locs hM_107 u_109 g => ?_)
                  have hG_108 := cEq.frame hM_107 go_.2.2.2.1 ma0_ ka0_ (by decide) (by decide) hE_88
                  have hV_110 := isV.ui hV_86 gp_106 7 rfl mq0_ kq0_ rfl u_109
                  have hF_111 := FR.arr hF_96 gp_106 7 rfl mq0_ kq0_ rfl rfl u_109.1
                  have hki_112 : KI (V_84.ui 29 y_7.toNatClampNeg r_78) δ_ o_.toNatClampNeg := KI.u28 (a := me_.toNatClampNeg) hki_97 (by decide) hb_105 (by rw [← (show x_5 = V_84.i 22 me_.toNatClampNeg from hq_98)]; exact b_6.1) (by rw [← (show x_5 = V_84.i 22 me_.toNatClampNeg from hq_98), tnZ (by have h9_0 := bg52_14_8_a0_; unfold bd at h9_0; have h9_1 := bme_; unfold bd at h9_1; have h9_2 := bo_; unfold bd at h9_2; have h9_3 := bop_; unfold bd at h9_3; have h9_4 := b_104; unfold bd at h9_4; have h9_5 := b_21; unfold bd at h9_5; have h9_6 := h_16; unfold bd at h9_6; have h9_7 := b_57; unfold bd at h9_7; have h9_8 := bx_34; unfold bd at h9_8; have h9_9 := b_6; unfold bd at h9_9; have h9_10 := h_82; unfold bd at h9_10; have h9_11 := b_4; unfold bd at h9_11; have h9_12 := b_8; unfold bd at h9_12; have h8_0 := kb_0; unfold bd at h8_0; have h8_1 := kb_1; unfold bd at h8_1; have h8_2 := kb_11; unfold bd at h8_2; have h8_3 := kb_6; unfold bd at h8_3; have h8_4 := kb_7; unfold bd at h8_4; have h8_5 := kb_m1; unfold bd at h8_5; omega), tnZ bme_.1]; have h9_0 := bg52_14_8_a0_; unfold bd at h9_0; have h9_1 := bme_; unfold bd at h9_1; have h9_2 := bo_; unfold bd at h9_2; have h9_3 := bop_; unfold bd at h9_3; have h9_4 := b_104; unfold bd at h9_4; have h9_5 := b_21; unfold bd at h9_5; have h9_6 := h_16; unfold bd at h9_6; have h9_7 := b_57; unfold bd at h9_7; have h9_8 := bx_34; unfold bd at h9_8; have h9_9 := b_6; unfold bd at h9_9; have h9_10 := h_82; unfold bd at h9_10; have h9_11 := b_4; unfold bd at h9_11; have h9_12 := b_8; unfold bd at h9_12; have h8_0 := kb_0; unfold bd at h8_0; have h8_1 := kb_1; unfold bd at h8_1; have h8_2 := kb_11; unfold bd at h8_2; have h8_3 := kb_6; unfold bd at h8_3; have h8_4 := kb_7; unfold bd at h8_4; have h8_5 := kb_m1; unfold bd at h8_5; omega) (by rw [← (show x_5 = V_84.i 22 me_.toNatClampNeg from hq_98)]; have h9_0 := bg52_14_8_a0_; unfold bd at h9_0; have h9_1 := bme_; unfold bd at h9_1; have h9_2 := bo_; unfold bd at h9_2; have h9_3 := bop_; unfold bd at h9_3; have h9_4 := b_104; unfold bd at h9_4; have h9_5 := b_21; unfold bd at h9_5; have h9_6 := h_16; unfold bd at h9_6; have h9_7 := b_57; unfold bd at h9_7; have h9_8 := bx_34; unfold bd at h9_8; have h9_9 := b_6; unfold bd at h9_9; have h9_10 := h_82; unfold bd at h9_10; have h9_11 := b_4; unfold bd at h9_11; have h9_12 := b_8; unfold bd at h9_12; have h8_0 := kb_0; unfold bd at h8_0; have h8_1 := kb_1; unfold bd at h8_1; have h8_2 := kb_11; unfold bd at h8_2; have h8_3 := kb_6; unfold bd at h8_3; have h8_4 := kb_7; unfold bd at h8_4; have h8_5 := kb_m1; unfold bd at h8_5; omega)
                  have q_113 : (V_84.ui 29 y_7.toNatClampNeg r_78).i 29 y_7.toNatClampNeg = r_78 := ui_same
                  refine lv_aload_n hx hb dX14_readMark_258 rfl (lv_at hl 2 rfl) ?_
                  refine lv_iconst (v := 0) hx hb dX14_readMark_259 (by decide) ?_
                  have go_ := g
                  refine g_put (C := RX14) (T := TX14) (N := 67) hx hb hts (mc_ inX14) tyX14 tyX14_ok nmX14 hown hK g ma0_ ka0_ (by decide) rfl 23 (by decide) (hts _ (List.mem_cons_of_mem _ t_2169)) (fun _ h9 => h9) rfl rfl (okV_i (bd_sub kb_0 (by decide))) rfl rfl (by decide) (Or.inr (Or.inl (by decide))) (fx' := [(14, 25, a0_, .int op_), (14, 10, a0_, .int x_81), (12, 28, q0_, .ref a_58), (14, 22, a0_, .int 1), (12, 31, q0_, .ref a_43), (12, 30, q0_, .ref a_33), (12, 29, q0_, .ref a_23), (12, 26, q0_, .ref g52_12_26_q0_), (12, 22, q0_, .ref g52_12_22_q0_), (14, 2, a0_, .ref q0_), (14, 16, a0_, .int o_), (14, 17, a0_, .int me_)]) rfl dX14_readMark_260 (fun f H locs hM_114 g => ?_)
                  have hG_115 := cEq.frame hM_114 go_.2.2.2.1 ma0_ ka0_ (by decide) (by decide) hG_108
                  have hG_116 := isV.frame hM_114 go_.2.2.2.1 mq0_ kq0_ (by decide) (by decide) hV_110
                  have hG_117 := FR.frame hM_114 go_.2.2.2.1 mq0_ kq0_ (by decide) (by decide) hF_111
                  refine lv_goto (tgt := 490) hx hb dX14_readMark_263 (by decide) ?_
                  refine lv_aload_n hx hb dX14_readMark_490 rfl (lv_at hl 2 rfl) ?_
                  refine lv_iconst (v := 0) hx hb dX14_readMark_491 (by decide) ?_
                  have go_ := g
                  refine g_put (C := RX14) (T := TX14) (N := 67) hx hb hts (mc_ inX14) tyX14 tyX14_ok nmX14 hown hK g ma0_ ka0_ (by decide) rfl 22 (by decide) (hts _ (List.mem_cons_of_mem _ t_2168)) (fun _ h9 => h9) rfl rfl (okV_i (bd_sub kb_0 (by decide))) rfl rfl (by decide) (Or.inr (Or.inl (by decide))) (fx' := [(14, 23, a0_, .int 0), (14, 25, a0_, .int op_), (14, 10, a0_, .int x_81), (12, 28, q0_, .ref a_58), (12, 31, q0_, .ref a_43), (12, 30, q0_, .ref a_33), (12, 29, q0_, .ref a_23), (12, 26, q0_, .ref g52_12_26_q0_), (12, 22, q0_, .ref g52_12_22_q0_), (14, 2, a0_, .ref q0_), (14, 16, a0_, .int o_), (14, 17, a0_, .int me_)]) rfl dX14_readMark_492 (fun f H locs hM_118 g => ?_)
                  have hG_119 := cEq.frame hM_118 go_.2.2.2.1 ma0_ ka0_ (by decide) (by decide) hG_115
                  have hG_120 := isV.frame hM_118 go_.2.2.2.1 mq0_ kq0_ (by decide) (by decide) hG_116
                  have hG_121 := FR.frame hM_118 go_.2.2.2.1 mq0_ kq0_ (by decide) (by decide) hG_117
                  refine lv_aload_n hx hb dX14_readMark_495 rfl (lv_at hl 2 rfl) ?_
                  refine lv_bipush (v := 59) hx hb dX14_readMark_496 (by decide) ?_
                  have go_ := g
                  refine g_callEv (As := [.int 59]) (rest := []) ⟨hx, hb, hml, hown, hts⟩ (r_X14_sign_2 l dC dI L kd tys f H.size g.2.2.2.1 adK adV a0_ ma0_ ka0_ 59 x_81 h_82 (g.fcts [3] rfl)) (cwV 1 hts (gV_ t_2431 t_2433 t_107 t_198 t_2434) rfl rfl rfl (by decide +kernel) ⟨(Nat.le_of_ble_eq_true rfl), (Nat.le_of_ble_eq_true rfl)⟩) (pre3VA g hK hAm ma0_ ka0_ (by decide) (q := (RX14, TX14, 67)) rfl) rfl hl.1 rfl (lv_room (Nat.le_of_ble_eq_true rfl)) dX14_readMark_498 (cl_f hck_103) g hK (by decide) (by decide) (fx' := [(14, 22, a0_, .int 0), (14, 23, a0_, .int 0), (14, 25, a0_, .int op_), (12, 28, q0_, .ref a_58), (12, 31, q0_, .ref a_43), (12, 30, q0_, .ref a_33), (12, 29, q0_, .ref a_23), (12, 26, q0_, .ref g52_12_26_q0_), (12, 22, q0_, .ref g52_12_22_q0_), (14, 2, a0_, .ref q0_), (14, 16, a0_, .int o_), (14, 17, a0_, .int me_)]) rfl (fun xr_122 fr_122 H locs mxr_122 kxr_122 hp hMr_122 g => ?_) (fun fr_122 H locs hp hMr_122 g => ?_)
                  · have hG_123 := isV.frame hMr_122 go_.2.2.2.1 mq0_ kq0_ (by decide) (by decide) hG_120
                    have hG_124 := FR.frame hMr_122 go_.2.2.2.1 mq0_ kq0_ (by decide) (by decide) hG_121
                    subst hQ
                    exact leavesX hempty hlocks (fun t ht hW => g_thrZ g hK mxr_122 kxr_122 ⟨hG_124, (by omega)⟩ ht hW) g.2.2.1.2.2
                  · obtain ⟨hx_125, h_126, x_127, h_128, hF_129⟩ := hp
                    have hG_130 := isV.frame hMr_122 go_.2.2.2.1 mq0_ kq0_ (by decide) (by decide) hG_120
                    have hG_131 := FR.frame hMr_122 go_.2.2.2.1 mq0_ kq0_ (by decide) (by decide) hG_121
                    obtain ⟨E_132, hE_132⟩ : ∃ E : Int, cEq fr_122 a0_ E := ⟨_, rfl⟩
                    have mxE_132 : E_132 ≤ 1202 := by have h9 := cF_le g ma0_ ka0_; have h8 : cF _ _ = _ := hE_132; omega
                    have lE_132 : E_85 + 1 ≤ E_132 := by have h9 := hx_125; have h8 : cF _ _ = _ := hE_132; have h7 : cF _ _ = _ := hG_119; omega
                    have b_133 : bd 0 1200 x_81 := eqX rfl h_82 h_126 (by decide)
                    have g := g.more hF_129
                    refine lv_aload_n hx hb dX14_readMark_501 rfl (lv_at hl 2 rfl) ?_
                    refine g_getk (C := RX14) (T := TX14) (N := 67) hx hb hts (mc_ inX14) hown hK g rfl 2 (by decide) rfl (hts _ (List.mem_cons_of_mem _ t_2148)) (fun _ h9 => h9) 10 rfl dX14_readMark_502 ?_
                    refine g_getk (C := RX12) (T := TX12) (N := 60) hx hb hts (mc_ inX12) hown hK g rfl 22 (by decide) rfl (hts _ (List.mem_cons_of_mem _ t_1950)) (fun _ h9 => h9) 9 rfl dX14_readMark_505 ?_
                    refine lv_aload_n hx hb dX14_readMark_508 rfl (lv_at hl 2 rfl) ?_
                    refine g_getk (C := RX14) (T := TX14) (N := 67) hx hb hts (mc_ inX14) hown hK g rfl 17 (by decide) rfl (hts _ (List.mem_cons_of_mem _ t_2163)) (fun _ h9 => h9) 12 rfl dX14_readMark_509 ?_
                    refine lv_dup2_11 hx hb dX14_readMark_512 rfl rfl ?_
                    refine g_iald hx hb hK g mg52_12_22_q0_ kg52_12_22_q0_ (by decide) rfl (in_bd bme_ (by decide)) dX14_readMark_513 (fun x_134 bx_134 cx_134 => ?_)
                    have vx_134 : x_134 = (V_84.ui 29 y_7.toNatClampNeg r_78).i 22 me_.toNatClampNeg := hG_130.at g 9 rfl rfl cx_134
                    obtain rfl : x_5 = x_134 := (show x_5 = (V_84.ui 29 y_7.toNatClampNeg r_78).i 22 me_.toNatClampNeg from hq_98).trans vx_134.symm
                    refine lv_iconst (v := 1) hx hb dX14_readMark_514 (by decide) ?_
                    refine lv_iadd hx hb dX14_readMark_515 ?_
                    refine lv_topi (fun y_135 ey_135 => ?_)
                    have ty_135 := add_bd ey_135 b_6 kb_1 (by decide)
                    have b_136 : bd 1 8 y_135 := add_rg ty_135 b_6 kb_1 (by decide)
                    have gp_138 := g
                    have go_ := g
                    refine g_iastX hx hb hK g mg52_12_22_q0_ kg52_12_22_q0_ (by decide) rfl (in_bd bme_ (by decide)) (bd_sub b_136 (by decide)) (by decide) dX14_readMark_516 (fun f H locs hM_139 u_141 g => ?_)
                    have hG_140 := cEq.frame hM_139 go_.2.2.2.1 ma0_ ka0_ (by decide) (by decide) hE_132
                    have hV_142 := isV.ui hG_130 gp_138 9 rfl mq0_ kq0_ rfl u_141
                    have hF_143 := FR.arr hG_131 gp_138 9 rfl mq0_ kq0_ rfl rfl u_141.1
                    have hx_145 : 8 * me_.toNatClampNeg + x_5.toNatClampNeg = y_7.toNatClampNeg := by have h9 := tnZ b_6.1; have h8 := tnZ (i := y_7) (by have h9_0 := bg52_14_8_a0_; unfold bd at h9_0; have h9_1 := bme_; unfold bd at h9_1; have h9_2 := bo_; unfold bd at h9_2; have h9_3 := bop_; unfold bd at h9_3; have h9_4 := b_104; unfold bd at h9_4; have h9_5 := b_21; unfold bd at h9_5; have h9_6 := h_128; unfold bd at h9_6; have h9_7 := bx_134; unfold bd at h9_7; have h9_8 := h_16; unfold bd at h9_8; have h9_9 := b_57; unfold bd at h9_9; have h9_10 := bx_34; unfold bd at h9_10; have h9_11 := b_6; unfold bd at h9_11; have h9_12 := b_133; unfold bd at h9_12; have h9_13 := b_136; unfold bd at h9_13; have h9_14 := b_4; unfold bd at h9_14; have h9_15 := b_8; unfold bd at h9_15; have h8_0 := kb_0; unfold bd at h8_0; have h8_1 := kb_1; unfold bd at h8_1; have h8_2 := kb_11; unfold bd at h8_2; have h8_3 := kb_6; unfold bd at h8_3; have h8_4 := kb_7; unfold bd at h8_4; have h8_5 := kb_m1; unfold bd at h8_5; omega); have h9_0 := bg52_14_8_a0_; unfold bd at h9_0; have h9_1 := bme_; unfold bd at h9_1; have h9_2 := bo_; unfold bd at h9_2; have h9_3 := bop_; unfold bd at h9_3; have h9_4 := b_104; unfold bd at h9_4; have h9_5 := b_21; unfold bd at h9_5; have h9_6 := h_128; unfold bd at h9_6; have h9_7 := bx_134; unfold bd at h9_7; have h9_8 := h_16; unfold bd at h9_8; have h9_9 := b_57; unfold bd at h9_9; have h9_10 := bx_34; unfold bd at h9_10; have h9_11 := b_6; unfold bd at h9_11; have h9_12 := b_133; unfold bd at h9_12; have h9_13 := b_136; unfold bd at h9_13; have h9_14 := b_4; unfold bd at h9_14; have h9_15 := b_8; unfold bd at h9_15; have h8_0 := kb_0; unfold bd at h8_0; have h8_1 := kb_1; unfold bd at h8_1; have h8_2 := kb_11; unfold bd at h8_2; have h8_3 := kb_6; unfold bd at h8_3; have h8_4 := kb_7; unfold bd at h8_4; have h8_5 := kb_m1; unfold bd at h8_5; omega
                    have hm18x : ((V_84.ui 29 y_7.toNatClampNeg r_78).i 18 me_.toNatClampNeg).toNatClampNeg = o_.toNatClampNeg := by rw [show (V_84.ui 29 y_7.toNatClampNeg r_78).i 18 = V_.i 18 from p18_99]; exact hm18
                    have hki_144 : KI ((V_84.ui 29 y_7.toNatClampNeg r_78).ui 22 me_.toNatClampNeg y_135) δ_ o_.toNatClampNeg := KI.u22 (a := me_.toNatClampNeg) hki_112 (by rw [← (show x_5 = (V_84.ui 29 y_7.toNatClampNeg r_78).i 22 me_.toNatClampNeg from hq_98)]; exact b_6.1) (by rw [← (show x_5 = (V_84.ui 29 y_7.toNatClampNeg r_78).i 22 me_.toNatClampNeg from hq_98)]; have h9_0 := bg52_14_8_a0_; unfold bd at h9_0; have h9_1 := bme_; unfold bd at h9_1; have h9_2 := bo_; unfold bd at h9_2; have h9_3 := bop_; unfold bd at h9_3; have h9_4 := b_104; unfold bd at h9_4; have h9_5 := b_21; unfold bd at h9_5; have h9_6 := h_128; unfold bd at h9_6; have h9_7 := bx_134; unfold bd at h9_7; have h9_8 := h_16; unfold bd at h9_8; have h9_9 := b_57; unfold bd at h9_9; have h9_10 := bx_34; unfold bd at h9_10; have h9_11 := b_6; unfold bd at h9_11; have h9_12 := b_133; unfold bd at h9_12; have h9_13 := b_136; unfold bd at h9_13; have h9_14 := b_4; unfold bd at h9_14; have h9_15 := b_8; unfold bd at h9_15; have h8_0 := kb_0; unfold bd at h8_0; have h8_1 := kb_1; unfold bd at h8_1; have h8_2 := kb_11; unfold bd at h8_2; have h8_3 := kb_6; unfold bd at h8_3; have h8_4 := kb_7; unfold bd at h8_4; have h8_5 := kb_m1; unfold bd at h8_5; omega) (by rw [← (show x_5 = (V_84.ui 29 y_7.toNatClampNeg r_78).i 22 me_.toNatClampNeg from hq_98), hx_145, show (V_84.ui 29 y_7.toNatClampNeg r_78).i 28 y_7.toNatClampNeg = (1 : Int32) from q_101, show (V_84.ui 29 y_7.toNatClampNeg r_78).i 29 y_7.toNatClampNeg = r_78 from q_113]; exact ⟨(fun _ => (by rw [hm18x]; exact hv_91.up (by decide))), (fun h9 => absurd h9 (by decide))⟩)
                    have h9c : cF f a0_ = _ := hG_140
                    have h8c : (((V_84.ui 29 y_7.toNatClampNeg r_78).ui 22 me_.toNatClampNeg y_135).n 57).toInt = (V_84.n 57).toInt ∧ (((V_84.ui 29 y_7.toNatClampNeg r_78).ui 22 me_.toNatClampNeg y_135).n 46).toInt = (V_84.n 46).toInt := ⟨rfl, rfl⟩
                    subst hQ
                    exact vretX hx hb hr (fun t ht hW => g_retZ g hK ⟨rfl, ⟨⟨((V_84.ui 29 y_7.toNatClampNeg r_78).ui 22 me_.toNatClampNeg y_135), _, hV_142, hF_143, hki_144, ⟨p27_100, p18_99⟩, (by omega), (by omega), (by omega), (by omega)⟩, x_127, h_128, (g.fcts [3, 0] rfl)⟩⟩ ht hW) g.2.2.1.2.2 dX14_readMark_517 hlocks
              · have fc_70 := eq_f c_70
                have b_146 : bd 7 6 x_2 := eqX fc_70 b_57 kb_7 (by decide)
                exact bd_no b_146 (by decide)
          · have fc_56 := neq_f c_56
            refine lv_iload_n hx hb dX14_readMark_204 rfl (lv_at hl 1 rfl) ?_
            refine lv_bipush (v := 7) hx hb dX14_readMark_205 (by decide) ?_
            have kb_7 : bd 7 7 (7 : Int32) := ⟨by decide, by decide⟩
            refine lv_icmp_ne (tgt := 266) hx hb dX14_readMark_207 (by decide) (fun c_147 => ?_) (fun c_147 => ?_)
            · have fc_147 := neq_f c_147
              refine lv_iload_n hx hb dX14_readMark_266 rfl (lv_at hl 1 rfl) ?_
              refine lv_bipush (v := 8) hx hb dX14_readMark_267 (by decide) ?_
              have kb_8 : bd 8 8 (8 : Int32) := ⟨by decide, by decide⟩
              refine lv_icmp_ne (tgt := 372) hx hb dX14_readMark_269 (by decide) (fun c_148 => ?_) (fun c_148 => ?_)
              · have fc_148 := neq_f c_148
                refine lv_aload_n hx hb dX14_readMark_372 rfl (lv_at hl 2 rfl) ?_
                refine g_getk (C := RX14) (T := TX14) (N := 67) hx hb hts (mc_ inX14) hown hK g rfl 2 (by decide) rfl (hts _ (List.mem_cons_of_mem _ t_2148)) (fun _ h9 => h9) 8 rfl dX14_readMark_373 ?_
                refine g_getr (K := 183) (C := RX12) (T := TX12) (N := 60) hx hb hts (mc_ inX12) hown hK g mq0_ kq0_ (by decide) rfl 28 (by decide) rfl (hts _ (List.mem_cons_of_mem _ t_1961)) (fun _ h9 => h9) rfl dX14_readMark_376 (fun a_149 ma_149 ka_149 g => ?_)
                refine lv_iload_n hx hb dX14_readMark_379 rfl (lv_at hl 0 rfl) ?_
                refine lv_bipush (v := 6) hx hb dX14_readMark_380 (by decide) ?_
                have hb_150 : ∀ c : Nat, c < 110 → ((((V_.ui 29 y_7.toNatClampNeg ((-1) : Int32)).ui 30 y_7.toNatClampNeg x_34).ui 31 y_7.toNatClampNeg (0 : Int32)).i 22 c).toInt ≤ 8 := (fun c hc => (isV.rng hG_54 g mq0_ kq0_ (j := 22) (K := 178) (by decide) rfl (by decide) rfl hc).2)
                have gp_151 := g
                have go_ := g
                refine g_iastX hx hb hK g ma_149 ka_149 (by decide) rfl (in_bd b_8 (by decide)) (bd_sub kb_6 (by decide)) (by decide) dX14_readMark_382 (fun f H locs hM_152 u_154 g => ?_)
                have hG_153 := cEq.frame hM_152 go_.2.2.2.1 ma0_ ka0_ (by decide) (by decide) hG_53
                have hV_155 := isV.ui hG_54 gp_151 0 rfl mq0_ kq0_ rfl u_154
                have hF_156 := FR.arr hG_55 gp_151 0 rfl mq0_ kq0_ rfl rfl u_154.1
                have hki_157 : KI ((((V_.ui 29 y_7.toNatClampNeg ((-1) : Int32)).ui 30 y_7.toNatClampNeg x_34).ui 31 y_7.toNatClampNeg (0 : Int32)).ui 28 y_7.toNatClampNeg (6 : Int32)) δ_ o_.toNatClampNeg := KI.u28 (a := me_.toNatClampNeg) hki_51 (by decide) hb_150 (by rw [← (show x_5 = (((V_.ui 29 y_7.toNatClampNeg ((-1) : Int32)).ui 30 y_7.toNatClampNeg x_34).ui 31 y_7.toNatClampNeg (0 : Int32)).i 22 me_.toNatClampNeg from vx_5)]; exact b_6.1) (by rw [← (show x_5 = (((V_.ui 29 y_7.toNatClampNeg ((-1) : Int32)).ui 30 y_7.toNatClampNeg x_34).ui 31 y_7.toNatClampNeg (0 : Int32)).i 22 me_.toNatClampNeg from vx_5), tnZ (by have h9_0 := bg52_14_8_a0_; unfold bd at h9_0; have h9_1 := bme_; unfold bd at h9_1; have h9_2 := bo_; unfold bd at h9_2; have h9_3 := bop_; unfold bd at h9_3; have h9_4 := b_21; unfold bd at h9_4; have h9_5 := h_16; unfold bd at h9_5; have h9_6 := bx_34; unfold bd at h9_6; have h9_7 := b_6; unfold bd at h9_7; have h9_8 := b_4; unfold bd at h9_8; have h9_9 := b_8; unfold bd at h9_9; have h8_0 := kb_0; unfold bd at h8_0; have h8_1 := kb_1; unfold bd at h8_1; have h8_2 := kb_11; unfold bd at h8_2; have h8_3 := kb_6; unfold bd at h8_3; have h8_4 := kb_7; unfold bd at h8_4; have h8_5 := kb_8; unfold bd at h8_5; have h8_6 := kb_m1; unfold bd at h8_6; omega), tnZ bme_.1]; have h9_0 := bg52_14_8_a0_; unfold bd at h9_0; have h9_1 := bme_; unfold bd at h9_1; have h9_2 := bo_; unfold bd at h9_2; have h9_3 := bop_; unfold bd at h9_3; have h9_4 := b_21; unfold bd at h9_4; have h9_5 := h_16; unfold bd at h9_5; have h9_6 := bx_34; unfold bd at h9_6; have h9_7 := b_6; unfold bd at h9_7; have h9_8 := b_4; unfold bd at h9_8; have h9_9 := b_8; unfold bd at h9_9; have h8_0 := kb_0; unfold bd at h8_0; have h8_1 := kb_1; unfold bd at h8_1; have h8_2 := kb_11; unfold bd at h8_2; have h8_3 := kb_6; unfold bd at h8_3; have h8_4 := kb_7; unfold bd at h8_4; have h8_5 := kb_8; unfold bd at h8_5; have h8_6 := kb_m1; unfold bd at h8_6; omega) (by rw [← (show x_5 = (((V_.ui 29 y_7.toNatClampNeg ((-1) : Int32)).ui 30 y_7.toNatClampNeg x_34).ui 31 y_7.toNatClampNeg (0 : Int32)).i 22 me_.toNatClampNeg from vx_5)]; have h9_0 := bg52_14_8_a0_; unfold bd at h9_0; have h9_1 := bme_; unfold bd at h9_1; have h9_2 := bo_; unfold bd at h9_2; have h9_3 := bop_; unfold bd at h9_3; have h9_4 := b_21; unfold bd at h9_4; have h9_5 := h_16; unfold bd at h9_5; have h9_6 := bx_34; unfold bd at h9_6; have h9_7 := b_6; unfold bd at h9_7; have h9_8 := b_4; unfold bd at h9_8; have h9_9 := b_8; unfold bd at h9_9; have h8_0 := kb_0; unfold bd at h8_0; have h8_1 := kb_1; unfold bd at h8_1; have h8_2 := kb_11; unfold bd at h8_2; have h8_3 := kb_6; unfold bd at h8_3; have h8_4 := kb_7; unfold bd at h8_4; have h8_5 := kb_8; unfold bd at h8_5; have h8_6 := kb_m1; unfold bd at h8_6; omega)
                have q_158 : ((((V_.ui 29 y_7.toNatClampNeg ((-1) : Int32)).ui 30 y_7.toNatClampNeg x_34).ui 31 y_7.toNatClampNeg (0 : Int32)).ui 28 y_7.toNatClampNeg (6 : Int32)).i 28 y_7.toNatClampNeg = (6 : Int32) := ui_same
                refine lv_iconst (v := 1) hx hb dX14_readMark_383 (by decide) ?_
                refine lv_istore_n (lv' := [(3, .int 1), (2, .int y_7), (1, .int x_2), (0, .ref a0_)]) hx hb dX14_readMark_384 rfl hl (by decide) rfl (fun ls hl => ?_)
                have loop_159 : ∀ (n : Nat) (v385_3 : Int32) (w385_14_10_a0_ : Int32), bd 0 1 v385_3 → bd 0 1201 w385_14_10_a0_ → ((n : Int) - 1 < (n : Int)) → ∀ (f : Nat → va_E) (H : Heap) (locs : List Loc) (ls : Array Slot), G3 (dC, dI) L kd tys s f0 [(12, 46), (12, 57), (12, 58), (14, 6), (14, 7), (14, 8), (14, 9), (14, 10), (14, 11), (14, 12), (14, 13), (14, 14), (14, 15), (14, 20), (14, 21), (14, 22), (14, 23), (14, 24), (14, 25), (14, 26)] [160, 161, 162, 163, 164, 165, 166, 167, 168, 169, 175, 176, 177, 178, 180, 182, 183, 184, 185, 186, 187, 188, 189, 190, 191, 192, 193, 194, 195, 196, 197, 198, 199, 200, 201, 202, 203, 204, 205, 206, 207, 208, 209, 210, 213, 214] f H locs [(12, 28, q0_, .ref a_149), (14, 22, a0_, .int 1), (12, 31, q0_, .ref a_43), (12, 30, q0_, .ref a_33), (12, 29, q0_, .ref a_23), (14, 10, a0_, .int w385_14_10_a0_), (12, 26, q0_, .ref g52_12_26_q0_), (12, 22, q0_, .ref g52_12_22_q0_), (14, 2, a0_, .ref q0_), (14, 16, a0_, .int o_), (14, 25, a0_, .int op_), (14, 17, a0_, .int me_)] → (∃ (V1 : PV) (E1 : Int), isV f q0_ V1 ∧ FR L kd f0 f q0_ ∧ cEq f a0_ E1 ∧ KI V1 δ_ o_.toNatClampNeg ∧ x_5 = V1.i 22 me_.toNatClampNeg ∧ V1.i 18 = V_.i 18 ∧ V1.n 27 = V_.n 27 ∧ V1.i 28 y_7.toNatClampNeg = (6 : Int32) ∧ V1.i 29 y_7.toNatClampNeg = ((-1) : Int32) ∧ (V1.n 57).toInt = (V_.n 57).toInt ∧ (V1.n 46).toInt = (V_.n 46).toInt ∧ cF f0 a0_ ≤ E1 ∧ E1 ≤ 1202 ∧ 1202 - E1 < (n : Int)) → lv_has ls 5 [(3, .int v385_3), (2, .int y_7), (1, .int x_2), (0, .ref a0_)] → W p l e ({ frames := 487, cells := K_, slots := 3 * K_, locals := 28408 } : Room) s m [.ref a0_].toArray below meth c H locs cl_0 (3 * cl_0) Q (F0 m 385 ls []) := by
                  intro n385
                  induction n385 with
                  | zero =>
                    intro v385_3 w385_14_10_a0_ bv385_3 bw385_14_10_a0_ hm385 f H locs ls g  ⟨V385, E385, hV385, hF385, hC385, hki385, hq385, hp385, hn385, hk385, hx385, h57_385, h46_385, hc385, mx385, hms385⟩ hl
                    exact absurd hms385 (by omega)
                  | succ n385 ih385 =>
                    intro v385_3 w385_14_10_a0_ bv385_3 bw385_14_10_a0_ hm385 f H locs ls g  ⟨V385, E385, hV385, hF385, hC385, hki385, hq385, hp385, hn385, hk385, hx385, h57_385, h46_385, hc385, mx385, hms385⟩ hl
                    refine lv_iload_n hx hb dX14_readMark_385 rfl (lv_at hl 0 rfl) ?_
                    refine lv_if_eq (tgt := 490) hx hb dX14_readMark_386 (by decide) (fun c_160 => ?_) (fun c_160 => ?_)
                    · have fc_160 := eq_f c_160
                      have b_161 : bd 0 0 v385_3 := eqX fc_160 bv385_3 kb_0 (by decide)
                      refine lv_aload_n hx hb dX14_readMark_490 rfl (lv_at hl 3 rfl) ?_
                      refine lv_iconst (v := 0) hx hb dX14_readMark_491 (by decide) ?_
                      have go_ := g
                      refine g_put (C := RX14) (T := TX14) (N := 67) hx hb hts (mc_ inX14) tyX14 tyX14_ok nmX14 hown hK g ma0_ ka0_ (by decide) rfl 22 (by decide) (hts _ (List.mem_cons_of_mem _ t_2168)) (fun _ h9 => h9) rfl rfl (okV_i (bd_sub kb_0 (by decide))) rfl rfl (by decide) (Or.inr (Or.inl (by decide))) (fx' := [(12, 28, q0_, .ref a_149), (12, 31, q0_, .ref a_43), (12, 30, q0_, .ref a_33), (12, 29, q0_, .ref a_23), (14, 10, a0_, .int w385_14_10_a0_), (12, 26, q0_, .ref g52_12_26_q0_), (12, 22, q0_, .ref g52_12_22_q0_), (14, 2, a0_, .ref q0_), (14, 16, a0_, .int o_), (14, 25, a0_, .int op_), (14, 17, a0_, .int me_)]) rfl dX14_readMark_492 (fun f H locs hM_162 g => ?_)
                      have hG_163 := isV.frame hM_162 go_.2.2.2.1 mq0_ kq0_ (by decide) (by decide) hV385
                      have hG_164 := FR.frame hM_162 go_.2.2.2.1 mq0_ kq0_ (by decide) (by decide) hF385
                      have hG_165 := cEq.frame hM_162 go_.2.2.2.1 ma0_ ka0_ (by decide) (by decide) hC385
                      refine lv_aload_n hx hb dX14_readMark_495 rfl (lv_at hl 3 rfl) ?_
                      refine lv_bipush (v := 59) hx hb dX14_readMark_496 (by decide) ?_
                      have go_ := g
                      refine g_callEv (As := [.int 59]) (rest := []) ⟨hx, hb, hml, hown, hts⟩ (r_X14_sign_2 l dC dI L kd tys f H.size g.2.2.2.1 adK adV a0_ ma0_ ka0_ 59 w385_14_10_a0_ bw385_14_10_a0_ (g.fcts [5] rfl)) (cwV 1 hts (gV_ t_2431 t_2433 t_107 t_198 t_2434) rfl rfl rfl (by decide +kernel) ⟨(Nat.le_of_ble_eq_true rfl), (Nat.le_of_ble_eq_true rfl)⟩) (pre3VA g hK hAm ma0_ ka0_ (by decide) (q := (RX14, TX14, 67)) rfl) rfl hl.1 rfl (lv_room (Nat.le_of_ble_eq_true rfl)) dX14_readMark_498 (cl_f hck_0) g hK (by decide) (by decide) (fx' := [(14, 22, a0_, .int 0), (12, 28, q0_, .ref a_149), (12, 31, q0_, .ref a_43), (12, 30, q0_, .ref a_33), (12, 29, q0_, .ref a_23), (12, 26, q0_, .ref g52_12_26_q0_), (12, 22, q0_, .ref g52_12_22_q0_), (14, 2, a0_, .ref q0_), (14, 16, a0_, .int o_), (14, 25, a0_, .int op_), (14, 17, a0_, .int me_)]) rfl (fun xr_166 fr_166 H locs mxr_166 kxr_166 hp hMr_166 g => ?_) (fun fr_166 H locs hp hMr_166 g => ?_)
                      · have hG_167 := isV.frame hMr_166 go_.2.2.2.1 mq0_ kq0_ (by decide) (by decide) hG_163
                        have hG_168 := FR.frame hMr_166 go_.2.2.2.1 mq0_ kq0_ (by decide) (by decide) hG_164
                        subst hQ
                        exact leavesX hempty hlocks (fun t ht hW => g_thrZ g hK mxr_166 kxr_166 ⟨hG_168, (by omega)⟩ ht hW) g.2.2.1.2.2
                      · obtain ⟨hx_169, h_170, x_171, h_172, hF_173⟩ := hp
                        have hG_174 := isV.frame hMr_166 go_.2.2.2.1 mq0_ kq0_ (by decide) (by decide) hG_163
                        have hG_175 := FR.frame hMr_166 go_.2.2.2.1 mq0_ kq0_ (by decide) (by decide) hG_164
                        obtain ⟨E_176, hE_176⟩ : ∃ E : Int, cEq fr_166 a0_ E := ⟨_, rfl⟩
                        have mxE_176 : E_176 ≤ 1202 := by have h9 := cF_le g ma0_ ka0_; have h8 : cF _ _ = _ := hE_176; omega
                        have lE_176 : E385 + 1 ≤ E_176 := by have h9 := hx_169; have h8 : cF _ _ = _ := hE_176; have h7 : cF _ _ = _ := hG_165; omega
                        have b_177 : bd 0 1200 w385_14_10_a0_ := eqX rfl bw385_14_10_a0_ h_170 (by decide)
                        have g := g.more hF_173
                        refine lv_aload_n hx hb dX14_readMark_501 rfl (lv_at hl 3 rfl) ?_
                        refine g_getk (C := RX14) (T := TX14) (N := 67) hx hb hts (mc_ inX14) hown hK g rfl 2 (by decide) rfl (hts _ (List.mem_cons_of_mem _ t_2148)) (fun _ h9 => h9) 8 rfl dX14_readMark_502 ?_
                        refine g_getk (C := RX12) (T := TX12) (N := 60) hx hb hts (mc_ inX12) hown hK g rfl 22 (by decide) rfl (hts _ (List.mem_cons_of_mem _ t_1950)) (fun _ h9 => h9) 7 rfl dX14_readMark_505 ?_
                        refine lv_aload_n hx hb dX14_readMark_508 rfl (lv_at hl 3 rfl) ?_
                        refine g_getk (C := RX14) (T := TX14) (N := 67) hx hb hts (mc_ inX14) hown hK g rfl 17 (by decide) rfl (hts _ (List.mem_cons_of_mem _ t_2163)) (fun _ h9 => h9) 11 rfl dX14_readMark_509 ?_
                        refine lv_dup2_11 hx hb dX14_readMark_512 rfl rfl ?_
                        refine g_iald hx hb hK g mg52_12_22_q0_ kg52_12_22_q0_ (by decide) rfl (in_bd bme_ (by decide)) dX14_readMark_513 (fun x_178 bx_178 cx_178 => ?_)
                        have vx_178 : x_178 = V385.i 22 me_.toNatClampNeg := hG_174.at g 7 rfl rfl cx_178
                        obtain rfl : x_5 = x_178 := (show x_5 = V385.i 22 me_.toNatClampNeg from hq385).trans vx_178.symm
                        refine lv_iconst (v := 1) hx hb dX14_readMark_514 (by decide) ?_
                        refine lv_iadd hx hb dX14_readMark_515 ?_
                        refine lv_topi (fun y_179 ey_179 => ?_)
                        have ty_179 := add_bd ey_179 b_6 kb_1 (by decide)
                        have b_180 : bd 1 8 y_179 := add_rg ty_179 b_6 kb_1 (by decide)
                        have gp_182 := g
                        have go_ := g
                        refine g_iastX hx hb hK g mg52_12_22_q0_ kg52_12_22_q0_ (by decide) rfl (in_bd bme_ (by decide)) (bd_sub b_180 (by decide)) (by decide) dX14_readMark_516 (fun f H locs hM_183 u_185 g => ?_)
                        have hG_184 := cEq.frame hM_183 go_.2.2.2.1 ma0_ ka0_ (by decide) (by decide) hE_176
                        have hV_186 := isV.ui hG_174 gp_182 7 rfl mq0_ kq0_ rfl u_185
                        have hF_187 := FR.arr hG_175 gp_182 7 rfl mq0_ kq0_ rfl rfl u_185.1
                        have hx_189 : 8 * me_.toNatClampNeg + x_5.toNatClampNeg = y_7.toNatClampNeg := by have h9 := tnZ b_6.1; have h8 := tnZ (i := y_7) (by have h9_0 := bg52_14_8_a0_; unfold bd at h9_0; have h9_1 := bme_; unfold bd at h9_1; have h9_2 := bo_; unfold bd at h9_2; have h9_3 := bop_; unfold bd at h9_3; have h9_4 := b_21; unfold bd at h9_4; have h9_5 := b_161; unfold bd at h9_5; have h9_6 := b_177; unfold bd at h9_6; have h9_7 := h_16; unfold bd at h9_7; have h9_8 := h_172; unfold bd at h9_8; have h9_9 := bx_178; unfold bd at h9_9; have h9_10 := bx_34; unfold bd at h9_10; have h9_11 := b_6; unfold bd at h9_11; have h9_12 := b_180; unfold bd at h9_12; have h9_13 := b_4; unfold bd at h9_13; have h9_14 := b_8; unfold bd at h9_14; have h8_0 := kb_0; unfold bd at h8_0; have h8_1 := kb_1; unfold bd at h8_1; have h8_2 := kb_11; unfold bd at h8_2; have h8_3 := kb_6; unfold bd at h8_3; have h8_4 := kb_7; unfold bd at h8_4; have h8_5 := kb_8; unfold bd at h8_5; have h8_6 := kb_m1; unfold bd at h8_6; omega); have h9_0 := bg52_14_8_a0_; unfold bd at h9_0; have h9_1 := bme_; unfold bd at h9_1; have h9_2 := bo_; unfold bd at h9_2; have h9_3 := bop_; unfold bd at h9_3; have h9_4 := b_21; unfold bd at h9_4; have h9_5 := b_161; unfold bd at h9_5; have h9_6 := b_177; unfold bd at h9_6; have h9_7 := h_16; unfold bd at h9_7; have h9_8 := h_172; unfold bd at h9_8; have h9_9 := bx_178; unfold bd at h9_9; have h9_10 := bx_34; unfold bd at h9_10; have h9_11 := b_6; unfold bd at h9_11; have h9_12 := b_180; unfold bd at h9_12; have h9_13 := b_4; unfold bd at h9_13; have h9_14 := b_8; unfold bd at h9_14; have h8_0 := kb_0; unfold bd at h8_0; have h8_1 := kb_1; unfold bd at h8_1; have h8_2 := kb_11; unfold bd at h8_2; have h8_3 := kb_6; unfold bd at h8_3; have h8_4 := kb_7; unfold bd at h8_4; have h8_5 := kb_8; unfold bd at h8_5; have h8_6 := kb_m1; unfold bd at h8_6; omega
                        have hm18x : (V385.i 18 me_.toNatClampNeg).toNatClampNeg = o_.toNatClampNeg := by rw [show V385.i 18 = V_.i 18 from hp385]; exact hm18
                        have hki_188 : KI (V385.ui 22 me_.toNatClampNeg y_179) δ_ o_.toNatClampNeg := KI.u22 (a := me_.toNatClampNeg) hki385 (by rw [← (show x_5 = V385.i 22 me_.toNatClampNeg from hq385)]; exact b_6.1) (by rw [← (show x_5 = V385.i 22 me_.toNatClampNeg from hq385)]; have h9_0 := bg52_14_8_a0_; unfold bd at h9_0; have h9_1 := bme_; unfold bd at h9_1; have h9_2 := bo_; unfold bd at h9_2; have h9_3 := bop_; unfold bd at h9_3; have h9_4 := b_21; unfold bd at h9_4; have h9_5 := b_161; unfold bd at h9_5; have h9_6 := b_177; unfold bd at h9_6; have h9_7 := h_16; unfold bd at h9_7; have h9_8 := h_172; unfold bd at h9_8; have h9_9 := bx_178; unfold bd at h9_9; have h9_10 := bx_34; unfold bd at h9_10; have h9_11 := b_6; unfold bd at h9_11; have h9_12 := b_180; unfold bd at h9_12; have h9_13 := b_4; unfold bd at h9_13; have h9_14 := b_8; unfold bd at h9_14; have h8_0 := kb_0; unfold bd at h8_0; have h8_1 := kb_1; unfold bd at h8_1; have h8_2 := kb_11; unfold bd at h8_2; have h8_3 := kb_6; unfold bd at h8_3; have h8_4 := kb_7; unfold bd at h8_4; have h8_5 := kb_8; unfold bd at h8_5; have h8_6 := kb_m1; unfold bd at h8_6; omega) (by rw [← (show x_5 = V385.i 22 me_.toNatClampNeg from hq385), hx_189, show V385.i 28 y_7.toNatClampNeg = (6 : Int32) from hk385, show V385.i 29 y_7.toNatClampNeg = ((-1) : Int32) from hx385]; exact ⟨(fun h9 => absurd h9 (by decide)), (fun h9 => absurd h9 (by decide))⟩)
                        have h9c : cF f a0_ = _ := hG_184
                        have h8c : ((V385.ui 22 me_.toNatClampNeg y_179).n 57).toInt = (V385.n 57).toInt ∧ ((V385.ui 22 me_.toNatClampNeg y_179).n 46).toInt = (V385.n 46).toInt := ⟨rfl, rfl⟩
                        subst hQ
                        exact vretX hx hb hr (fun t ht hW => g_retZ g hK ⟨rfl, ⟨⟨(V385.ui 22 me_.toNatClampNeg y_179), _, hV_186, hF_187, hki_188, ⟨hn385, hp385⟩, (by omega), (by omega), (by omega), (by omega)⟩, x_171, h_172, (g.fcts [10, 0] rfl)⟩⟩ ht hW) g.2.2.1.2.2 dX14_readMark_517 hlocks
                    · have fc_160 := neq_f c_160
                      have b_190 : bd 1 1 v385_3 := neX fc_160 bv385_3 kb_0 (by decide)
                      refine lv_aload_n hx hb dX14_readMark_389 rfl (lv_at hl 3 rfl) ?_
                      refine lv_aload_n hx hb dX14_readMark_390 rfl (lv_at hl 3 rfl) ?_
                      refine g_geti (C := RX14) (T := TX14) (N := 67) hx hb hts (mc_ inX14) hown hK g ma0_ ka0_ (by decide) rfl 6 (by decide) rfl (hts _ (List.mem_cons_of_mem _ t_2152)) (fun _ h9 => h9) rfl dX14_readMark_391 (fun x_191 bx_191 g => ?_)
                      refine lv_iconst (v := 1) hx hb dX14_readMark_394 (by decide) ?_
                      refine lv_icmp_ne (tgt := 402) hx hb dX14_readMark_395 (by decide) (fun c_192 => ?_) (fun c_192 => ?_)
                      · have fc_192 := neq_f c_192
                        refine lv_iconst (v := 0) hx hb dX14_readMark_402 (by decide) ?_
                        refine lv_iconst (v := 1) hx hb dX14_readMark_403 (by decide) ?_
                        refine lv_aload_n hx hb dX14_readMark_404 rfl (lv_at hl 3 rfl) ?_
                        refine g_geti (C := RX14) (T := TX14) (N := 67) hx hb hts (mc_ inX14) hown hK g ma0_ ka0_ (by decide) rfl 8 (by decide) rfl (hts _ (List.mem_cons_of_mem _ t_2154)) (fun _ h9 => h9) rfl dX14_readMark_405 (fun x_193 bx_193 g => ?_)
                        have go_ := g
                        refine g_callEv (As := [.int 0, .int 1, .int x_193]) (rest := []) ⟨hx, hb, hml, hown, hts⟩ (r_X14_need_2 l dC dI L kd tys f H.size g.2.2.2.1 a0_ ma0_ ka0_ 0 kb_0 1 x_193) (cwV 3 hts (gV_ t_2403 t_2405 t_100 t_198 t_2406) rfl rfl rfl (by decide +kernel) ⟨(Nat.le_of_ble_eq_true rfl), (Nat.le_of_ble_eq_true rfl)⟩) (pre3V g hK ma0_ ka0_ (by decide) (q := (RX14, TX14, 67)) rfl) rfl hl.1 rfl (lv_room (Nat.le_of_ble_eq_true rfl)) dX14_readMark_408 (cl_f hck_0) g hK (by decide) (by decide) (fx' := [(14, 8, a0_, .int x_193), (14, 6, a0_, .int x_191), (12, 28, q0_, .ref a_149), (14, 22, a0_, .int 1), (12, 31, q0_, .ref a_43), (12, 30, q0_, .ref a_33), (12, 29, q0_, .ref a_23), (14, 10, a0_, .int w385_14_10_a0_), (12, 26, q0_, .ref g52_12_26_q0_), (12, 22, q0_, .ref g52_12_22_q0_), (14, 2, a0_, .ref q0_), (14, 16, a0_, .int o_), (14, 25, a0_, .int op_), (14, 17, a0_, .int me_)]) rfl (fun xr_194 fr_194 H locs mxr_194 kxr_194 hp hMr_194 g => ?_) (fun fr_194 H locs hp hMr_194 g => ?_)
                        · have hG_195 := isV.frame hMr_194 go_.2.2.2.1 mq0_ kq0_ (by decide) (by decide) hV385
                          have hG_196 := FR.frame hMr_194 go_.2.2.2.1 mq0_ kq0_ (by decide) (by decide) hF385
                          have hG_197 := cEq.frame hMr_194 go_.2.2.2.1 ma0_ ka0_ (by decide) (by decide) hC385
                          subst hQ
                          exact leavesX hempty hlocks (fun t ht hW => g_thrZ g hK mxr_194 kxr_194 ⟨hG_196, (by omega)⟩ ht hW) g.2.2.1.2.2
                        · exact hp.elim
                      · have fc_192 := eq_f c_192
                        have b_198 : bd 1 1 x_191 := eqX fc_192 bx_191 kb_1 (by decide)
                        refine lv_iconst (v := 1) hx hb dX14_readMark_398 (by decide) ?_
                        refine lv_goto (tgt := 403) hx hb dX14_readMark_399 (by decide) ?_
                        refine lv_iconst (v := 1) hx hb dX14_readMark_403 (by decide) ?_
                        refine lv_aload_n hx hb dX14_readMark_404 rfl (lv_at hl 3 rfl) ?_
                        refine g_geti (C := RX14) (T := TX14) (N := 67) hx hb hts (mc_ inX14) hown hK g ma0_ ka0_ (by decide) rfl 8 (by decide) rfl (hts _ (List.mem_cons_of_mem _ t_2154)) (fun _ h9 => h9) rfl dX14_readMark_405 (fun x_199 bx_199 g => ?_)
                        have hs_200 := sE_1 g 1 rfl (by have h9_0 := bg52_14_8_a0_; unfold bd at h9_0; have h9_1 := bme_; unfold bd at h9_1; have h9_2 := bo_; unfold bd at h9_2; have h9_3 := bop_; unfold bd at h9_3; have h9_4 := b_21; unfold bd at h9_4; have h9_5 := b_190; unfold bd at h9_5; have h9_6 := bw385_14_10_a0_; unfold bd at h9_6; have h9_7 := h_16; unfold bd at h9_7; have h9_8 := b_198; unfold bd at h9_8; have h9_9 := bx_199; unfold bd at h9_9; have h9_10 := bx_34; unfold bd at h9_10; have h9_11 := b_6; unfold bd at h9_11; have h9_12 := b_4; unfold bd at h9_12; have h9_13 := b_8; unfold bd at h9_13; have h8_0 := kb_0; unfold bd at h8_0; have h8_1 := kb_1; unfold bd at h8_1; have h8_2 := kb_11; unfold bd at h8_2; have h8_3 := kb_6; unfold bd at h8_3; have h8_4 := kb_7; unfold bd at h8_4; have h8_5 := kb_8; unfold bd at h8_5; have h8_6 := kb_m1; unfold bd at h8_6; omega)
                        have go_ := g
                        refine g_callEv (As := [.int 1, .int 1, .int x_199]) (rest := []) ⟨hx, hb, hml, hown, hts⟩ (r_X14_need_3 l dC dI L kd tys f H.size g.2.2.2.1 a0_ ma0_ ka0_ 1 kb_1 1 x_199) (cwV 3 hts (gV_ t_2403 t_2405 t_100 t_198 t_2406) rfl rfl rfl (by decide +kernel) ⟨(Nat.le_of_ble_eq_true rfl), (Nat.le_of_ble_eq_true rfl)⟩) (pre3V g hK ma0_ ka0_ (by decide) (q := (RX14, TX14, 67)) rfl) rfl hl.1 rfl (lv_room (Nat.le_of_ble_eq_true rfl)) dX14_readMark_408 (cl_f hck_0) g hK (by decide) (by decide) (fx' := [(14, 8, a0_, .int x_199), (14, 6, a0_, .int x_191), (12, 28, q0_, .ref a_149), (14, 22, a0_, .int 1), (12, 31, q0_, .ref a_43), (12, 30, q0_, .ref a_33), (12, 29, q0_, .ref a_23), (14, 10, a0_, .int w385_14_10_a0_), (12, 26, q0_, .ref g52_12_26_q0_), (12, 22, q0_, .ref g52_12_22_q0_), (14, 2, a0_, .ref q0_), (14, 16, a0_, .int o_), (14, 25, a0_, .int op_), (14, 17, a0_, .int me_)]) rfl (fun xr_201 fr_201 H locs mxr_201 kxr_201 hp hMr_201 g => ?_) (fun fr_201 H locs hp hMr_201 g => ?_)
                        · have hG_202 := isV.frame hMr_201 go_.2.2.2.1 mq0_ kq0_ (by decide) (by decide) hV385
                          have hG_203 := FR.frame hMr_201 go_.2.2.2.1 mq0_ kq0_ (by decide) (by decide) hF385
                          have hG_204 := cEq.frame hMr_201 go_.2.2.2.1 ma0_ ka0_ (by decide) (by decide) hC385
                          exact hp.elim
                        · have hG_205 := isV.frame hMr_201 go_.2.2.2.1 mq0_ kq0_ (by decide) (by decide) hV385
                          have hG_206 := FR.frame hMr_201 go_.2.2.2.1 mq0_ kq0_ (by decide) (by decide) hF385
                          have hG_207 := cEq.frame hMr_201 go_.2.2.2.1 ma0_ ka0_ (by decide) (by decide) hC385
                          refine lv_aload_n hx hb dX14_readMark_411 rfl (lv_at hl 3 rfl) ?_
                          refine g_getk (C := RX14) (T := TX14) (N := 67) hx hb hts (mc_ inX14) hown hK g rfl 2 (by decide) rfl (hts _ (List.mem_cons_of_mem _ t_2148)) (fun _ h9 => h9) 10 rfl dX14_readMark_412 ?_
                          refine lv_aload_n hx hb dX14_readMark_415 rfl (lv_at hl 3 rfl) ?_
                          refine g_getk (C := RX14) (T := TX14) (N := 67) hx hb hts (mc_ inX14) hown hK g rfl 16 (by decide) rfl (hts _ (List.mem_cons_of_mem _ t_2162)) (fun _ h9 => h9) 11 rfl dX14_readMark_416 ?_
                          refine lv_aload_n hx hb dX14_readMark_419 rfl (lv_at hl 3 rfl) ?_
                          refine g_getl (C := RX14) (T := TX14) (N := 67) hx hb hts (mc_ inX14) hown hK g ma0_ ka0_ (by decide) rfl 12 (by decide) rfl (hts _ (List.mem_cons_of_mem _ t_2158)) (fun _ h9 => h9) rfl dX14_readMark_420 (fun x_208 g => ?_)
                          refine lv_aload_n hx hb dX14_readMark_423 rfl (lv_at hl 3 rfl) ?_
                          refine g_getl (C := RX14) (T := TX14) (N := 67) hx hb hts (mc_ inX14) hown hK g ma0_ ka0_ (by decide) rfl 13 (by decide) rfl (hts _ (List.mem_cons_of_mem _ t_2159)) (fun _ h9 => h9) rfl dX14_readMark_424 (fun x_209 g => ?_)
                          have hs_210 := sE_1 g 3 rfl (by have h9_0 := bg52_14_8_a0_; unfold bd at h9_0; have h9_1 := bme_; unfold bd at h9_1; have h9_2 := bo_; unfold bd at h9_2; have h9_3 := bop_; unfold bd at h9_3; have h9_4 := b_21; unfold bd at h9_4; have h9_5 := b_190; unfold bd at h9_5; have h9_6 := bw385_14_10_a0_; unfold bd at h9_6; have h9_7 := h_16; unfold bd at h9_7; have h9_8 := b_198; unfold bd at h9_8; have h9_9 := bx_199; unfold bd at h9_9; have h9_10 := bx_34; unfold bd at h9_10; have h9_11 := b_6; unfold bd at h9_11; have h9_12 := b_4; unfold bd at h9_12; have h9_13 := b_8; unfold bd at h9_13; have h8_0 := kb_0; unfold bd at h8_0; have h8_1 := kb_1; unfold bd at h8_1; have h8_2 := kb_11; unfold bd at h8_2; have h8_3 := kb_6; unfold bd at h8_3; have h8_4 := kb_7; unfold bd at h8_4; have h8_5 := kb_8; unfold bd at h8_5; have h8_6 := kb_m1; unfold bd at h8_6; omega)
                          have go_ := g
                          refine g_calli (va_runV (As := [.int o_, .long x_208, .long x_209]) (rest := []) ⟨hx, hb, hml, hown, hts⟩ (r_X12_fieldOf_2 l dC dI L kd tys fr_201 H.size g.2.2.2.1 q0_ mq0_ kq0_ o_ (bd_sub bo_ (by decide)) x_208 x_209 V385 hG_205) (cwV 3 hts (gV_ t_2443 t_2444 t_2445 t_203 t_2446) rfl rfl rfl (by decide +kernel) ⟨(Nat.le_of_ble_eq_true rfl), (Nat.le_of_ble_eq_true rfl)⟩) (pre3V g hK mq0_ kq0_ (by decide) (q := (RX12, TX12, 60)) rfl) rfl rfl hl.1 rfl (lv_room (Nat.le_of_ble_eq_true rfl)) dX14_readMark_427 (cl_f hck_0)) g hK (by decide) (by decide) (fx' := [(14, 13, a0_, .long x_209), (14, 12, a0_, .long x_208), (14, 8, a0_, .int x_199), (14, 6, a0_, .int x_191), (12, 28, q0_, .ref a_149), (14, 22, a0_, .int 1), (12, 31, q0_, .ref a_43), (12, 30, q0_, .ref a_33), (12, 29, q0_, .ref a_23), (14, 10, a0_, .int w385_14_10_a0_), (12, 26, q0_, .ref g52_12_26_q0_), (12, 22, q0_, .ref g52_12_22_q0_), (14, 2, a0_, .ref q0_), (14, 16, a0_, .int o_), (14, 25, a0_, .int op_), (14, 17, a0_, .int me_)]) rfl (fun r_211 fr_211 H locs hp hMr_211 g => ?_)
                          rcases hp with ⟨hx_212, h_213, -⟩ | ⟨hx_214, hx_215, h_216, -⟩
                          · have hG_217 := isV.frame hMr_211 go_.2.2.2.1 mq0_ kq0_ (by decide) (by decide) hG_205
                            have hG_218 := FR.frame hMr_211 go_.2.2.2.1 mq0_ kq0_ (by decide) (by decide) hG_206
                            have hG_219 := cEq.frame hMr_211 go_.2.2.2.1 ma0_ ka0_ (by decide) (by decide) hG_207
                            obtain rfl : r_211 = (-1) := h_213
                            refine lv_istore (lv' := [(4, .int (-1)), (3, .int v385_3), (2, .int y_7), (1, .int x_2), (0, .ref a0_)]) hx hb dX14_readMark_430 hl (by decide) rfl (fun ls hl => ?_)
                            refine lv_aload_n hx hb dX14_readMark_432 rfl (lv_at hl 4 rfl) ?_
                            refine lv_iload hx hb dX14_readMark_433 (lv_at hl 0 rfl) ?_
                            refine lv_iconst (v := (-1)) hx hb dX14_readMark_435 (by decide) ?_
                            refine lv_icmp_eq (tgt := 443) hx hb dX14_readMark_436 (by decide) (fun c_ => ?_) (fun c_ => absurd (by decide) c_)
                            refine lv_iconst (v := 0) hx hb dX14_readMark_443 (by decide) ?_
                            refine lv_iconst (v := 2) hx hb dX14_readMark_444 (by decide) ?_
                            refine lv_aload_n hx hb dX14_readMark_445 rfl (lv_at hl 4 rfl) ?_
                            refine g_getk (C := RX14) (T := TX14) (N := 67) hx hb hts (mc_ inX14) hown hK g rfl 8 (by decide) rfl (hts _ (List.mem_cons_of_mem _ t_2154)) (fun _ h9 => h9) 2 rfl dX14_readMark_446 ?_
                            have hs_220 := sE_1 g 3 rfl (by have h9_0 := bg52_14_8_a0_; unfold bd at h9_0; have h9_1 := bme_; unfold bd at h9_1; have h9_2 := bo_; unfold bd at h9_2; have h9_3 := bop_; unfold bd at h9_3; have h9_4 := b_21; unfold bd at h9_4; have h9_5 := b_190; unfold bd at h9_5; have h9_6 := bw385_14_10_a0_; unfold bd at h9_6; have h9_7 := h_16; unfold bd at h9_7; have h9_8 := b_198; unfold bd at h9_8; have h9_9 := bx_199; unfold bd at h9_9; have h9_10 := bx_34; unfold bd at h9_10; have h9_11 := b_6; unfold bd at h9_11; have h9_12 := b_4; unfold bd at h9_12; have h9_13 := b_8; unfold bd at h9_13; have h8_0 := kb_0; unfold bd at h8_0; have h8_1 := kb_1; unfold bd at h8_1; have h8_2 := kb_11; unfold bd at h8_2; have h8_3 := kb_6; unfold bd at h8_3; have h8_4 := kb_7; unfold bd at h8_4; have h8_5 := kb_8; unfold bd at h8_5; have h8_6 := kb_m1; unfold bd at h8_6; omega)
                            have go_ := g
                            refine g_callEv (As := [.int 0, .int 2, .int x_199]) (rest := []) ⟨hx, hb, hml, hown, hts⟩ (r_X14_need_2 l dC dI L kd tys fr_211 H.size g.2.2.2.1 a0_ ma0_ ka0_ 0 kb_0 2 x_199) (cwV 3 hts (gV_ t_2403 t_2405 t_100 t_198 t_2406) rfl rfl rfl (by decide +kernel) ⟨(Nat.le_of_ble_eq_true rfl), (Nat.le_of_ble_eq_true rfl)⟩) (pre3V g hK ma0_ ka0_ (by decide) (q := (RX14, TX14, 67)) rfl) rfl hl.1 rfl (lv_room (Nat.le_of_ble_eq_true rfl)) dX14_readMark_449 (cl_f hck_0) g hK (by decide) (by decide) (fx' := [(14, 13, a0_, .long x_209), (14, 12, a0_, .long x_208), (14, 8, a0_, .int x_199), (14, 6, a0_, .int x_191), (12, 28, q0_, .ref a_149), (14, 22, a0_, .int 1), (12, 31, q0_, .ref a_43), (12, 30, q0_, .ref a_33), (12, 29, q0_, .ref a_23), (14, 10, a0_, .int w385_14_10_a0_), (12, 26, q0_, .ref g52_12_26_q0_), (12, 22, q0_, .ref g52_12_22_q0_), (14, 2, a0_, .ref q0_), (14, 16, a0_, .int o_), (14, 25, a0_, .int op_), (14, 17, a0_, .int me_)]) rfl (fun xr_221 fr_221 H locs mxr_221 kxr_221 hp hMr_221 g => ?_) (fun fr_221 H locs hp hMr_221 g => ?_)
                            · have hG_222 := isV.frame hMr_221 go_.2.2.2.1 mq0_ kq0_ (by decide) (by decide) hG_217
                              have hG_223 := FR.frame hMr_221 go_.2.2.2.1 mq0_ kq0_ (by decide) (by decide) hG_218
                              have hG_224 := cEq.frame hMr_221 go_.2.2.2.1 ma0_ ka0_ (by decide) (by decide) hG_219
                              subst hQ
                              exact leavesX hempty hlocks (fun t ht hW => g_thrZ g hK mxr_221 kxr_221 ⟨hG_223, (by omega)⟩ ht hW) g.2.2.1.2.2
                            · exact hp.elim
                          · have hG_225 := isV.frame hMr_211 go_.2.2.2.1 mq0_ kq0_ (by decide) (by decide) hG_205
                            have hG_226 := FR.frame hMr_211 go_.2.2.2.1 mq0_ kq0_ (by decide) (by decide) hG_206
                            have hG_227 := cEq.frame hMr_211 go_.2.2.2.1 ma0_ ka0_ (by decide) (by decide) hG_207
                            refine lv_istore (lv' := [(4, .int r_211), (3, .int v385_3), (2, .int y_7), (1, .int x_2), (0, .ref a0_)]) hx hb dX14_readMark_430 hl (by decide) rfl (fun ls hl => ?_)
                            refine lv_aload_n hx hb dX14_readMark_432 rfl (lv_at hl 4 rfl) ?_
                            refine lv_iload hx hb dX14_readMark_433 (lv_at hl 0 rfl) ?_
                            refine lv_iconst (v := (-1)) hx hb dX14_readMark_435 (by decide) ?_
                            refine lv_icmp_eq (tgt := 443) hx hb dX14_readMark_436 (by decide) (fun c_228 => ?_) (fun c_228 => ?_)
                            · have fc_228 := eq_f c_228
                              have b_229 : bd 0 (-1) r_211 := eqX fc_228 h_216 kb_m1 (by decide)
                              exact bd_no b_229 (by decide)
                            · have fc_228 := neq_f c_228
                              refine lv_iconst (v := 1) hx hb dX14_readMark_439 (by decide) ?_
                              refine lv_goto (tgt := 444) hx hb dX14_readMark_440 (by decide) ?_
                              refine lv_iconst (v := 2) hx hb dX14_readMark_444 (by decide) ?_
                              refine lv_aload_n hx hb dX14_readMark_445 rfl (lv_at hl 4 rfl) ?_
                              refine g_getk (C := RX14) (T := TX14) (N := 67) hx hb hts (mc_ inX14) hown hK g rfl 8 (by decide) rfl (hts _ (List.mem_cons_of_mem _ t_2154)) (fun _ h9 => h9) 2 rfl dX14_readMark_446 ?_
                              have hs_230 := sE_1 g 3 rfl (by have h9_0 := bg52_14_8_a0_; unfold bd at h9_0; have h9_1 := bme_; unfold bd at h9_1; have h9_2 := bo_; unfold bd at h9_2; have h9_3 := bop_; unfold bd at h9_3; have h9_4 := h_216; unfold bd at h9_4; have h9_5 := b_21; unfold bd at h9_5; have h9_6 := b_190; unfold bd at h9_6; have h9_7 := bw385_14_10_a0_; unfold bd at h9_7; have h9_8 := h_16; unfold bd at h9_8; have h9_9 := b_198; unfold bd at h9_9; have h9_10 := bx_199; unfold bd at h9_10; have h9_11 := bx_34; unfold bd at h9_11; have h9_12 := b_6; unfold bd at h9_12; have h9_13 := b_4; unfold bd at h9_13; have h9_14 := b_8; unfold bd at h9_14; have h8_0 := kb_0; unfold bd at h8_0; have h8_1 := kb_1; unfold bd at h8_1; have h8_2 := kb_11; unfold bd at h8_2; have h8_3 := kb_6; unfold bd at h8_3; have h8_4 := kb_7; unfold bd at h8_4; have h8_5 := kb_8; unfold bd at h8_5; have h8_6 := kb_m1; unfold bd at h8_6; omega)
                              have go_ := g
                              refine g_callEv (As := [.int 1, .int 2, .int x_199]) (rest := []) ⟨hx, hb, hml, hown, hts⟩ (r_X14_need_3 l dC dI L kd tys fr_211 H.size g.2.2.2.1 a0_ ma0_ ka0_ 1 kb_1 2 x_199) (cwV 3 hts (gV_ t_2403 t_2405 t_100 t_198 t_2406) rfl rfl rfl (by decide +kernel) ⟨(Nat.le_of_ble_eq_true rfl), (Nat.le_of_ble_eq_true rfl)⟩) (pre3V g hK ma0_ ka0_ (by decide) (q := (RX14, TX14, 67)) rfl) rfl hl.1 rfl (lv_room (Nat.le_of_ble_eq_true rfl)) dX14_readMark_449 (cl_f hck_0) g hK (by decide) (by decide) (fx' := [(14, 13, a0_, .long x_209), (14, 12, a0_, .long x_208), (14, 8, a0_, .int x_199), (14, 6, a0_, .int x_191), (12, 28, q0_, .ref a_149), (14, 22, a0_, .int 1), (12, 31, q0_, .ref a_43), (12, 30, q0_, .ref a_33), (12, 29, q0_, .ref a_23), (14, 10, a0_, .int w385_14_10_a0_), (12, 26, q0_, .ref g52_12_26_q0_), (12, 22, q0_, .ref g52_12_22_q0_), (14, 2, a0_, .ref q0_), (14, 16, a0_, .int o_), (14, 25, a0_, .int op_), (14, 17, a0_, .int me_)]) rfl (fun xr_231 fr_231 H locs mxr_231 kxr_231 hp hMr_231 g => ?_) (fun fr_231 H locs hp hMr_231 g => ?_)
                              · have hG_232 := isV.frame hMr_231 go_.2.2.2.1 mq0_ kq0_ (by decide) (by decide) hG_225
                                have hG_233 := FR.frame hMr_231 go_.2.2.2.1 mq0_ kq0_ (by decide) (by decide) hG_226
                                have hG_234 := cEq.frame hMr_231 go_.2.2.2.1 ma0_ ka0_ (by decide) (by decide) hG_227
                                exact hp.elim
                              · have hG_235 := isV.frame hMr_231 go_.2.2.2.1 mq0_ kq0_ (by decide) (by decide) hG_225
                                have hG_236 := FR.frame hMr_231 go_.2.2.2.1 mq0_ kq0_ (by decide) (by decide) hG_226
                                have hG_237 := cEq.frame hMr_231 go_.2.2.2.1 ma0_ ka0_ (by decide) (by decide) hG_227
                                refine lv_aload_n hx hb dX14_readMark_452 rfl (lv_at hl 4 rfl) ?_
                                refine g_getk (C := RX14) (T := TX14) (N := 67) hx hb hts (mc_ inX14) hown hK g rfl 2 (by decide) rfl (hts _ (List.mem_cons_of_mem _ t_2148)) (fun _ h9 => h9) 12 rfl dX14_readMark_453 ?_
                                refine g_getk (C := RX12) (T := TX12) (N := 60) hx hb hts (mc_ inX12) hown hK g rfl 31 (by decide) rfl (hts _ (List.mem_cons_of_mem _ t_1967)) (fun _ h9 => h9) 6 rfl dX14_readMark_456 ?_
                                refine lv_iload_n hx hb dX14_readMark_459 rfl (lv_at hl 2 rfl) ?_
                                refine lv_dup2_11 hx hb dX14_readMark_460 rfl rfl ?_
                                refine g_iald hx hb hK g ma_43 ka_43 (by decide) rfl (in_bd b_8 (by decide)) dX14_readMark_461 (fun x_238 bx_238 cx_238 => ?_)
                                have vx_238 : x_238 = V385.i 31 y_7.toNatClampNeg := hG_235.at g 6 rfl rfl cx_238
                                refine lv_iconst (v := 1) hx hb dX14_readMark_462 (by decide) ?_
                                refine lv_iload hx hb dX14_readMark_463 (lv_at hl 0 rfl) ?_
                                refine lv_ishl hx hb dX14_readMark_465 ?_
                                refine lv_topi (fun y_239 ey_239 => ?_)
                                refine lv_ior hx hb dX14_readMark_466 ?_
                                refine lv_topi (fun y_240 ey_240 => ?_)
                                have gp_242 := g
                                have go_ := g
                                refine g_iastX hx hb hK g ma_43 ka_43 (by decide) rfl (in_bd b_8 (by decide)) (bdT y_240) (by decide) dX14_readMark_467 (fun f H locs hM_243 u_245 g => ?_)
                                have hG_244 := cEq.frame hM_243 go_.2.2.2.1 ma0_ ka0_ (by decide) (by decide) hG_237
                                have hV_246 := isV.ui hG_235 gp_242 6 rfl mq0_ kq0_ rfl u_245
                                have hF_247 := FR.arr hG_236 gp_242 6 rfl mq0_ kq0_ rfl rfl u_245.1
                                have hki_248 : KI (V385.ui 31 y_7.toNatClampNeg y_240) δ_ o_.toNatClampNeg := KI.ui_ hki385 (by decide)
                                refine lv_aload_n hx hb dX14_readMark_468 rfl (lv_at hl 4 rfl) ?_
                                have hs_249 := sE_1 g 3 rfl (by have h9_0 := bg52_14_8_a0_; unfold bd at h9_0; have h9_1 := bme_; unfold bd at h9_1; have h9_2 := bo_; unfold bd at h9_2; have h9_3 := bop_; unfold bd at h9_3; have h9_4 := h_216; unfold bd at h9_4; have h9_5 := b_21; unfold bd at h9_5; have h9_6 := b_190; unfold bd at h9_6; have h9_7 := bw385_14_10_a0_; unfold bd at h9_7; have h9_8 := h_16; unfold bd at h9_8; have h9_9 := b_198; unfold bd at h9_9; have h9_10 := bx_199; unfold bd at h9_10; have h9_11 := bx_34; unfold bd at h9_11; have h9_12 := b_6; unfold bd at h9_12; have h9_13 := b_4; unfold bd at h9_13; have h9_14 := b_8; unfold bd at h9_14; have h8_0 := kb_0; unfold bd at h8_0; have h8_1 := kb_1; unfold bd at h8_1; have h8_2 := kb_11; unfold bd at h8_2; have h8_3 := kb_6; unfold bd at h8_3; have h8_4 := kb_7; unfold bd at h8_4; have h8_5 := kb_8; unfold bd at h8_5; have h8_6 := kb_m1; unfold bd at h8_6; omega)
                                have go_ := g
                                refine g_callEv (As := []) (rest := []) ⟨hx, hb, hml, hown, hts⟩ (r_X14_next_2 l dC dI L kd tys f H.size g.2.2.2.1 adK adV a0_ ma0_ ka0_ w385_14_10_a0_ bw385_14_10_a0_ (g.fcts [9] rfl)) (cwV 0 hts (gV_ t_2411 t_2413 t_102 t_198 t_2414) rfl rfl rfl (by decide +kernel) ⟨(Nat.le_of_ble_eq_true rfl), (Nat.le_of_ble_eq_true rfl)⟩) (pre3VA g hK hAm ma0_ ka0_ (by decide) (q := (RX14, TX14, 67)) rfl) rfl hl.1 rfl (lv_room (Nat.le_of_ble_eq_true rfl)) dX14_readMark_469 (cl_f hck_0) g hK (by decide) (by decide) (fx' := [(12, 28, q0_, .ref a_149), (14, 22, a0_, .int 1), (12, 31, q0_, .ref a_43), (12, 30, q0_, .ref a_33), (12, 29, q0_, .ref a_23), (12, 26, q0_, .ref g52_12_26_q0_), (12, 22, q0_, .ref g52_12_22_q0_), (14, 2, a0_, .ref q0_), (14, 16, a0_, .int o_), (14, 25, a0_, .int op_), (14, 17, a0_, .int me_)]) rfl (fun xr_250 fr_250 H locs mxr_250 kxr_250 hp hMr_250 g => ?_) (fun fr_250 H locs hp hMr_250 g => ?_)
                                · have hG_251 := isV.frame hMr_250 go_.2.2.2.1 mq0_ kq0_ (by decide) (by decide) hV_246
                                  have hG_252 := FR.frame hMr_250 go_.2.2.2.1 mq0_ kq0_ (by decide) (by decide) hF_247
                                  subst hQ
                                  exact leavesX hempty hlocks (fun t ht hW => g_thrZ g hK mxr_250 kxr_250 ⟨hG_252, (by omega)⟩ ht hW) g.2.2.1.2.2
                                · obtain ⟨hx_253, h_254, x_255, h_256, hF_257⟩ := hp
                                  have hG_258 := isV.frame hMr_250 go_.2.2.2.1 mq0_ kq0_ (by decide) (by decide) hV_246
                                  have hG_259 := FR.frame hMr_250 go_.2.2.2.1 mq0_ kq0_ (by decide) (by decide) hF_247
                                  obtain ⟨E_260, hE_260⟩ : ∃ E : Int, cEq fr_250 a0_ E := ⟨_, rfl⟩
                                  have mxE_260 : E_260 ≤ 1202 := by have h9 := cF_le g ma0_ ka0_; have h8 : cF _ _ = _ := hE_260; omega
                                  have lE_260 : E385 + 1 ≤ E_260 := by have h9 := hx_253; have h8 : cF _ _ = _ := hE_260; have h7 : cF _ _ = _ := hG_244; have h6 := hs_249; have h5 := tk_c (f := f) (t := a0_); omega
                                  have b_261 : bd 0 1200 w385_14_10_a0_ := eqX rfl bw385_14_10_a0_ h_254 (by decide)
                                  have g := g.more hF_257
                                  refine lv_aload_n hx hb dX14_readMark_472 rfl (lv_at hl 4 rfl) ?_
                                  refine lv_bipush (v := 44) hx hb dX14_readMark_473 (by decide) ?_
                                  have go_ := g
                                  refine g_calli (va_runV (As := [.int 44]) (rest := []) ⟨hx, hb, hml, hown, hts⟩ (r_X14_isSign l dC dI L kd tys fr_250 H.size g.2.2.2.1 a0_ ma0_ ka0_ 44) (cwV 1 hts (gV_ t_2435 t_2437 t_108 t_198 t_2438) rfl rfl rfl (by decide +kernel) ⟨(Nat.le_of_ble_eq_true rfl), (Nat.le_of_ble_eq_true rfl)⟩) (pre3V g hK ma0_ ka0_ (by decide) (q := (RX14, TX14, 67)) rfl) rfl rfl hl.1 rfl (lv_room (Nat.le_of_ble_eq_true rfl)) dX14_readMark_475 (cl_f hck_0)) g hK (by decide) (by decide) (fx' := [(14, 10, a0_, .int x_255), (12, 28, q0_, .ref a_149), (14, 22, a0_, .int 1), (12, 31, q0_, .ref a_43), (12, 30, q0_, .ref a_33), (12, 29, q0_, .ref a_23), (12, 26, q0_, .ref g52_12_26_q0_), (12, 22, q0_, .ref g52_12_22_q0_), (14, 2, a0_, .ref q0_), (14, 16, a0_, .int o_), (14, 25, a0_, .int op_), (14, 17, a0_, .int me_)]) rfl (fun r_262 fr_262 H locs hp hMr_262 g => ?_)
                                  rcases hp with ⟨h_263, -⟩ | ⟨h_264, x_265, h_266, hF_267⟩
                                  · have hG_268 := isV.frame hMr_262 go_.2.2.2.1 mq0_ kq0_ (by decide) (by decide) hG_258
                                    have hG_269 := FR.frame hMr_262 go_.2.2.2.1 mq0_ kq0_ (by decide) (by decide) hG_259
                                    have hG_270 := cEq.frame hMr_262 go_.2.2.2.1 ma0_ ka0_ (by decide) (by decide) hE_260
                                    obtain rfl : r_262 = 0 := h_263
                                    refine lv_istore_n (lv' := [(3, .int 0), (4, .int r_211), (2, .int y_7), (1, .int x_2), (0, .ref a0_)]) hx hb dX14_readMark_478 rfl hl (by decide) rfl (fun ls hl => ?_)
                                    refine lv_iload_n hx hb dX14_readMark_479 rfl (lv_at hl 0 rfl) ?_
                                    refine lv_if_eq (tgt := 487) hx hb dX14_readMark_480 (by decide) (fun c_ => ?_) (fun c_ => absurd (by decide) c_)
                                    refine lv_goto (tgt := 385) hx hb dX14_readMark_487 (by decide) ?_
                                    have hl9 := lv_sub hl [0, 2, 3, 4] (by rfl : lv_pick [(3, .int 0), (4, .int r_211), (2, .int y_7), (1, .int x_2), (0, .ref a0_)] [0, 2, 3, 4] = [(3, .int 0), (2, .int y_7), (1, .int x_2), (0, .ref a0_)])
                                    have g9 := g.sub (fx' := [(12, 28, q0_, .ref a_149), (14, 22, a0_, .int 1), (12, 31, q0_, .ref a_43), (12, 30, q0_, .ref a_33), (12, 29, q0_, .ref a_23), (14, 10, a0_, .int x_255), (12, 26, q0_, .ref g52_12_26_q0_), (12, 22, q0_, .ref g52_12_22_q0_), (14, 2, a0_, .ref q0_), (14, 16, a0_, .int o_), (14, 25, a0_, .int op_), (14, 17, a0_, .int me_)]) [1, 2, 3, 4, 5, 0, 6, 7, 8, 9, 10, 11] rfl
                                    exact ih385  0 x_255 (bd_sub kb_0 (by decide)) h_256 (by have h9_0 := bv385_3; unfold bd at h9_0; have h9_1 := bw385_14_10_a0_; unfold bd at h9_1; have h9_2 := h_256; unfold bd at h9_2; have h9_3 := kb_0; unfold bd at h9_3; have h9_4 := kb_1; unfold bd at h9_4; have h9_5 := kb_11; unfold bd at h9_5; have h9_6 := kb_6; unfold bd at h9_6; have h9_7 := kb_7; unfold bd at h9_7; have h9_8 := kb_8; unfold bd at h9_8; have h9_9 := kb_m1; unfold bd at h9_9; omega) _ _ _ _ g9 ⟨(V385.ui 31 y_7.toNatClampNeg y_240), _, hG_268, hG_269, hG_270, hki_248, (show x_5 = (V385.ui 31 y_7.toNatClampNeg y_240).i 22 _ from hq385), (show (V385.ui 31 y_7.toNatClampNeg y_240).i 18 = V_.i 18 from hp385), (show (V385.ui 31 y_7.toNatClampNeg y_240).n 27 = V_.n 27 from hn385), (show (V385.ui 31 y_7.toNatClampNeg y_240).i 28 y_7.toNatClampNeg = (6 : Int32) from hk385), (show (V385.ui 31 y_7.toNatClampNeg y_240).i 29 y_7.toNatClampNeg = ((-1) : Int32) from hx385), h57_385, h46_385, (by omega), (by omega), (by omega)⟩ hl9
                                  · have hG_271 := isV.frame hMr_262 go_.2.2.2.1 mq0_ kq0_ (by decide) (by decide) hG_258
                                    have hG_272 := FR.frame hMr_262 go_.2.2.2.1 mq0_ kq0_ (by decide) (by decide) hG_259
                                    have hG_273 := cEq.frame hMr_262 go_.2.2.2.1 ma0_ ka0_ (by decide) (by decide) hE_260
                                    obtain rfl : r_262 = 1 := h_264
                                    have g := g.more hF_267
                                    refine lv_istore_n (lv' := [(3, .int 1), (4, .int r_211), (2, .int y_7), (1, .int x_2), (0, .ref a0_)]) hx hb dX14_readMark_478 rfl hl (by decide) rfl (fun ls hl => ?_)
                                    refine lv_iload_n hx hb dX14_readMark_479 rfl (lv_at hl 0 rfl) ?_
                                    refine lv_if_eq (tgt := 487) hx hb dX14_readMark_480 (by decide) (fun c_ => absurd c_ (by decide)) (fun c_ => ?_)
                                    refine lv_aload_n hx hb dX14_readMark_483 rfl (lv_at hl 4 rfl) ?_
                                    have hs_274 := sE_1 g 0 rfl (by have h9_0 := bg52_14_8_a0_; unfold bd at h9_0; have h9_1 := bme_; unfold bd at h9_1; have h9_2 := bo_; unfold bd at h9_2; have h9_3 := bop_; unfold bd at h9_3; have h9_4 := h_216; unfold bd at h9_4; have h9_5 := b_21; unfold bd at h9_5; have h9_6 := b_190; unfold bd at h9_6; have h9_7 := b_261; unfold bd at h9_7; have h9_8 := h_16; unfold bd at h9_8; have h9_9 := b_198; unfold bd at h9_9; have h9_10 := bx_199; unfold bd at h9_10; have h9_11 := h_256; unfold bd at h9_11; have h9_12 := h_266; unfold bd at h9_12; have h9_13 := bx_34; unfold bd at h9_13; have h9_14 := b_6; unfold bd at h9_14; have h9_15 := b_4; unfold bd at h9_15; have h9_16 := b_8; unfold bd at h9_16; have h8_0 := kb_0; unfold bd at h8_0; have h8_1 := kb_1; unfold bd at h8_1; have h8_2 := kb_11; unfold bd at h8_2; have h8_3 := kb_6; unfold bd at h8_3; have h8_4 := kb_7; unfold bd at h8_4; have h8_5 := kb_8; unfold bd at h8_5; have h8_6 := kb_m1; unfold bd at h8_6; omega)
                                    have go_ := g
                                    refine g_callEv (As := []) (rest := []) ⟨hx, hb, hml, hown, hts⟩ (r_X14_next_2 l dC dI L kd tys fr_262 H.size g.2.2.2.1 adK adV a0_ ma0_ ka0_ x_255 h_256 (g.fcts [1] rfl)) (cwV 0 hts (gV_ t_2411 t_2413 t_102 t_198 t_2414) rfl rfl rfl (by decide +kernel) ⟨(Nat.le_of_ble_eq_true rfl), (Nat.le_of_ble_eq_true rfl)⟩) (pre3VA g hK hAm ma0_ ka0_ (by decide) (q := (RX14, TX14, 67)) rfl) rfl hl.1 rfl (lv_room (Nat.le_of_ble_eq_true rfl)) dX14_readMark_484 (cl_f hck_0) g hK (by decide) (by decide) (fx' := [(12, 28, q0_, .ref a_149), (14, 22, a0_, .int 1), (12, 31, q0_, .ref a_43), (12, 30, q0_, .ref a_33), (12, 29, q0_, .ref a_23), (12, 26, q0_, .ref g52_12_26_q0_), (12, 22, q0_, .ref g52_12_22_q0_), (14, 2, a0_, .ref q0_), (14, 16, a0_, .int o_), (14, 25, a0_, .int op_), (14, 17, a0_, .int me_)]) rfl (fun xr_275 fr_275 H locs mxr_275 kxr_275 hp hMr_275 g => ?_) (fun fr_275 H locs hp hMr_275 g => ?_)
                                    · have hG_276 := isV.frame hMr_275 go_.2.2.2.1 mq0_ kq0_ (by decide) (by decide) hG_271
                                      have hG_277 := FR.frame hMr_275 go_.2.2.2.1 mq0_ kq0_ (by decide) (by decide) hG_272
                                      subst hQ
                                      exact leavesX hempty hlocks (fun t ht hW => g_thrZ g hK mxr_275 kxr_275 ⟨hG_277, (by omega)⟩ ht hW) g.2.2.1.2.2
                                    · obtain ⟨hx_278, h_279, x_280, h_281, hF_282⟩ := hp
                                      have hG_283 := isV.frame hMr_275 go_.2.2.2.1 mq0_ kq0_ (by decide) (by decide) hG_271
                                      have hG_284 := FR.frame hMr_275 go_.2.2.2.1 mq0_ kq0_ (by decide) (by decide) hG_272
                                      obtain ⟨E_285, hE_285⟩ : ∃ E : Int, cEq fr_275 a0_ E := ⟨_, rfl⟩
                                      have mxE_285 : E_285 ≤ 1202 := by have h9 := cF_le g ma0_ ka0_; have h8 : cF _ _ = _ := hE_285; omega
                                      have lE_285 : E_260 + 1 ≤ E_285 := by have h9 := hx_278; have h8 : cF _ _ = _ := hE_285; have h7 : cF _ _ = _ := hG_273; have h6 := hs_274; have h5 := tk_c (f := fr_262) (t := a0_); omega
                                      have b_286 : bd 0 1200 x_255 := eqX rfl h_256 h_279 (by decide)
                                      have g := g.more hF_282
                                      refine lv_goto (tgt := 385) hx hb dX14_readMark_487 (by decide) ?_
                                      have hl9 := lv_sub hl [0, 2, 3, 4] (by rfl : lv_pick [(3, .int 1), (4, .int r_211), (2, .int y_7), (1, .int x_2), (0, .ref a0_)] [0, 2, 3, 4] = [(3, .int 1), (2, .int y_7), (1, .int x_2), (0, .ref a0_)])
                                      have g9 := g.sub (fx' := [(12, 28, q0_, .ref a_149), (14, 22, a0_, .int 1), (12, 31, q0_, .ref a_43), (12, 30, q0_, .ref a_33), (12, 29, q0_, .ref a_23), (14, 10, a0_, .int x_280), (12, 26, q0_, .ref g52_12_26_q0_), (12, 22, q0_, .ref g52_12_22_q0_), (14, 2, a0_, .ref q0_), (14, 16, a0_, .int o_), (14, 25, a0_, .int op_), (14, 17, a0_, .int me_)]) [1, 2, 3, 4, 5, 0, 6, 7, 8, 9, 10, 11] rfl
                                      exact ih385  1 x_280 (bd_sub kb_1 (by decide)) h_281 (by have h9_0 := bv385_3; unfold bd at h9_0; have h9_1 := bw385_14_10_a0_; unfold bd at h9_1; have h9_2 := h_281; unfold bd at h9_2; have h9_3 := kb_0; unfold bd at h9_3; have h9_4 := kb_1; unfold bd at h9_4; have h9_5 := kb_11; unfold bd at h9_5; have h9_6 := kb_6; unfold bd at h9_6; have h9_7 := kb_7; unfold bd at h9_7; have h9_8 := kb_8; unfold bd at h9_8; have h9_9 := kb_m1; unfold bd at h9_9; omega) _ _ _ _ g9 ⟨(V385.ui 31 y_7.toNatClampNeg y_240), _, hG_283, hG_284, hE_285, hki_248, (show x_5 = (V385.ui 31 y_7.toNatClampNeg y_240).i 22 _ from hq385), (show (V385.ui 31 y_7.toNatClampNeg y_240).i 18 = V_.i 18 from hp385), (show (V385.ui 31 y_7.toNatClampNeg y_240).n 27 = V_.n 27 from hn385), (show (V385.ui 31 y_7.toNatClampNeg y_240).i 28 y_7.toNatClampNeg = (6 : Int32) from hk385), (show (V385.ui 31 y_7.toNatClampNeg y_240).i 29 y_7.toNatClampNeg = ((-1) : Int32) from hx385), h57_385, h46_385, (by omega), (by omega), (by omega)⟩ hl9
                have hl9 := lv_sub hl [0, 1, 2, 3] (by rfl : lv_pick [(3, .int 1), (2, .int y_7), (1, .int x_2), (0, .ref a0_)] [0, 1, 2, 3] = [(3, .int 1), (2, .int y_7), (1, .int x_2), (0, .ref a0_)])
                have g9 := g.sub (fx' := [(12, 28, q0_, .ref a_149), (14, 22, a0_, .int 1), (12, 31, q0_, .ref a_43), (12, 30, q0_, .ref a_33), (12, 29, q0_, .ref a_23), (14, 10, a0_, .int x_15), (12, 26, q0_, .ref g52_12_26_q0_), (12, 22, q0_, .ref g52_12_22_q0_), (14, 2, a0_, .ref q0_), (14, 16, a0_, .int o_), (14, 25, a0_, .int op_), (14, 17, a0_, .int me_)]) [0, 1, 2, 4, 5, 6, 7, 8, 9, 10, 11, 12] rfl
                exact loop_159 (1300) 1 x_15 (bd_sub kb_1 (by decide)) h_16 (by have h9_0 := h_16; unfold bd at h9_0; have h9_1 := kb_0; unfold bd at h9_1; have h9_2 := kb_1; unfold bd at h9_2; have h9_3 := kb_11; unfold bd at h9_3; have h9_4 := kb_6; unfold bd at h9_4; have h9_5 := kb_7; unfold bd at h9_5; have h9_6 := kb_8; unfold bd at h9_6; have h9_7 := kb_m1; unfold bd at h9_7; omega) _ _ _ _ g9 ⟨((((V_.ui 29 y_7.toNatClampNeg ((-1) : Int32)).ui 30 y_7.toNatClampNeg x_34).ui 31 y_7.toNatClampNeg (0 : Int32)).ui 28 y_7.toNatClampNeg (6 : Int32)), _, hV_155, hF_156, hG_153, hki_157, (show x_5 = ((((V_.ui 29 y_7.toNatClampNeg ((-1) : Int32)).ui 30 y_7.toNatClampNeg x_34).ui 31 y_7.toNatClampNeg (0 : Int32)).ui 28 y_7.toNatClampNeg (6 : Int32)).i 22 _ from vx_5), (show ((((V_.ui 29 y_7.toNatClampNeg ((-1) : Int32)).ui 30 y_7.toNatClampNeg x_34).ui 31 y_7.toNatClampNeg (0 : Int32)).ui 28 y_7.toNatClampNeg (6 : Int32)).i 18 = V_.i 18 from p18_0), (show ((((V_.ui 29 y_7.toNatClampNeg ((-1) : Int32)).ui 30 y_7.toNatClampNeg x_34).ui 31 y_7.toNatClampNeg (0 : Int32)).ui 28 y_7.toNatClampNeg (6 : Int32)).n 27 = V_.n 27 from p27_0), (show ((((V_.ui 29 y_7.toNatClampNeg ((-1) : Int32)).ui 30 y_7.toNatClampNeg x_34).ui 31 y_7.toNatClampNeg (0 : Int32)).ui 28 y_7.toNatClampNeg (6 : Int32)).i 28 y_7.toNatClampNeg = (6 : Int32) from q_158), (show ((((V_.ui 29 y_7.toNatClampNeg ((-1) : Int32)).ui 30 y_7.toNatClampNeg x_34).ui 31 y_7.toNatClampNeg (0 : Int32)).ui 28 y_7.toNatClampNeg (6 : Int32)).i 29 y_7.toNatClampNeg = ((-1) : Int32) from q_32), rfl, rfl, (by omega), (by omega), (by omega)⟩ hl9
              · have fc_148 := eq_f c_148
                have b_287 : bd 8 8 x_2 := eqX fc_148 (bdT x_2) kb_8 (by decide)
                refine lv_aload_n hx hb dX14_readMark_272 rfl (lv_at hl 2 rfl) ?_
                refine g_getk (C := RX14) (T := TX14) (N := 67) hx hb hts (mc_ inX14) hown hK g rfl 2 (by decide) rfl (hts _ (List.mem_cons_of_mem _ t_2148)) (fun _ h9 => h9) 8 rfl dX14_readMark_273 ?_
                refine g_getr (K := 183) (C := RX12) (T := TX12) (N := 60) hx hb hts (mc_ inX12) hown hK g mq0_ kq0_ (by decide) rfl 28 (by decide) rfl (hts _ (List.mem_cons_of_mem _ t_1961)) (fun _ h9 => h9) rfl dX14_readMark_276 (fun a_288 ma_288 ka_288 g => ?_)
                refine lv_iload_n hx hb dX14_readMark_279 rfl (lv_at hl 0 rfl) ?_
                refine lv_iconst (v := 5) hx hb dX14_readMark_280 (by decide) ?_
                have hb_289 : ∀ c : Nat, c < 110 → ((((V_.ui 29 y_7.toNatClampNeg ((-1) : Int32)).ui 30 y_7.toNatClampNeg x_34).ui 31 y_7.toNatClampNeg (0 : Int32)).i 22 c).toInt ≤ 8 := (fun c hc => (isV.rng hG_54 g mq0_ kq0_ (j := 22) (K := 178) (by decide) rfl (by decide) rfl hc).2)
                have gp_290 := g
                have kb_5 : bd 5 5 (5 : Int32) := ⟨by decide, by decide⟩
                have go_ := g
                refine g_iastX hx hb hK g ma_288 ka_288 (by decide) rfl (in_bd b_8 (by decide)) (bd_sub kb_5 (by decide)) (by decide) dX14_readMark_281 (fun f H locs hM_291 u_293 g => ?_)
                have hG_292 := cEq.frame hM_291 go_.2.2.2.1 ma0_ ka0_ (by decide) (by decide) hG_53
                have hV_294 := isV.ui hG_54 gp_290 0 rfl mq0_ kq0_ rfl u_293
                have hF_295 := FR.arr hG_55 gp_290 0 rfl mq0_ kq0_ rfl rfl u_293.1
                have hki_296 : KI ((((V_.ui 29 y_7.toNatClampNeg ((-1) : Int32)).ui 30 y_7.toNatClampNeg x_34).ui 31 y_7.toNatClampNeg (0 : Int32)).ui 28 y_7.toNatClampNeg (5 : Int32)) δ_ o_.toNatClampNeg := KI.u28 (a := me_.toNatClampNeg) hki_51 (by decide) hb_289 (by rw [← (show x_5 = (((V_.ui 29 y_7.toNatClampNeg ((-1) : Int32)).ui 30 y_7.toNatClampNeg x_34).ui 31 y_7.toNatClampNeg (0 : Int32)).i 22 me_.toNatClampNeg from vx_5)]; exact b_6.1) (by rw [← (show x_5 = (((V_.ui 29 y_7.toNatClampNeg ((-1) : Int32)).ui 30 y_7.toNatClampNeg x_34).ui 31 y_7.toNatClampNeg (0 : Int32)).i 22 me_.toNatClampNeg from vx_5), tnZ (by have h9_0 := bg52_14_8_a0_; unfold bd at h9_0; have h9_1 := bme_; unfold bd at h9_1; have h9_2 := bo_; unfold bd at h9_2; have h9_3 := bop_; unfold bd at h9_3; have h9_4 := b_21; unfold bd at h9_4; have h9_5 := h_16; unfold bd at h9_5; have h9_6 := b_287; unfold bd at h9_6; have h9_7 := bx_34; unfold bd at h9_7; have h9_8 := b_6; unfold bd at h9_8; have h9_9 := b_4; unfold bd at h9_9; have h9_10 := b_8; unfold bd at h9_10; have h8_0 := kb_0; unfold bd at h8_0; have h8_1 := kb_1; unfold bd at h8_1; have h8_2 := kb_11; unfold bd at h8_2; have h8_3 := kb_5; unfold bd at h8_3; have h8_4 := kb_6; unfold bd at h8_4; have h8_5 := kb_7; unfold bd at h8_5; have h8_6 := kb_8; unfold bd at h8_6; have h8_7 := kb_m1; unfold bd at h8_7; omega), tnZ bme_.1]; have h9_0 := bg52_14_8_a0_; unfold bd at h9_0; have h9_1 := bme_; unfold bd at h9_1; have h9_2 := bo_; unfold bd at h9_2; have h9_3 := bop_; unfold bd at h9_3; have h9_4 := b_21; unfold bd at h9_4; have h9_5 := h_16; unfold bd at h9_5; have h9_6 := b_287; unfold bd at h9_6; have h9_7 := bx_34; unfold bd at h9_7; have h9_8 := b_6; unfold bd at h9_8; have h9_9 := b_4; unfold bd at h9_9; have h9_10 := b_8; unfold bd at h9_10; have h8_0 := kb_0; unfold bd at h8_0; have h8_1 := kb_1; unfold bd at h8_1; have h8_2 := kb_11; unfold bd at h8_2; have h8_3 := kb_5; unfold bd at h8_3; have h8_4 := kb_6; unfold bd at h8_4; have h8_5 := kb_7; unfold bd at h8_5; have h8_6 := kb_8; unfold bd at h8_6; have h8_7 := kb_m1; unfold bd at h8_7; omega) (by rw [← (show x_5 = (((V_.ui 29 y_7.toNatClampNeg ((-1) : Int32)).ui 30 y_7.toNatClampNeg x_34).ui 31 y_7.toNatClampNeg (0 : Int32)).i 22 me_.toNatClampNeg from vx_5)]; have h9_0 := bg52_14_8_a0_; unfold bd at h9_0; have h9_1 := bme_; unfold bd at h9_1; have h9_2 := bo_; unfold bd at h9_2; have h9_3 := bop_; unfold bd at h9_3; have h9_4 := b_21; unfold bd at h9_4; have h9_5 := h_16; unfold bd at h9_5; have h9_6 := b_287; unfold bd at h9_6; have h9_7 := bx_34; unfold bd at h9_7; have h9_8 := b_6; unfold bd at h9_8; have h9_9 := b_4; unfold bd at h9_9; have h9_10 := b_8; unfold bd at h9_10; have h8_0 := kb_0; unfold bd at h8_0; have h8_1 := kb_1; unfold bd at h8_1; have h8_2 := kb_11; unfold bd at h8_2; have h8_3 := kb_5; unfold bd at h8_3; have h8_4 := kb_6; unfold bd at h8_4; have h8_5 := kb_7; unfold bd at h8_5; have h8_6 := kb_8; unfold bd at h8_6; have h8_7 := kb_m1; unfold bd at h8_7; omega)
                have q_297 : ((((V_.ui 29 y_7.toNatClampNeg ((-1) : Int32)).ui 30 y_7.toNatClampNeg x_34).ui 31 y_7.toNatClampNeg (0 : Int32)).ui 28 y_7.toNatClampNeg (5 : Int32)).i 28 y_7.toNatClampNeg = (5 : Int32) := ui_same
                refine lv_aload_n hx hb dX14_readMark_282 rfl (lv_at hl 2 rfl) ?_
                refine lv_aload_n hx hb dX14_readMark_283 rfl (lv_at hl 2 rfl) ?_
                refine g_geti (C := RX14) (T := TX14) (N := 67) hx hb hts (mc_ inX14) hown hK g ma0_ ka0_ (by decide) rfl 6 (by decide) rfl (hts _ (List.mem_cons_of_mem _ t_2152)) (fun _ h9 => h9) rfl dX14_readMark_284 (fun x_298 bx_298 g => ?_)
                refine lv_iconst (v := 1) hx hb dX14_readMark_287 (by decide) ?_
                refine lv_icmp_ne (tgt := 295) hx hb dX14_readMark_288 (by decide) (fun c_299 => ?_) (fun c_299 => ?_)
                · have fc_299 := neq_f c_299
                  refine lv_iconst (v := 0) hx hb dX14_readMark_295 (by decide) ?_
                  refine lv_iconst (v := 1) hx hb dX14_readMark_296 (by decide) ?_
                  refine lv_aload_n hx hb dX14_readMark_297 rfl (lv_at hl 2 rfl) ?_
                  refine g_getk (C := RX14) (T := TX14) (N := 67) hx hb hts (mc_ inX14) hown hK g rfl 8 (by decide) rfl (hts _ (List.mem_cons_of_mem _ t_2154)) (fun _ h9 => h9) 4 rfl dX14_readMark_298 ?_
                  have go_ := g
                  refine g_callEv (As := [.int 0, .int 1, .int x_34]) (rest := []) ⟨hx, hb, hml, hown, hts⟩ (r_X14_need_2 l dC dI L kd tys f H.size g.2.2.2.1 a0_ ma0_ ka0_ 0 kb_0 1 x_34) (cwV 3 hts (gV_ t_2403 t_2405 t_100 t_198 t_2406) rfl rfl rfl (by decide +kernel) ⟨(Nat.le_of_ble_eq_true rfl), (Nat.le_of_ble_eq_true rfl)⟩) (pre3V g hK ma0_ ka0_ (by decide) (q := (RX14, TX14, 67)) rfl) rfl hl.1 rfl (lv_room (Nat.le_of_ble_eq_true rfl)) dX14_readMark_301 (cl_f hck_0) g hK (by decide) (by decide) (fx' := [(14, 6, a0_, .int x_298), (12, 28, q0_, .ref a_288), (14, 22, a0_, .int 1), (12, 31, q0_, .ref a_43), (14, 8, a0_, .int x_34), (12, 30, q0_, .ref a_33), (12, 29, q0_, .ref a_23), (14, 10, a0_, .int x_15), (12, 26, q0_, .ref g52_12_26_q0_), (12, 22, q0_, .ref g52_12_22_q0_), (14, 2, a0_, .ref q0_), (14, 16, a0_, .int o_), (14, 25, a0_, .int op_), (14, 17, a0_, .int me_)]) rfl (fun xr_300 fr_300 H locs mxr_300 kxr_300 hp hMr_300 g => ?_) (fun fr_300 H locs hp hMr_300 g => ?_)
                  · have hG_301 := cEq.frame hMr_300 go_.2.2.2.1 ma0_ ka0_ (by decide) (by decide) hG_292
                    have hG_302 := isV.frame hMr_300 go_.2.2.2.1 mq0_ kq0_ (by decide) (by decide) hV_294
                    have hG_303 := FR.frame hMr_300 go_.2.2.2.1 mq0_ kq0_ (by decide) (by decide) hF_295
                    subst hQ
                    exact leavesX hempty hlocks (fun t ht hW => g_thrZ g hK mxr_300 kxr_300 ⟨hG_303, (by omega)⟩ ht hW) g.2.2.1.2.2
                  · exact hp.elim
                · have fc_299 := eq_f c_299
                  have b_304 : bd 1 1 x_298 := eqX fc_299 bx_298 kb_1 (by decide)
                  refine lv_iconst (v := 1) hx hb dX14_readMark_291 (by decide) ?_
                  refine lv_goto (tgt := 296) hx hb dX14_readMark_292 (by decide) ?_
                  refine lv_iconst (v := 1) hx hb dX14_readMark_296 (by decide) ?_
                  refine lv_aload_n hx hb dX14_readMark_297 rfl (lv_at hl 2 rfl) ?_
                  refine g_getk (C := RX14) (T := TX14) (N := 67) hx hb hts (mc_ inX14) hown hK g rfl 8 (by decide) rfl (hts _ (List.mem_cons_of_mem _ t_2154)) (fun _ h9 => h9) 4 rfl dX14_readMark_298 ?_
                  have hs_305 := sE_1 g 0 rfl (by have h9_0 := bg52_14_8_a0_; unfold bd at h9_0; have h9_1 := bme_; unfold bd at h9_1; have h9_2 := bo_; unfold bd at h9_2; have h9_3 := bop_; unfold bd at h9_3; have h9_4 := b_21; unfold bd at h9_4; have h9_5 := h_16; unfold bd at h9_5; have h9_6 := b_287; unfold bd at h9_6; have h9_7 := b_304; unfold bd at h9_7; have h9_8 := bx_34; unfold bd at h9_8; have h9_9 := b_6; unfold bd at h9_9; have h9_10 := b_4; unfold bd at h9_10; have h9_11 := b_8; unfold bd at h9_11; have h8_0 := kb_0; unfold bd at h8_0; have h8_1 := kb_1; unfold bd at h8_1; have h8_2 := kb_11; unfold bd at h8_2; have h8_3 := kb_5; unfold bd at h8_3; have h8_4 := kb_6; unfold bd at h8_4; have h8_5 := kb_7; unfold bd at h8_5; have h8_6 := kb_8; unfold bd at h8_6; have h8_7 := kb_m1; unfold bd at h8_7; omega)
                  have go_ := g
                  refine g_callEv (As := [.int 1, .int 1, .int x_34]) (rest := []) ⟨hx, hb, hml, hown, hts⟩ (r_X14_need_3 l dC dI L kd tys f H.size g.2.2.2.1 a0_ ma0_ ka0_ 1 kb_1 1 x_34) (cwV 3 hts (gV_ t_2403 t_2405 t_100 t_198 t_2406) rfl rfl rfl (by decide +kernel) ⟨(Nat.le_of_ble_eq_true rfl), (Nat.le_of_ble_eq_true rfl)⟩) (pre3V g hK ma0_ ka0_ (by decide) (q := (RX14, TX14, 67)) rfl) rfl hl.1 rfl (lv_room (Nat.le_of_ble_eq_true rfl)) dX14_readMark_301 (cl_f hck_0) g hK (by decide) (by decide) (fx' := [(14, 6, a0_, .int x_298), (12, 28, q0_, .ref a_288), (14, 22, a0_, .int 1), (12, 31, q0_, .ref a_43), (14, 8, a0_, .int x_34), (12, 30, q0_, .ref a_33), (12, 29, q0_, .ref a_23), (14, 10, a0_, .int x_15), (12, 26, q0_, .ref g52_12_26_q0_), (12, 22, q0_, .ref g52_12_22_q0_), (14, 2, a0_, .ref q0_), (14, 16, a0_, .int o_), (14, 25, a0_, .int op_), (14, 17, a0_, .int me_)]) rfl (fun xr_306 fr_306 H locs mxr_306 kxr_306 hp hMr_306 g => ?_) (fun fr_306 H locs hp hMr_306 g => ?_)
                  · have hG_307 := cEq.frame hMr_306 go_.2.2.2.1 ma0_ ka0_ (by decide) (by decide) hG_292
                    have hG_308 := isV.frame hMr_306 go_.2.2.2.1 mq0_ kq0_ (by decide) (by decide) hV_294
                    have hG_309 := FR.frame hMr_306 go_.2.2.2.1 mq0_ kq0_ (by decide) (by decide) hF_295
                    exact hp.elim
                  · have hG_310 := cEq.frame hMr_306 go_.2.2.2.1 ma0_ ka0_ (by decide) (by decide) hG_292
                    have hG_311 := isV.frame hMr_306 go_.2.2.2.1 mq0_ kq0_ (by decide) (by decide) hV_294
                    have hG_312 := FR.frame hMr_306 go_.2.2.2.1 mq0_ kq0_ (by decide) (by decide) hF_295
                    refine lv_aload_n hx hb dX14_readMark_304 rfl (lv_at hl 2 rfl) ?_
                    refine g_getk (C := RX14) (T := TX14) (N := 67) hx hb hts (mc_ inX14) hown hK g rfl 2 (by decide) rfl (hts _ (List.mem_cons_of_mem _ t_2148)) (fun _ h9 => h9) 10 rfl dX14_readMark_305 ?_
                    refine g_getr (K := 187) (C := RX12) (T := TX12) (N := 60) hx hb hts (mc_ inX12) hown hK g mq0_ kq0_ (by decide) rfl 32 (by decide) rfl (hts _ (List.mem_cons_of_mem _ t_1969)) (fun _ h9 => h9) rfl dX14_readMark_308 (fun a_313 ma_313 ka_313 g => ?_)
                    refine lv_iload_n hx hb dX14_readMark_311 rfl (lv_at hl 0 rfl) ?_
                    refine lv_aload_n hx hb dX14_readMark_312 rfl (lv_at hl 2 rfl) ?_
                    refine g_getl (C := RX14) (T := TX14) (N := 67) hx hb hts (mc_ inX14) hown hK g ma0_ ka0_ (by decide) rfl 12 (by decide) rfl (hts _ (List.mem_cons_of_mem _ t_2158)) (fun _ h9 => h9) rfl dX14_readMark_313 (fun x_314 g => ?_)
                    have gp_316 := g
                    have go_ := g
                    refine g_lastX hx hb hK g ma_313 ka_313 (by decide) rfl (in_bd b_8 (by decide)) (by decide) dX14_readMark_316 (fun f H locs hM_317 u_319 g => ?_)
                    have hG_318 := cEq.frame hM_317 go_.2.2.2.1 ma0_ ka0_ (by decide) (by decide) hG_310
                    have hV_320 := isV.ul hG_311 gp_316 1 rfl mq0_ kq0_ rfl u_319
                    have hF_321 := FR.arr hG_312 gp_316 1 rfl mq0_ kq0_ rfl rfl u_319.1
                    have hki_322 : KI (((((V_.ui 29 y_7.toNatClampNeg ((-1) : Int32)).ui 30 y_7.toNatClampNeg x_34).ui 31 y_7.toNatClampNeg (0 : Int32)).ui 28 y_7.toNatClampNeg (5 : Int32)).ul 32 y_7.toNatClampNeg x_314) δ_ o_.toNatClampNeg := KI.ul_ hki_296 (by decide)
                    refine lv_aload_n hx hb dX14_readMark_317 rfl (lv_at hl 2 rfl) ?_
                    refine g_getk (C := RX14) (T := TX14) (N := 67) hx hb hts (mc_ inX14) hown hK g rfl 2 (by decide) rfl (hts _ (List.mem_cons_of_mem _ t_2148)) (fun _ h9 => h9) 12 rfl dX14_readMark_318 ?_
                    refine g_getr (K := 188) (C := RX12) (T := TX12) (N := 60) hx hb hts (mc_ inX12) hown hK g mq0_ kq0_ (by decide) rfl 33 (by decide) rfl (hts _ (List.mem_cons_of_mem _ t_1971)) (fun _ h9 => h9) rfl dX14_readMark_321 (fun a_323 ma_323 ka_323 g => ?_)
                    refine lv_iload_n hx hb dX14_readMark_324 rfl (lv_at hl 0 rfl) ?_
                    refine lv_aload_n hx hb dX14_readMark_325 rfl (lv_at hl 2 rfl) ?_
                    refine g_getl (C := RX14) (T := TX14) (N := 67) hx hb hts (mc_ inX14) hown hK g ma0_ ka0_ (by decide) rfl 13 (by decide) rfl (hts _ (List.mem_cons_of_mem _ t_2159)) (fun _ h9 => h9) rfl dX14_readMark_326 (fun x_324 g => ?_)
                    have gp_326 := g
                    have go_ := g
                    refine g_lastX hx hb hK g ma_323 ka_323 (by decide) rfl (in_bd b_8 (by decide)) (by decide) dX14_readMark_329 (fun f H locs hM_327 u_329 g => ?_)
                    have hG_328 := cEq.frame hM_327 go_.2.2.2.1 ma0_ ka0_ (by decide) (by decide) hG_318
                    have hV_330 := isV.ul hV_320 gp_326 1 rfl mq0_ kq0_ rfl u_329
                    have hF_331 := FR.arr hF_321 gp_326 1 rfl mq0_ kq0_ rfl rfl u_329.1
                    have hki_332 : KI ((((((V_.ui 29 y_7.toNatClampNeg ((-1) : Int32)).ui 30 y_7.toNatClampNeg x_34).ui 31 y_7.toNatClampNeg (0 : Int32)).ui 28 y_7.toNatClampNeg (5 : Int32)).ul 32 y_7.toNatClampNeg x_314).ul 33 y_7.toNatClampNeg x_324) δ_ o_.toNatClampNeg := KI.ul_ hki_322 (by decide)
                    refine lv_aload_n hx hb dX14_readMark_330 rfl (lv_at hl 2 rfl) ?_
                    have hs_333 := sE_1 g 4 rfl (by have h9_0 := bg52_14_8_a0_; unfold bd at h9_0; have h9_1 := bme_; unfold bd at h9_1; have h9_2 := bo_; unfold bd at h9_2; have h9_3 := bop_; unfold bd at h9_3; have h9_4 := b_21; unfold bd at h9_4; have h9_5 := h_16; unfold bd at h9_5; have h9_6 := b_287; unfold bd at h9_6; have h9_7 := b_304; unfold bd at h9_7; have h9_8 := bx_34; unfold bd at h9_8; have h9_9 := b_6; unfold bd at h9_9; have h9_10 := b_4; unfold bd at h9_10; have h9_11 := b_8; unfold bd at h9_11; have h8_0 := kb_0; unfold bd at h8_0; have h8_1 := kb_1; unfold bd at h8_1; have h8_2 := kb_11; unfold bd at h8_2; have h8_3 := kb_5; unfold bd at h8_3; have h8_4 := kb_6; unfold bd at h8_4; have h8_5 := kb_7; unfold bd at h8_5; have h8_6 := kb_8; unfold bd at h8_6; have h8_7 := kb_m1; unfold bd at h8_7; omega)
                    have go_ := g
                    refine g_callEv (As := []) (rest := []) ⟨hx, hb, hml, hown, hts⟩ (r_X14_next_2 l dC dI L kd tys f H.size g.2.2.2.1 adK adV a0_ ma0_ ka0_ x_15 h_16 (g.fcts [11] rfl)) (cwV 0 hts (gV_ t_2411 t_2413 t_102 t_198 t_2414) rfl rfl rfl (by decide +kernel) ⟨(Nat.le_of_ble_eq_true rfl), (Nat.le_of_ble_eq_true rfl)⟩) (pre3VA g hK hAm ma0_ ka0_ (by decide) (q := (RX14, TX14, 67)) rfl) rfl hl.1 rfl (lv_room (Nat.le_of_ble_eq_true rfl)) dX14_readMark_331 (cl_f hck_0) g hK (by decide) (by decide) (fx' := [(12, 33, q0_, .ref a_323), (12, 32, q0_, .ref a_313), (12, 28, q0_, .ref a_288), (14, 22, a0_, .int 1), (12, 31, q0_, .ref a_43), (12, 30, q0_, .ref a_33), (12, 29, q0_, .ref a_23), (12, 26, q0_, .ref g52_12_26_q0_), (12, 22, q0_, .ref g52_12_22_q0_), (14, 2, a0_, .ref q0_), (14, 16, a0_, .int o_), (14, 25, a0_, .int op_), (14, 17, a0_, .int me_)]) rfl (fun xr_334 fr_334 H locs mxr_334 kxr_334 hp hMr_334 g => ?_) (fun fr_334 H locs hp hMr_334 g => ?_)
                    · have hG_335 := isV.frame hMr_334 go_.2.2.2.1 mq0_ kq0_ (by decide) (by decide) hV_330
                      have hG_336 := FR.frame hMr_334 go_.2.2.2.1 mq0_ kq0_ (by decide) (by decide) hF_331
                      subst hQ
                      exact leavesX hempty hlocks (fun t ht hW => g_thrZ g hK mxr_334 kxr_334 ⟨hG_336, (by omega)⟩ ht hW) g.2.2.1.2.2
                    · obtain ⟨hx_337, h_338, x_339, h_340, hF_341⟩ := hp
                      have hG_342 := isV.frame hMr_334 go_.2.2.2.1 mq0_ kq0_ (by decide) (by decide) hV_330
                      have hG_343 := FR.frame hMr_334 go_.2.2.2.1 mq0_ kq0_ (by decide) (by decide) hF_331
                      obtain ⟨E_344, hE_344⟩ : ∃ E : Int, cEq fr_334 a0_ E := ⟨_, rfl⟩
                      have mxE_344 : E_344 ≤ 1202 := by have h9 := cF_le g ma0_ ka0_; have h8 : cF _ _ = _ := hE_344; omega
                      have lE_344 : E_20 + 1 ≤ E_344 := by have h9 := hx_337; have h8 : cF _ _ = _ := hE_344; have h7 : cF _ _ = _ := hG_328; have h6 := hs_333; have h5 := tk_c (f := f) (t := a0_); omega
                      have b_345 : bd 0 1200 x_15 := eqX rfl h_16 h_338 (by decide)
                      have g := g.more hF_341
                      refine lv_aload_n hx hb dX14_readMark_334 rfl (lv_at hl 2 rfl) ?_
                      refine lv_bipush (v := 9) hx hb dX14_readMark_335 (by decide) ?_
                      have go_ := g
                      refine g_callEi (As := [.int 9]) (rest := []) ⟨hx, hb, hml, hown, hts⟩ (r_X14_takes_2 l dC dI L kd tys fr_334 H.size g.2.2.2.1 adK adV a0_ ma0_ ka0_ 9 x_339 h_340 (g.fcts [0] rfl)) (cwV 1 hts (gV_ t_2423 t_2425 t_105 t_198 t_2426) rfl rfl rfl (by decide +kernel) ⟨(Nat.le_of_ble_eq_true rfl), (Nat.le_of_ble_eq_true rfl)⟩) (pre3VA g hK hAm ma0_ ka0_ (by decide) (q := (RX14, TX14, 67)) rfl) rfl hl.1 rfl (lv_room (Nat.le_of_ble_eq_true rfl)) dX14_readMark_337 (cl_f hck_0) g hK (by decide) (by decide) (fx' := [(12, 33, q0_, .ref a_323), (12, 32, q0_, .ref a_313), (12, 28, q0_, .ref a_288), (14, 22, a0_, .int 1), (12, 31, q0_, .ref a_43), (12, 30, q0_, .ref a_33), (12, 29, q0_, .ref a_23), (12, 26, q0_, .ref g52_12_26_q0_), (12, 22, q0_, .ref g52_12_22_q0_), (14, 2, a0_, .ref q0_), (14, 16, a0_, .int o_), (14, 25, a0_, .int op_), (14, 17, a0_, .int me_)]) rfl (fun xr_346 fr_346 H locs mxr_346 kxr_346 hp hMr_346 g => ?_) (fun r_346 fr_346 H locs hp hMr_346 g => ?_)
                      · have hG_347 := isV.frame hMr_346 go_.2.2.2.1 mq0_ kq0_ (by decide) (by decide) hG_342
                        have hG_348 := FR.frame hMr_346 go_.2.2.2.1 mq0_ kq0_ (by decide) (by decide) hG_343
                        subst hQ
                        exact leavesX hempty hlocks (fun t ht hW => g_thrZ g hK mxr_346 kxr_346 ⟨hG_348, (by omega)⟩ ht hW) g.2.2.1.2.2
                      · rcases hp with ⟨hx_349, h_350, hF_351⟩ | ⟨hx_352, h_353, h_354, x_355, h_356, hF_357⟩
                        · have hG_358 := isV.frame hMr_346 go_.2.2.2.1 mq0_ kq0_ (by decide) (by decide) hG_342
                          have hG_359 := FR.frame hMr_346 go_.2.2.2.1 mq0_ kq0_ (by decide) (by decide) hG_343
                          obtain rfl : r_346 = 0 := h_350
                          obtain ⟨E_360, hE_360⟩ : ∃ E : Int, cEq fr_346 a0_ E := ⟨_, rfl⟩
                          have mxE_360 : E_360 ≤ 1202 := by have h9 := cF_le g ma0_ ka0_; have h8 : cF _ _ = _ := hE_360; omega
                          have lE_360 : E_344 = E_360 := by have h9 := hx_349; have h8 : cF _ _ = _ := hE_360; have h7 : cF _ _ = _ := hE_344; omega
                          have g := g.more hF_351
                          refine lv_if_eq (tgt := 490) hx hb dX14_readMark_340 (by decide) (fun c_ => ?_) (fun c_ => absurd (by decide) c_)
                          refine lv_aload_n hx hb dX14_readMark_490 rfl (lv_at hl 2 rfl) ?_
                          refine lv_iconst (v := 0) hx hb dX14_readMark_491 (by decide) ?_
                          have go_ := g
                          refine g_put (C := RX14) (T := TX14) (N := 67) hx hb hts (mc_ inX14) tyX14 tyX14_ok nmX14 hown hK g ma0_ ka0_ (by decide) rfl 22 (by decide) (hts _ (List.mem_cons_of_mem _ t_2168)) (fun _ h9 => h9) rfl rfl (okV_i (bd_sub kb_0 (by decide))) rfl rfl (by decide) (Or.inr (Or.inl (by decide))) (fx' := [(14, 10, a0_, .int x_339), (12, 33, q0_, .ref a_323), (12, 32, q0_, .ref a_313), (12, 28, q0_, .ref a_288), (12, 31, q0_, .ref a_43), (12, 30, q0_, .ref a_33), (12, 29, q0_, .ref a_23), (12, 26, q0_, .ref g52_12_26_q0_), (12, 22, q0_, .ref g52_12_22_q0_), (14, 2, a0_, .ref q0_), (14, 16, a0_, .int o_), (14, 25, a0_, .int op_), (14, 17, a0_, .int me_)]) rfl dX14_readMark_492 (fun f H locs hM_361 g => ?_)
                          have hG_362 := isV.frame hM_361 go_.2.2.2.1 mq0_ kq0_ (by decide) (by decide) hG_358
                          have hG_363 := FR.frame hM_361 go_.2.2.2.1 mq0_ kq0_ (by decide) (by decide) hG_359
                          have hG_364 := cEq.frame hM_361 go_.2.2.2.1 ma0_ ka0_ (by decide) (by decide) hE_360
                          refine lv_aload_n hx hb dX14_readMark_495 rfl (lv_at hl 2 rfl) ?_
                          refine lv_bipush (v := 59) hx hb dX14_readMark_496 (by decide) ?_
                          have go_ := g
                          refine g_callEv (As := [.int 59]) (rest := []) ⟨hx, hb, hml, hown, hts⟩ (r_X14_sign_2 l dC dI L kd tys f H.size g.2.2.2.1 adK adV a0_ ma0_ ka0_ 59 x_339 h_340 (g.fcts [1] rfl)) (cwV 1 hts (gV_ t_2431 t_2433 t_107 t_198 t_2434) rfl rfl rfl (by decide +kernel) ⟨(Nat.le_of_ble_eq_true rfl), (Nat.le_of_ble_eq_true rfl)⟩) (pre3VA g hK hAm ma0_ ka0_ (by decide) (q := (RX14, TX14, 67)) rfl) rfl hl.1 rfl (lv_room (Nat.le_of_ble_eq_true rfl)) dX14_readMark_498 (cl_f hck_0) g hK (by decide) (by decide) (fx' := [(14, 22, a0_, .int 0), (12, 33, q0_, .ref a_323), (12, 32, q0_, .ref a_313), (12, 28, q0_, .ref a_288), (12, 31, q0_, .ref a_43), (12, 30, q0_, .ref a_33), (12, 29, q0_, .ref a_23), (12, 26, q0_, .ref g52_12_26_q0_), (12, 22, q0_, .ref g52_12_22_q0_), (14, 2, a0_, .ref q0_), (14, 16, a0_, .int o_), (14, 25, a0_, .int op_), (14, 17, a0_, .int me_)]) rfl (fun xr_365 fr_365 H locs mxr_365 kxr_365 hp hMr_365 g => ?_) (fun fr_365 H locs hp hMr_365 g => ?_)
                          · have hG_366 := isV.frame hMr_365 go_.2.2.2.1 mq0_ kq0_ (by decide) (by decide) hG_362
                            have hG_367 := FR.frame hMr_365 go_.2.2.2.1 mq0_ kq0_ (by decide) (by decide) hG_363
                            subst hQ
                            exact leavesX hempty hlocks (fun t ht hW => g_thrZ g hK mxr_365 kxr_365 ⟨hG_367, (by omega)⟩ ht hW) g.2.2.1.2.2
                          · obtain ⟨hx_368, h_369, x_370, h_371, hF_372⟩ := hp
                            have hG_373 := isV.frame hMr_365 go_.2.2.2.1 mq0_ kq0_ (by decide) (by decide) hG_362
                            have hG_374 := FR.frame hMr_365 go_.2.2.2.1 mq0_ kq0_ (by decide) (by decide) hG_363
                            obtain ⟨E_375, hE_375⟩ : ∃ E : Int, cEq fr_365 a0_ E := ⟨_, rfl⟩
                            have mxE_375 : E_375 ≤ 1202 := by have h9 := cF_le g ma0_ ka0_; have h8 : cF _ _ = _ := hE_375; omega
                            have lE_375 : E_360 + 1 ≤ E_375 := by have h9 := hx_368; have h8 : cF _ _ = _ := hE_375; have h7 : cF _ _ = _ := hG_364; omega
                            have b_376 : bd 0 1200 x_339 := eqX rfl h_340 h_369 (by decide)
                            have g := g.more hF_372
                            refine lv_aload_n hx hb dX14_readMark_501 rfl (lv_at hl 2 rfl) ?_
                            refine g_getk (C := RX14) (T := TX14) (N := 67) hx hb hts (mc_ inX14) hown hK g rfl 2 (by decide) rfl (hts _ (List.mem_cons_of_mem _ t_2148)) (fun _ h9 => h9) 10 rfl dX14_readMark_502 ?_
                            refine g_getk (C := RX12) (T := TX12) (N := 60) hx hb hts (mc_ inX12) hown hK g rfl 22 (by decide) rfl (hts _ (List.mem_cons_of_mem _ t_1950)) (fun _ h9 => h9) 9 rfl dX14_readMark_505 ?_
                            refine lv_aload_n hx hb dX14_readMark_508 rfl (lv_at hl 2 rfl) ?_
                            refine g_getk (C := RX14) (T := TX14) (N := 67) hx hb hts (mc_ inX14) hown hK g rfl 17 (by decide) rfl (hts _ (List.mem_cons_of_mem _ t_2163)) (fun _ h9 => h9) 13 rfl dX14_readMark_509 ?_
                            refine lv_dup2_11 hx hb dX14_readMark_512 rfl rfl ?_
                            refine g_iald hx hb hK g mg52_12_22_q0_ kg52_12_22_q0_ (by decide) rfl (in_bd bme_ (by decide)) dX14_readMark_513 (fun x_377 bx_377 cx_377 => ?_)
                            have vx_377 : x_377 = ((((((V_.ui 29 y_7.toNatClampNeg ((-1) : Int32)).ui 30 y_7.toNatClampNeg x_34).ui 31 y_7.toNatClampNeg (0 : Int32)).ui 28 y_7.toNatClampNeg (5 : Int32)).ul 32 y_7.toNatClampNeg x_314).ul 33 y_7.toNatClampNeg x_324).i 22 me_.toNatClampNeg := hG_373.at g 9 rfl rfl cx_377
                            obtain rfl : x_5 = x_377 := (show x_5 = ((((((V_.ui 29 y_7.toNatClampNeg ((-1) : Int32)).ui 30 y_7.toNatClampNeg x_34).ui 31 y_7.toNatClampNeg (0 : Int32)).ui 28 y_7.toNatClampNeg (5 : Int32)).ul 32 y_7.toNatClampNeg x_314).ul 33 y_7.toNatClampNeg x_324).i 22 me_.toNatClampNeg from vx_5).trans vx_377.symm
                            refine lv_iconst (v := 1) hx hb dX14_readMark_514 (by decide) ?_
                            refine lv_iadd hx hb dX14_readMark_515 ?_
                            refine lv_topi (fun y_378 ey_378 => ?_)
                            have ty_378 := add_bd ey_378 b_6 kb_1 (by decide)
                            have b_379 : bd 1 8 y_378 := add_rg ty_378 b_6 kb_1 (by decide)
                            have gp_381 := g
                            have go_ := g
                            refine g_iastX hx hb hK g mg52_12_22_q0_ kg52_12_22_q0_ (by decide) rfl (in_bd bme_ (by decide)) (bd_sub b_379 (by decide)) (by decide) dX14_readMark_516 (fun f H locs hM_382 u_384 g => ?_)
                            have hG_383 := cEq.frame hM_382 go_.2.2.2.1 ma0_ ka0_ (by decide) (by decide) hE_375
                            have hV_385 := isV.ui hG_373 gp_381 9 rfl mq0_ kq0_ rfl u_384
                            have hF_386 := FR.arr hG_374 gp_381 9 rfl mq0_ kq0_ rfl rfl u_384.1
                            have hx_388 : 8 * me_.toNatClampNeg + x_5.toNatClampNeg = y_7.toNatClampNeg := by have h9 := tnZ b_6.1; have h8 := tnZ (i := y_7) (by have h9_0 := bg52_14_8_a0_; unfold bd at h9_0; have h9_1 := bme_; unfold bd at h9_1; have h9_2 := bo_; unfold bd at h9_2; have h9_3 := bop_; unfold bd at h9_3; have h9_4 := b_21; unfold bd at h9_4; have h9_5 := b_345; unfold bd at h9_5; have h9_6 := b_287; unfold bd at h9_6; have h9_7 := b_304; unfold bd at h9_7; have h9_8 := b_376; unfold bd at h9_8; have h9_9 := bx_34; unfold bd at h9_9; have h9_10 := h_371; unfold bd at h9_10; have h9_11 := bx_377; unfold bd at h9_11; have h9_12 := b_6; unfold bd at h9_12; have h9_13 := b_4; unfold bd at h9_13; have h9_14 := b_379; unfold bd at h9_14; have h9_15 := b_8; unfold bd at h9_15; have h8_0 := kb_0; unfold bd at h8_0; have h8_1 := kb_1; unfold bd at h8_1; have h8_2 := kb_11; unfold bd at h8_2; have h8_3 := kb_5; unfold bd at h8_3; have h8_4 := kb_6; unfold bd at h8_4; have h8_5 := kb_7; unfold bd at h8_5; have h8_6 := kb_8; unfold bd at h8_6; have h8_7 := kb_m1; unfold bd at h8_7; omega); have h9_0 := bg52_14_8_a0_; unfold bd at h9_0; have h9_1 := bme_; unfold bd at h9_1; have h9_2 := bo_; unfold bd at h9_2; have h9_3 := bop_; unfold bd at h9_3; have h9_4 := b_21; unfold bd at h9_4; have h9_5 := b_345; unfold bd at h9_5; have h9_6 := b_287; unfold bd at h9_6; have h9_7 := b_304; unfold bd at h9_7; have h9_8 := b_376; unfold bd at h9_8; have h9_9 := bx_34; unfold bd at h9_9; have h9_10 := h_371; unfold bd at h9_10; have h9_11 := bx_377; unfold bd at h9_11; have h9_12 := b_6; unfold bd at h9_12; have h9_13 := b_4; unfold bd at h9_13; have h9_14 := b_379; unfold bd at h9_14; have h9_15 := b_8; unfold bd at h9_15; have h8_0 := kb_0; unfold bd at h8_0; have h8_1 := kb_1; unfold bd at h8_1; have h8_2 := kb_11; unfold bd at h8_2; have h8_3 := kb_5; unfold bd at h8_3; have h8_4 := kb_6; unfold bd at h8_4; have h8_5 := kb_7; unfold bd at h8_5; have h8_6 := kb_8; unfold bd at h8_6; have h8_7 := kb_m1; unfold bd at h8_7; omega
                            have hm18x : (((((((V_.ui 29 y_7.toNatClampNeg ((-1) : Int32)).ui 30 y_7.toNatClampNeg x_34).ui 31 y_7.toNatClampNeg (0 : Int32)).ui 28 y_7.toNatClampNeg (5 : Int32)).ul 32 y_7.toNatClampNeg x_314).ul 33 y_7.toNatClampNeg x_324).i 18 me_.toNatClampNeg).toNatClampNeg = o_.toNatClampNeg := by rw [show ((((((V_.ui 29 y_7.toNatClampNeg ((-1) : Int32)).ui 30 y_7.toNatClampNeg x_34).ui 31 y_7.toNatClampNeg (0 : Int32)).ui 28 y_7.toNatClampNeg (5 : Int32)).ul 32 y_7.toNatClampNeg x_314).ul 33 y_7.toNatClampNeg x_324).i 18 = V_.i 18 from p18_0]; exact hm18
                            have hki_387 : KI (((((((V_.ui 29 y_7.toNatClampNeg ((-1) : Int32)).ui 30 y_7.toNatClampNeg x_34).ui 31 y_7.toNatClampNeg (0 : Int32)).ui 28 y_7.toNatClampNeg (5 : Int32)).ul 32 y_7.toNatClampNeg x_314).ul 33 y_7.toNatClampNeg x_324).ui 22 me_.toNatClampNeg y_378) δ_ o_.toNatClampNeg := KI.u22 (a := me_.toNatClampNeg) hki_332 (by rw [← (show x_5 = ((((((V_.ui 29 y_7.toNatClampNeg ((-1) : Int32)).ui 30 y_7.toNatClampNeg x_34).ui 31 y_7.toNatClampNeg (0 : Int32)).ui 28 y_7.toNatClampNeg (5 : Int32)).ul 32 y_7.toNatClampNeg x_314).ul 33 y_7.toNatClampNeg x_324).i 22 me_.toNatClampNeg from vx_5)]; exact b_6.1) (by rw [← (show x_5 = ((((((V_.ui 29 y_7.toNatClampNeg ((-1) : Int32)).ui 30 y_7.toNatClampNeg x_34).ui 31 y_7.toNatClampNeg (0 : Int32)).ui 28 y_7.toNatClampNeg (5 : Int32)).ul 32 y_7.toNatClampNeg x_314).ul 33 y_7.toNatClampNeg x_324).i 22 me_.toNatClampNeg from vx_5)]; have h9_0 := bg52_14_8_a0_; unfold bd at h9_0; have h9_1 := bme_; unfold bd at h9_1; have h9_2 := bo_; unfold bd at h9_2; have h9_3 := bop_; unfold bd at h9_3; have h9_4 := b_21; unfold bd at h9_4; have h9_5 := b_345; unfold bd at h9_5; have h9_6 := b_287; unfold bd at h9_6; have h9_7 := b_304; unfold bd at h9_7; have h9_8 := b_376; unfold bd at h9_8; have h9_9 := bx_34; unfold bd at h9_9; have h9_10 := h_371; unfold bd at h9_10; have h9_11 := bx_377; unfold bd at h9_11; have h9_12 := b_6; unfold bd at h9_12; have h9_13 := b_4; unfold bd at h9_13; have h9_14 := b_379; unfold bd at h9_14; have h9_15 := b_8; unfold bd at h9_15; have h8_0 := kb_0; unfold bd at h8_0; have h8_1 := kb_1; unfold bd at h8_1; have h8_2 := kb_11; unfold bd at h8_2; have h8_3 := kb_5; unfold bd at h8_3; have h8_4 := kb_6; unfold bd at h8_4; have h8_5 := kb_7; unfold bd at h8_5; have h8_6 := kb_8; unfold bd at h8_6; have h8_7 := kb_m1; unfold bd at h8_7; omega) (by rw [← (show x_5 = ((((((V_.ui 29 y_7.toNatClampNeg ((-1) : Int32)).ui 30 y_7.toNatClampNeg x_34).ui 31 y_7.toNatClampNeg (0 : Int32)).ui 28 y_7.toNatClampNeg (5 : Int32)).ul 32 y_7.toNatClampNeg x_314).ul 33 y_7.toNatClampNeg x_324).i 22 me_.toNatClampNeg from vx_5), hx_388, show ((((((V_.ui 29 y_7.toNatClampNeg ((-1) : Int32)).ui 30 y_7.toNatClampNeg x_34).ui 31 y_7.toNatClampNeg (0 : Int32)).ui 28 y_7.toNatClampNeg (5 : Int32)).ul 32 y_7.toNatClampNeg x_314).ul 33 y_7.toNatClampNeg x_324).i 28 y_7.toNatClampNeg = (5 : Int32) from q_297, show ((((((V_.ui 29 y_7.toNatClampNeg ((-1) : Int32)).ui 30 y_7.toNatClampNeg x_34).ui 31 y_7.toNatClampNeg (0 : Int32)).ui 28 y_7.toNatClampNeg (5 : Int32)).ul 32 y_7.toNatClampNeg x_314).ul 33 y_7.toNatClampNeg x_324).i 29 y_7.toNatClampNeg = ((-1) : Int32) from q_32]; exact ⟨(fun h9 => absurd h9 (by decide)), (fun _ => Or.inl (by decide))⟩)
                            have h9c : cF f a0_ = _ := hG_383
                            have h8c : ((((((((V_.ui 29 y_7.toNatClampNeg ((-1) : Int32)).ui 30 y_7.toNatClampNeg x_34).ui 31 y_7.toNatClampNeg (0 : Int32)).ui 28 y_7.toNatClampNeg (5 : Int32)).ul 32 y_7.toNatClampNeg x_314).ul 33 y_7.toNatClampNeg x_324).ui 22 me_.toNatClampNeg y_378).n 57).toInt = (V_.n 57).toInt ∧ ((((((((V_.ui 29 y_7.toNatClampNeg ((-1) : Int32)).ui 30 y_7.toNatClampNeg x_34).ui 31 y_7.toNatClampNeg (0 : Int32)).ui 28 y_7.toNatClampNeg (5 : Int32)).ul 32 y_7.toNatClampNeg x_314).ul 33 y_7.toNatClampNeg x_324).ui 22 me_.toNatClampNeg y_378).n 46).toInt = (V_.n 46).toInt := ⟨rfl, rfl⟩
                            subst hQ
                            exact vretX hx hb hr (fun t ht hW => g_retZ g hK ⟨rfl, ⟨⟨(((((((V_.ui 29 y_7.toNatClampNeg ((-1) : Int32)).ui 30 y_7.toNatClampNeg x_34).ui 31 y_7.toNatClampNeg (0 : Int32)).ui 28 y_7.toNatClampNeg (5 : Int32)).ul 32 y_7.toNatClampNeg x_314).ul 33 y_7.toNatClampNeg x_324).ui 22 me_.toNatClampNeg y_378), _, hV_385, hF_386, hki_387, ⟨p27_0, p18_0⟩, (by omega), (by omega), (by omega), (by omega)⟩, x_370, h_371, (g.fcts [12, 0] rfl)⟩⟩ ht hW) g.2.2.1.2.2 dX14_readMark_517 hlocks
                        · have hG_389 := isV.frame hMr_346 go_.2.2.2.1 mq0_ kq0_ (by decide) (by decide) hG_342
                          have hG_390 := FR.frame hMr_346 go_.2.2.2.1 mq0_ kq0_ (by decide) (by decide) hG_343
                          obtain rfl : r_346 = 1 := h_353
                          obtain ⟨E_391, hE_391⟩ : ∃ E : Int, cEq fr_346 a0_ E := ⟨_, rfl⟩
                          have mxE_391 : E_391 ≤ 1202 := by have h9 := cF_le g ma0_ ka0_; have h8 : cF _ _ = _ := hE_391; omega
                          have lE_391 : E_344 + 1 ≤ E_391 := by have h9 := hx_352; have h8 : cF _ _ = _ := hE_391; have h7 : cF _ _ = _ := hE_344; omega
                          have b_392 : bd 0 1200 x_339 := eqX rfl h_340 h_354 (by decide)
                          have g := g.more hF_357
                          refine lv_if_eq (tgt := 490) hx hb dX14_readMark_340 (by decide) (fun c_ => absurd c_ (by decide)) (fun c_ => ?_)
                          refine lv_aload_n hx hb dX14_readMark_343 rfl (lv_at hl 2 rfl) ?_
                          refine g_getk (C := RX14) (T := TX14) (N := 67) hx hb hts (mc_ inX14) hown hK g rfl 2 (by decide) rfl (hts _ (List.mem_cons_of_mem _ t_2148)) (fun _ h9 => h9) 10 rfl dX14_readMark_344 ?_
                          refine g_getk (C := RX12) (T := TX12) (N := 60) hx hb hts (mc_ inX12) hown hK g rfl 30 (by decide) rfl (hts _ (List.mem_cons_of_mem _ t_1965)) (fun _ h9 => h9) 6 rfl dX14_readMark_347 ?_
                          refine lv_iload_n hx hb dX14_readMark_350 rfl (lv_at hl 0 rfl) ?_
                          refine lv_aload_n hx hb dX14_readMark_351 rfl (lv_at hl 2 rfl) ?_
                          refine g_geti (C := RX14) (T := TX14) (N := 67) hx hb hts (mc_ inX14) hown hK g ma0_ ka0_ (by decide) rfl 8 (by decide) rfl (hts _ (List.mem_cons_of_mem _ t_2154)) (fun _ h9 => h9) rfl dX14_readMark_352 (fun x_393 bx_393 g => ?_)
                          have gp_395 := g
                          have go_ := g
                          refine g_iastX hx hb hK g ma_33 ka_33 (by decide) rfl (in_bd b_8 (by decide)) (bd_sub bx_393 (by decide)) (by decide) dX14_readMark_355 (fun f H locs hM_396 u_398 g => ?_)
                          have hG_397 := cEq.frame hM_396 go_.2.2.2.1 ma0_ ka0_ (by decide) (by decide) hE_391
                          have hV_399 := isV.ui hG_389 gp_395 7 rfl mq0_ kq0_ rfl u_398
                          have hF_400 := FR.arr hG_390 gp_395 7 rfl mq0_ kq0_ rfl rfl u_398.1
                          have hki_401 : KI (((((((V_.ui 29 y_7.toNatClampNeg ((-1) : Int32)).ui 30 y_7.toNatClampNeg x_34).ui 31 y_7.toNatClampNeg (0 : Int32)).ui 28 y_7.toNatClampNeg (5 : Int32)).ul 32 y_7.toNatClampNeg x_314).ul 33 y_7.toNatClampNeg x_324).ui 30 y_7.toNatClampNeg x_393) δ_ o_.toNatClampNeg := KI.ui_ hki_332 (by decide)
                          refine lv_aload_n hx hb dX14_readMark_356 rfl (lv_at hl 2 rfl) ?_
                          refine g_getk (C := RX14) (T := TX14) (N := 67) hx hb hts (mc_ inX14) hown hK g rfl 2 (by decide) rfl (hts _ (List.mem_cons_of_mem _ t_2148)) (fun _ h9 => h9) 11 rfl dX14_readMark_357 ?_
                          refine g_getk (C := RX12) (T := TX12) (N := 60) hx hb hts (mc_ inX12) hown hK g rfl 29 (by decide) rfl (hts _ (List.mem_cons_of_mem _ t_1963)) (fun _ h9 => h9) 8 rfl dX14_readMark_360 ?_
                          refine lv_iload_n hx hb dX14_readMark_363 rfl (lv_at hl 0 rfl) ?_
                          refine lv_aload_n hx hb dX14_readMark_364 rfl (lv_at hl 2 rfl) ?_
                          have qc__402 : cF f a0_ = _ := hG_397
                          have qn__403 : ((((((((V_.ui 29 y_7.toNatClampNeg ((-1) : Int32)).ui 30 y_7.toNatClampNeg x_34).ui 31 y_7.toNatClampNeg (0 : Int32)).ui 28 y_7.toNatClampNeg (5 : Int32)).ul 32 y_7.toNatClampNeg x_314).ul 33 y_7.toNatClampNeg x_324).ui 30 y_7.toNatClampNeg x_393).n 57).toInt = (V_.n 57).toInt ∧ ((((((((V_.ui 29 y_7.toNatClampNeg ((-1) : Int32)).ui 30 y_7.toNatClampNeg x_34).ui 31 y_7.toNatClampNeg (0 : Int32)).ui 28 y_7.toNatClampNeg (5 : Int32)).ul 32 y_7.toNatClampNeg x_314).ul 33 y_7.toNatClampNeg x_324).ui 30 y_7.toNatClampNeg x_393).n 46).toInt = (V_.n 46).toInt := ⟨rfl, rfl⟩
                          have qc__404 : cF f a0_ = _ := hG_397
                          have go_ := g
                          refine g_callZi (As := []) (rest := [.int y_7, .ref a_23]) ⟨hx, hb, hml, hown, hts⟩ (r_X14_readEx l dC dI L kd tys f H.size g.2.2.2.1 adK adV a0_ ma0_ ka0_ q0_ mq0_ kq0_ (((((((V_.ui 29 y_7.toNatClampNeg ((-1) : Int32)).ui 30 y_7.toNatClampNeg x_34).ui 31 y_7.toNatClampNeg (0 : Int32)).ui 28 y_7.toNatClampNeg (5 : Int32)).ul 32 y_7.toNatClampNeg x_314).ul 33 y_7.toNatClampNeg x_324).ui 30 y_7.toNatClampNeg x_393) o_ bo_ op_ bop_ x_355 h_356 hV_399 hki_401.1.1 (by have h9 := hki_401.2.2.2; omega) (by omega) (K_ - cl_0) (by omega) (g.fcts [11, 12, 13, 1] rfl)) (cwV 0 hts (gV_ t_2460 t_2462 t_112 t_198 t_2463) rfl rfl rfl (by decide +kernel) ⟨(Nat.le_of_ble_eq_true rfl), (Nat.le_of_ble_eq_true rfl)⟩) (pre3VA g hK hAm ma0_ ka0_ (by decide) (q := (RX14, TX14, 67)) rfl) rfl hl.1 rfl (lv_room (Nat.le_of_ble_eq_true rfl)) dX14_readMark_365 (cl_k (K := K_) (k := K_ - cl_0) (show cl_0 + (K_ - cl_0) ≤ K_ by omega)) g hK (by decide) (by decide) (fx' := [(12, 33, q0_, .ref a_323), (12, 32, q0_, .ref a_313), (12, 28, q0_, .ref a_288), (14, 22, a0_, .int 1), (12, 31, q0_, .ref a_43), (12, 30, q0_, .ref a_33), (12, 29, q0_, .ref a_23), (12, 26, q0_, .ref g52_12_26_q0_), (12, 22, q0_, .ref g52_12_22_q0_), (14, 2, a0_, .ref q0_), (14, 16, a0_, .int o_), (14, 17, a0_, .int me_)]) rfl (fun xr_405 fr_405 H locs kr_405 cr_405 ecr_405 mxr_405 kxr_405 hp hMr_405 g => ?_) (fun r_405 fr_405 H locs kr_405 cr_405 ecr_405 hp hMr_405 g => ?_)
                          · have hF_406 := FR.call (mds := []) (mas := []) hF_400 go_ mq0_ kq0_ rfl hp.1
                            have hpk := hp.2
                            subst hQ
                            exact leavesX hempty hlocks (fun t ht hW => g_thrZ g hK mxr_405 kxr_405 ⟨hF_406, (by omega)⟩ ht hW) g.2.2.1.2.2
                          · obtain ⟨hx_407, x_408, h_409, hF_410⟩ := hp
                            obtain ⟨V_411, E_412, hV_413, hF_414, hE_415, hX_416, hw_417, hv_418, hP_419, hn_420, hk_421, hc_422⟩ := rd_use hx_407 hG_397
                            have hF_423 := FR.call (mds := []) (mas := []) hF_400 go_ mq0_ kq0_ rfl hF_414
                            have mxE_412 : E_412 ≤ 1202 := by have h9 := cF_le g ma0_ ka0_; have h8 : cF _ _ = _ := hE_415; omega
                            have hki_424 := KI.nodes hki_401 hX_416 hw_417 (by omega)
                            have hki_424n : (V_411.n 46).toInt = ((((((((V_.ui 29 y_7.toNatClampNeg ((-1) : Int32)).ui 30 y_7.toNatClampNeg x_34).ui 31 y_7.toNatClampNeg (0 : Int32)).ui 28 y_7.toNatClampNeg (5 : Int32)).ul 32 y_7.toNatClampNeg x_314).ul 33 y_7.toNatClampNeg x_324).ui 30 y_7.toNatClampNeg x_393).n 46).toInt := by rw [exN.n46 hX_416]
                            have hq_425 : x_5 = V_411.i 22 me_.toNatClampNeg := vx_5.trans (congrFun ((hX_416).1 22 (by decide) (by decide)) _).symm
                            have p18_426 : V_411.i 18 = V_.i 18 := ((hX_416).1 18 (by decide) (by decide)).trans (show (((((((V_.ui 29 y_7.toNatClampNeg ((-1) : Int32)).ui 30 y_7.toNatClampNeg x_34).ui 31 y_7.toNatClampNeg (0 : Int32)).ui 28 y_7.toNatClampNeg (5 : Int32)).ul 32 y_7.toNatClampNeg x_314).ul 33 y_7.toNatClampNeg x_324).ui 30 y_7.toNatClampNeg x_393).i 18 = V_.i 18 from p18_0)
                            have p27_427 : V_411.n 27 = V_.n 27 := ((hX_416).2.2.1 27 (by decide)).trans (show (((((((V_.ui 29 y_7.toNatClampNeg ((-1) : Int32)).ui 30 y_7.toNatClampNeg x_34).ui 31 y_7.toNatClampNeg (0 : Int32)).ui 28 y_7.toNatClampNeg (5 : Int32)).ul 32 y_7.toNatClampNeg x_314).ul 33 y_7.toNatClampNeg x_324).ui 30 y_7.toNatClampNeg x_393).n 27 = V_.n 27 from p27_0)
                            have q_428 : V_411.i 28 y_7.toNatClampNeg = (5 : Int32) := (congrFun ((hX_416).1 28 (by decide) (by decide)) _).trans q_297
                            have q_429 : V_411.i 29 y_7.toNatClampNeg = ((-1) : Int32) := (congrFun ((hX_416).1 29 (by decide) (by decide)) _).trans q_32
                            have hck_430 : cr_405 ≤ K_ := by omega
                            have b_431 : bd 0 2499 r_405 := ⟨hv_418.1, (by have h9 := hv_418.2.1; omega)⟩
                            have g := g.more hF_410
                            have hb_432 : ∀ c : Nat, c < 110 → (V_411.i 22 c).toInt ≤ 8 := (fun c hc => (isV.rng hV_413 g mq0_ kq0_ (j := 22) (K := 178) (by decide) rfl (by decide) rfl hc).2)
                            have gp_433 := g
                            have go_ := g
                            refine g_iastX hx hb hK g ma_23 ka_23 (by decide) rfl (in_bd b_8 (by decide)) (bd_sub b_431 (by decide)) (by decide) dX14_readMark_368 (fun f H locs hM_434 u_436 g => ?_)
                            have hG_435 := cEq.frame hM_434 go_.2.2.2.1 ma0_ ka0_ (by decide) (by decide) hE_415
                            have hV_437 := isV.ui hV_413 gp_433 8 rfl mq0_ kq0_ rfl u_436
                            have hF_438 := FR.arr hF_423 gp_433 8 rfl mq0_ kq0_ rfl rfl u_436.1
                            have hki_439 : KI (V_411.ui 29 y_7.toNatClampNeg r_405) δ_ o_.toNatClampNeg := KI.u28 (a := me_.toNatClampNeg) hki_424 (by decide) hb_432 (by rw [← (show x_5 = V_411.i 22 me_.toNatClampNeg from hq_425)]; exact b_6.1) (by rw [← (show x_5 = V_411.i 22 me_.toNatClampNeg from hq_425), tnZ (by have h9_0 := bg52_14_8_a0_; unfold bd at h9_0; have h9_1 := bme_; unfold bd at h9_1; have h9_2 := bo_; unfold bd at h9_2; have h9_3 := bop_; unfold bd at h9_3; have h9_4 := b_431; unfold bd at h9_4; have h9_5 := b_21; unfold bd at h9_5; have h9_6 := b_345; unfold bd at h9_6; have h9_7 := b_287; unfold bd at h9_7; have h9_8 := b_304; unfold bd at h9_8; have h9_9 := b_392; unfold bd at h9_9; have h9_10 := bx_34; unfold bd at h9_10; have h9_11 := h_356; unfold bd at h9_11; have h9_12 := bx_393; unfold bd at h9_12; have h9_13 := h_409; unfold bd at h9_13; have h9_14 := b_6; unfold bd at h9_14; have h9_15 := b_4; unfold bd at h9_15; have h9_16 := b_8; unfold bd at h9_16; have h8_0 := kb_0; unfold bd at h8_0; have h8_1 := kb_1; unfold bd at h8_1; have h8_2 := kb_11; unfold bd at h8_2; have h8_3 := kb_5; unfold bd at h8_3; have h8_4 := kb_6; unfold bd at h8_4; have h8_5 := kb_7; unfold bd at h8_5; have h8_6 := kb_8; unfold bd at h8_6; have h8_7 := kb_m1; unfold bd at h8_7; omega), tnZ bme_.1]; have h9_0 := bg52_14_8_a0_; unfold bd at h9_0; have h9_1 := bme_; unfold bd at h9_1; have h9_2 := bo_; unfold bd at h9_2; have h9_3 := bop_; unfold bd at h9_3; have h9_4 := b_431; unfold bd at h9_4; have h9_5 := b_21; unfold bd at h9_5; have h9_6 := b_345; unfold bd at h9_6; have h9_7 := b_287; unfold bd at h9_7; have h9_8 := b_304; unfold bd at h9_8; have h9_9 := b_392; unfold bd at h9_9; have h9_10 := bx_34; unfold bd at h9_10; have h9_11 := h_356; unfold bd at h9_11; have h9_12 := bx_393; unfold bd at h9_12; have h9_13 := h_409; unfold bd at h9_13; have h9_14 := b_6; unfold bd at h9_14; have h9_15 := b_4; unfold bd at h9_15; have h9_16 := b_8; unfold bd at h9_16; have h8_0 := kb_0; unfold bd at h8_0; have h8_1 := kb_1; unfold bd at h8_1; have h8_2 := kb_11; unfold bd at h8_2; have h8_3 := kb_5; unfold bd at h8_3; have h8_4 := kb_6; unfold bd at h8_4; have h8_5 := kb_7; unfold bd at h8_5; have h8_6 := kb_8; unfold bd at h8_6; have h8_7 := kb_m1; unfold bd at h8_7; omega) (by rw [← (show x_5 = V_411.i 22 me_.toNatClampNeg from hq_425)]; have h9_0 := bg52_14_8_a0_; unfold bd at h9_0; have h9_1 := bme_; unfold bd at h9_1; have h9_2 := bo_; unfold bd at h9_2; have h9_3 := bop_; unfold bd at h9_3; have h9_4 := b_431; unfold bd at h9_4; have h9_5 := b_21; unfold bd at h9_5; have h9_6 := b_345; unfold bd at h9_6; have h9_7 := b_287; unfold bd at h9_7; have h9_8 := b_304; unfold bd at h9_8; have h9_9 := b_392; unfold bd at h9_9; have h9_10 := bx_34; unfold bd at h9_10; have h9_11 := h_356; unfold bd at h9_11; have h9_12 := bx_393; unfold bd at h9_12; have h9_13 := h_409; unfold bd at h9_13; have h9_14 := b_6; unfold bd at h9_14; have h9_15 := b_4; unfold bd at h9_15; have h9_16 := b_8; unfold bd at h9_16; have h8_0 := kb_0; unfold bd at h8_0; have h8_1 := kb_1; unfold bd at h8_1; have h8_2 := kb_11; unfold bd at h8_2; have h8_3 := kb_5; unfold bd at h8_3; have h8_4 := kb_6; unfold bd at h8_4; have h8_5 := kb_7; unfold bd at h8_5; have h8_6 := kb_8; unfold bd at h8_6; have h8_7 := kb_m1; unfold bd at h8_7; omega)
                            have q_440 : (V_411.ui 29 y_7.toNatClampNeg r_405).i 29 y_7.toNatClampNeg = r_405 := ui_same
                            refine lv_goto (tgt := 490) hx hb dX14_readMark_369 (by decide) ?_
                            refine lv_aload_n hx hb dX14_readMark_490 rfl (lv_at hl 2 rfl) ?_
                            refine lv_iconst (v := 0) hx hb dX14_readMark_491 (by decide) ?_
                            have go_ := g
                            refine g_put (C := RX14) (T := TX14) (N := 67) hx hb hts (mc_ inX14) tyX14 tyX14_ok nmX14 hown hK g ma0_ ka0_ (by decide) rfl 22 (by decide) (hts _ (List.mem_cons_of_mem _ t_2168)) (fun _ h9 => h9) rfl rfl (okV_i (bd_sub kb_0 (by decide))) rfl rfl (by decide) (Or.inr (Or.inl (by decide))) (fx' := [(14, 25, a0_, .int op_), (14, 10, a0_, .int x_408), (12, 33, q0_, .ref a_323), (12, 32, q0_, .ref a_313), (12, 28, q0_, .ref a_288), (12, 31, q0_, .ref a_43), (12, 30, q0_, .ref a_33), (12, 29, q0_, .ref a_23), (12, 26, q0_, .ref g52_12_26_q0_), (12, 22, q0_, .ref g52_12_22_q0_), (14, 2, a0_, .ref q0_), (14, 16, a0_, .int o_), (14, 17, a0_, .int me_)]) rfl dX14_readMark_492 (fun f H locs hM_441 g => ?_)
                            have hG_442 := cEq.frame hM_441 go_.2.2.2.1 ma0_ ka0_ (by decide) (by decide) hG_435
                            have hG_443 := isV.frame hM_441 go_.2.2.2.1 mq0_ kq0_ (by decide) (by decide) hV_437
                            have hG_444 := FR.frame hM_441 go_.2.2.2.1 mq0_ kq0_ (by decide) (by decide) hF_438
                            refine lv_aload_n hx hb dX14_readMark_495 rfl (lv_at hl 2 rfl) ?_
                            refine lv_bipush (v := 59) hx hb dX14_readMark_496 (by decide) ?_
                            have go_ := g
                            refine g_callEv (As := [.int 59]) (rest := []) ⟨hx, hb, hml, hown, hts⟩ (r_X14_sign_2 l dC dI L kd tys f H.size g.2.2.2.1 adK adV a0_ ma0_ ka0_ 59 x_408 h_409 (g.fcts [2] rfl)) (cwV 1 hts (gV_ t_2431 t_2433 t_107 t_198 t_2434) rfl rfl rfl (by decide +kernel) ⟨(Nat.le_of_ble_eq_true rfl), (Nat.le_of_ble_eq_true rfl)⟩) (pre3VA g hK hAm ma0_ ka0_ (by decide) (q := (RX14, TX14, 67)) rfl) rfl hl.1 rfl (lv_room (Nat.le_of_ble_eq_true rfl)) dX14_readMark_498 (cl_f hck_430) g hK (by decide) (by decide) (fx' := [(14, 22, a0_, .int 0), (14, 25, a0_, .int op_), (12, 33, q0_, .ref a_323), (12, 32, q0_, .ref a_313), (12, 28, q0_, .ref a_288), (12, 31, q0_, .ref a_43), (12, 30, q0_, .ref a_33), (12, 29, q0_, .ref a_23), (12, 26, q0_, .ref g52_12_26_q0_), (12, 22, q0_, .ref g52_12_22_q0_), (14, 2, a0_, .ref q0_), (14, 16, a0_, .int o_), (14, 17, a0_, .int me_)]) rfl (fun xr_445 fr_445 H locs mxr_445 kxr_445 hp hMr_445 g => ?_) (fun fr_445 H locs hp hMr_445 g => ?_)
                            · have hG_446 := isV.frame hMr_445 go_.2.2.2.1 mq0_ kq0_ (by decide) (by decide) hG_443
                              have hG_447 := FR.frame hMr_445 go_.2.2.2.1 mq0_ kq0_ (by decide) (by decide) hG_444
                              subst hQ
                              exact leavesX hempty hlocks (fun t ht hW => g_thrZ g hK mxr_445 kxr_445 ⟨hG_447, (by omega)⟩ ht hW) g.2.2.1.2.2
                            · obtain ⟨hx_448, h_449, x_450, h_451, hF_452⟩ := hp
                              have hG_453 := isV.frame hMr_445 go_.2.2.2.1 mq0_ kq0_ (by decide) (by decide) hG_443
                              have hG_454 := FR.frame hMr_445 go_.2.2.2.1 mq0_ kq0_ (by decide) (by decide) hG_444
                              obtain ⟨E_455, hE_455⟩ : ∃ E : Int, cEq fr_445 a0_ E := ⟨_, rfl⟩
                              have mxE_455 : E_455 ≤ 1202 := by have h9 := cF_le g ma0_ ka0_; have h8 : cF _ _ = _ := hE_455; omega
                              have lE_455 : E_412 + 1 ≤ E_455 := by have h9 := hx_448; have h8 : cF _ _ = _ := hE_455; have h7 : cF _ _ = _ := hG_442; omega
                              have b_456 : bd 0 1200 x_408 := eqX rfl h_409 h_449 (by decide)
                              have g := g.more hF_452
                              refine lv_aload_n hx hb dX14_readMark_501 rfl (lv_at hl 2 rfl) ?_
                              refine g_getk (C := RX14) (T := TX14) (N := 67) hx hb hts (mc_ inX14) hown hK g rfl 2 (by decide) rfl (hts _ (List.mem_cons_of_mem _ t_2148)) (fun _ h9 => h9) 11 rfl dX14_readMark_502 ?_
                              refine g_getk (C := RX12) (T := TX12) (N := 60) hx hb hts (mc_ inX12) hown hK g rfl 22 (by decide) rfl (hts _ (List.mem_cons_of_mem _ t_1950)) (fun _ h9 => h9) 10 rfl dX14_readMark_505 ?_
                              refine lv_aload_n hx hb dX14_readMark_508 rfl (lv_at hl 2 rfl) ?_
                              refine g_getk (C := RX14) (T := TX14) (N := 67) hx hb hts (mc_ inX14) hown hK g rfl 17 (by decide) rfl (hts _ (List.mem_cons_of_mem _ t_2163)) (fun _ h9 => h9) 13 rfl dX14_readMark_509 ?_
                              refine lv_dup2_11 hx hb dX14_readMark_512 rfl rfl ?_
                              refine g_iald hx hb hK g mg52_12_22_q0_ kg52_12_22_q0_ (by decide) rfl (in_bd bme_ (by decide)) dX14_readMark_513 (fun x_457 bx_457 cx_457 => ?_)
                              have vx_457 : x_457 = (V_411.ui 29 y_7.toNatClampNeg r_405).i 22 me_.toNatClampNeg := hG_453.at g 10 rfl rfl cx_457
                              obtain rfl : x_5 = x_457 := (show x_5 = (V_411.ui 29 y_7.toNatClampNeg r_405).i 22 me_.toNatClampNeg from hq_425).trans vx_457.symm
                              refine lv_iconst (v := 1) hx hb dX14_readMark_514 (by decide) ?_
                              refine lv_iadd hx hb dX14_readMark_515 ?_
                              refine lv_topi (fun y_458 ey_458 => ?_)
                              have ty_458 := add_bd ey_458 b_6 kb_1 (by decide)
                              have b_459 : bd 1 8 y_458 := add_rg ty_458 b_6 kb_1 (by decide)
                              have gp_461 := g
                              have go_ := g
                              refine g_iastX hx hb hK g mg52_12_22_q0_ kg52_12_22_q0_ (by decide) rfl (in_bd bme_ (by decide)) (bd_sub b_459 (by decide)) (by decide) dX14_readMark_516 (fun f H locs hM_462 u_464 g => ?_)
                              have hG_463 := cEq.frame hM_462 go_.2.2.2.1 ma0_ ka0_ (by decide) (by decide) hE_455
                              have hV_465 := isV.ui hG_453 gp_461 10 rfl mq0_ kq0_ rfl u_464
                              have hF_466 := FR.arr hG_454 gp_461 10 rfl mq0_ kq0_ rfl rfl u_464.1
                              have hx_468 : 8 * me_.toNatClampNeg + x_5.toNatClampNeg = y_7.toNatClampNeg := by have h9 := tnZ b_6.1; have h8 := tnZ (i := y_7) (by have h9_0 := bg52_14_8_a0_; unfold bd at h9_0; have h9_1 := bme_; unfold bd at h9_1; have h9_2 := bo_; unfold bd at h9_2; have h9_3 := bop_; unfold bd at h9_3; have h9_4 := b_431; unfold bd at h9_4; have h9_5 := b_21; unfold bd at h9_5; have h9_6 := b_345; unfold bd at h9_6; have h9_7 := b_287; unfold bd at h9_7; have h9_8 := b_304; unfold bd at h9_8; have h9_9 := b_392; unfold bd at h9_9; have h9_10 := bx_34; unfold bd at h9_10; have h9_11 := h_356; unfold bd at h9_11; have h9_12 := bx_393; unfold bd at h9_12; have h9_13 := b_456; unfold bd at h9_13; have h9_14 := h_451; unfold bd at h9_14; have h9_15 := bx_457; unfold bd at h9_15; have h9_16 := b_6; unfold bd at h9_16; have h9_17 := b_4; unfold bd at h9_17; have h9_18 := b_459; unfold bd at h9_18; have h9_19 := b_8; unfold bd at h9_19; have h8_0 := kb_0; unfold bd at h8_0; have h8_1 := kb_1; unfold bd at h8_1; have h8_2 := kb_11; unfold bd at h8_2; have h8_3 := kb_5; unfold bd at h8_3; have h8_4 := kb_6; unfold bd at h8_4; have h8_5 := kb_7; unfold bd at h8_5; have h8_6 := kb_8; unfold bd at h8_6; have h8_7 := kb_m1; unfold bd at h8_7; omega); have h9_0 := bg52_14_8_a0_; unfold bd at h9_0; have h9_1 := bme_; unfold bd at h9_1; have h9_2 := bo_; unfold bd at h9_2; have h9_3 := bop_; unfold bd at h9_3; have h9_4 := b_431; unfold bd at h9_4; have h9_5 := b_21; unfold bd at h9_5; have h9_6 := b_345; unfold bd at h9_6; have h9_7 := b_287; unfold bd at h9_7; have h9_8 := b_304; unfold bd at h9_8; have h9_9 := b_392; unfold bd at h9_9; have h9_10 := bx_34; unfold bd at h9_10; have h9_11 := h_356; unfold bd at h9_11; have h9_12 := bx_393; unfold bd at h9_12; have h9_13 := b_456; unfold bd at h9_13; have h9_14 := h_451; unfold bd at h9_14; have h9_15 := bx_457; unfold bd at h9_15; have h9_16 := b_6; unfold bd at h9_16; have h9_17 := b_4; unfold bd at h9_17; have h9_18 := b_459; unfold bd at h9_18; have h9_19 := b_8; unfold bd at h9_19; have h8_0 := kb_0; unfold bd at h8_0; have h8_1 := kb_1; unfold bd at h8_1; have h8_2 := kb_11; unfold bd at h8_2; have h8_3 := kb_5; unfold bd at h8_3; have h8_4 := kb_6; unfold bd at h8_4; have h8_5 := kb_7; unfold bd at h8_5; have h8_6 := kb_8; unfold bd at h8_6; have h8_7 := kb_m1; unfold bd at h8_7; omega
                              have hm18x : ((V_411.ui 29 y_7.toNatClampNeg r_405).i 18 me_.toNatClampNeg).toNatClampNeg = o_.toNatClampNeg := by rw [show (V_411.ui 29 y_7.toNatClampNeg r_405).i 18 = V_.i 18 from p18_426]; exact hm18
                              have hki_467 : KI ((V_411.ui 29 y_7.toNatClampNeg r_405).ui 22 me_.toNatClampNeg y_458) δ_ o_.toNatClampNeg := KI.u22 (a := me_.toNatClampNeg) hki_439 (by rw [← (show x_5 = (V_411.ui 29 y_7.toNatClampNeg r_405).i 22 me_.toNatClampNeg from hq_425)]; exact b_6.1) (by rw [← (show x_5 = (V_411.ui 29 y_7.toNatClampNeg r_405).i 22 me_.toNatClampNeg from hq_425)]; have h9_0 := bg52_14_8_a0_; unfold bd at h9_0; have h9_1 := bme_; unfold bd at h9_1; have h9_2 := bo_; unfold bd at h9_2; have h9_3 := bop_; unfold bd at h9_3; have h9_4 := b_431; unfold bd at h9_4; have h9_5 := b_21; unfold bd at h9_5; have h9_6 := b_345; unfold bd at h9_6; have h9_7 := b_287; unfold bd at h9_7; have h9_8 := b_304; unfold bd at h9_8; have h9_9 := b_392; unfold bd at h9_9; have h9_10 := bx_34; unfold bd at h9_10; have h9_11 := h_356; unfold bd at h9_11; have h9_12 := bx_393; unfold bd at h9_12; have h9_13 := b_456; unfold bd at h9_13; have h9_14 := h_451; unfold bd at h9_14; have h9_15 := bx_457; unfold bd at h9_15; have h9_16 := b_6; unfold bd at h9_16; have h9_17 := b_4; unfold bd at h9_17; have h9_18 := b_459; unfold bd at h9_18; have h9_19 := b_8; unfold bd at h9_19; have h8_0 := kb_0; unfold bd at h8_0; have h8_1 := kb_1; unfold bd at h8_1; have h8_2 := kb_11; unfold bd at h8_2; have h8_3 := kb_5; unfold bd at h8_3; have h8_4 := kb_6; unfold bd at h8_4; have h8_5 := kb_7; unfold bd at h8_5; have h8_6 := kb_8; unfold bd at h8_6; have h8_7 := kb_m1; unfold bd at h8_7; omega) (by rw [← (show x_5 = (V_411.ui 29 y_7.toNatClampNeg r_405).i 22 me_.toNatClampNeg from hq_425), hx_468, show (V_411.ui 29 y_7.toNatClampNeg r_405).i 28 y_7.toNatClampNeg = (5 : Int32) from q_428, show (V_411.ui 29 y_7.toNatClampNeg r_405).i 29 y_7.toNatClampNeg = r_405 from q_440]; exact ⟨(fun h9 => absurd h9 (by decide)), (fun _ => Or.inr (by rw [hm18x]; exact hv_418.up (by decide)))⟩)
                              have h9c : cF f a0_ = _ := hG_463
                              have h8c : (((V_411.ui 29 y_7.toNatClampNeg r_405).ui 22 me_.toNatClampNeg y_458).n 57).toInt = (V_411.n 57).toInt ∧ (((V_411.ui 29 y_7.toNatClampNeg r_405).ui 22 me_.toNatClampNeg y_458).n 46).toInt = (V_411.n 46).toInt := ⟨rfl, rfl⟩
                              subst hQ
                              exact vretX hx hb hr (fun t ht hW => g_retZ g hK ⟨rfl, ⟨⟨((V_411.ui 29 y_7.toNatClampNeg r_405).ui 22 me_.toNatClampNeg y_458), _, hV_465, hF_466, hki_467, ⟨p27_427, p18_426⟩, (by omega), (by omega), (by omega), (by omega)⟩, x_450, h_451, (g.fcts [2, 0] rfl)⟩⟩ ht hW) g.2.2.1.2.2 dX14_readMark_517 hlocks
            · have fc_147 := eq_f c_147
              have b_469 : bd 7 7 x_2 := eqX fc_147 (bdT x_2) kb_7 (by decide)
              refine lv_aload_n hx hb dX14_readMark_210 rfl (lv_at hl 2 rfl) ?_
              refine g_getk (C := RX14) (T := TX14) (N := 67) hx hb hts (mc_ inX14) hown hK g rfl 2 (by decide) rfl (hts _ (List.mem_cons_of_mem _ t_2148)) (fun _ h9 => h9) 8 rfl dX14_readMark_211 ?_
              refine g_getr (K := 183) (C := RX12) (T := TX12) (N := 60) hx hb hts (mc_ inX12) hown hK g mq0_ kq0_ (by decide) rfl 28 (by decide) rfl (hts _ (List.mem_cons_of_mem _ t_1961)) (fun _ h9 => h9) rfl dX14_readMark_214 (fun a_470 ma_470 ka_470 g => ?_)
              refine lv_iload_n hx hb dX14_readMark_217 rfl (lv_at hl 0 rfl) ?_
              refine lv_iload_n hx hb dX14_readMark_218 rfl (lv_at hl 1 rfl) ?_
              refine lv_bipush (v := 6) hx hb dX14_readMark_219 (by decide) ?_
              refine lv_icmp_ne (tgt := 228) hx hb dX14_readMark_221 (by decide) (fun c_471 => ?_) (fun c_471 => ?_)
              · have fc_471 := neq_f c_471
                refine lv_iconst (v := 2) hx hb dX14_readMark_228 (by decide) ?_
                have hb_472 : ∀ c : Nat, c < 110 → ((((V_.ui 29 y_7.toNatClampNeg ((-1) : Int32)).ui 30 y_7.toNatClampNeg x_34).ui 31 y_7.toNatClampNeg (0 : Int32)).i 22 c).toInt ≤ 8 := (fun c hc => (isV.rng hG_54 g mq0_ kq0_ (j := 22) (K := 178) (by decide) rfl (by decide) rfl hc).2)
                have gp_473 := g
                have kb_2 : bd 2 2 (2 : Int32) := ⟨by decide, by decide⟩
                have go_ := g
                refine g_iastX hx hb hK g ma_470 ka_470 (by decide) rfl (in_bd b_8 (by decide)) (bd_sub kb_2 (by decide)) (by decide) dX14_readMark_229 (fun f H locs hM_474 u_476 g => ?_)
                have hG_475 := cEq.frame hM_474 go_.2.2.2.1 ma0_ ka0_ (by decide) (by decide) hG_53
                have hV_477 := isV.ui hG_54 gp_473 0 rfl mq0_ kq0_ rfl u_476
                have hF_478 := FR.arr hG_55 gp_473 0 rfl mq0_ kq0_ rfl rfl u_476.1
                have hki_479 : KI ((((V_.ui 29 y_7.toNatClampNeg ((-1) : Int32)).ui 30 y_7.toNatClampNeg x_34).ui 31 y_7.toNatClampNeg (0 : Int32)).ui 28 y_7.toNatClampNeg (2 : Int32)) δ_ o_.toNatClampNeg := KI.u28 (a := me_.toNatClampNeg) hki_51 (by decide) hb_472 (by rw [← (show x_5 = (((V_.ui 29 y_7.toNatClampNeg ((-1) : Int32)).ui 30 y_7.toNatClampNeg x_34).ui 31 y_7.toNatClampNeg (0 : Int32)).i 22 me_.toNatClampNeg from vx_5)]; exact b_6.1) (by rw [← (show x_5 = (((V_.ui 29 y_7.toNatClampNeg ((-1) : Int32)).ui 30 y_7.toNatClampNeg x_34).ui 31 y_7.toNatClampNeg (0 : Int32)).i 22 me_.toNatClampNeg from vx_5), tnZ (by have h9_0 := bg52_14_8_a0_; unfold bd at h9_0; have h9_1 := bme_; unfold bd at h9_1; have h9_2 := bo_; unfold bd at h9_2; have h9_3 := bop_; unfold bd at h9_3; have h9_4 := b_21; unfold bd at h9_4; have h9_5 := h_16; unfold bd at h9_5; have h9_6 := b_469; unfold bd at h9_6; have h9_7 := bx_34; unfold bd at h9_7; have h9_8 := b_6; unfold bd at h9_8; have h9_9 := b_4; unfold bd at h9_9; have h9_10 := b_8; unfold bd at h9_10; have h8_0 := kb_0; unfold bd at h8_0; have h8_1 := kb_1; unfold bd at h8_1; have h8_2 := kb_11; unfold bd at h8_2; have h8_3 := kb_2; unfold bd at h8_3; have h8_4 := kb_6; unfold bd at h8_4; have h8_5 := kb_7; unfold bd at h8_5; have h8_6 := kb_m1; unfold bd at h8_6; omega), tnZ bme_.1]; have h9_0 := bg52_14_8_a0_; unfold bd at h9_0; have h9_1 := bme_; unfold bd at h9_1; have h9_2 := bo_; unfold bd at h9_2; have h9_3 := bop_; unfold bd at h9_3; have h9_4 := b_21; unfold bd at h9_4; have h9_5 := h_16; unfold bd at h9_5; have h9_6 := b_469; unfold bd at h9_6; have h9_7 := bx_34; unfold bd at h9_7; have h9_8 := b_6; unfold bd at h9_8; have h9_9 := b_4; unfold bd at h9_9; have h9_10 := b_8; unfold bd at h9_10; have h8_0 := kb_0; unfold bd at h8_0; have h8_1 := kb_1; unfold bd at h8_1; have h8_2 := kb_11; unfold bd at h8_2; have h8_3 := kb_2; unfold bd at h8_3; have h8_4 := kb_6; unfold bd at h8_4; have h8_5 := kb_7; unfold bd at h8_5; have h8_6 := kb_m1; unfold bd at h8_6; omega) (by rw [← (show x_5 = (((V_.ui 29 y_7.toNatClampNeg ((-1) : Int32)).ui 30 y_7.toNatClampNeg x_34).ui 31 y_7.toNatClampNeg (0 : Int32)).i 22 me_.toNatClampNeg from vx_5)]; have h9_0 := bg52_14_8_a0_; unfold bd at h9_0; have h9_1 := bme_; unfold bd at h9_1; have h9_2 := bo_; unfold bd at h9_2; have h9_3 := bop_; unfold bd at h9_3; have h9_4 := b_21; unfold bd at h9_4; have h9_5 := h_16; unfold bd at h9_5; have h9_6 := b_469; unfold bd at h9_6; have h9_7 := bx_34; unfold bd at h9_7; have h9_8 := b_6; unfold bd at h9_8; have h9_9 := b_4; unfold bd at h9_9; have h9_10 := b_8; unfold bd at h9_10; have h8_0 := kb_0; unfold bd at h8_0; have h8_1 := kb_1; unfold bd at h8_1; have h8_2 := kb_11; unfold bd at h8_2; have h8_3 := kb_2; unfold bd at h8_3; have h8_4 := kb_6; unfold bd at h8_4; have h8_5 := kb_7; unfold bd at h8_5; have h8_6 := kb_m1; unfold bd at h8_6; omega)
                have q_480 : ((((V_.ui 29 y_7.toNatClampNeg ((-1) : Int32)).ui 30 y_7.toNatClampNeg x_34).ui 31 y_7.toNatClampNeg (0 : Int32)).ui 28 y_7.toNatClampNeg (2 : Int32)).i 28 y_7.toNatClampNeg = (2 : Int32) := ui_same
                refine lv_aload_n hx hb dX14_readMark_230 rfl (lv_at hl 2 rfl) ?_
                refine lv_iload_n hx hb dX14_readMark_231 rfl (lv_at hl 1 rfl) ?_
                refine lv_bipush (v := 7) hx hb dX14_readMark_232 (by decide) ?_
                refine lv_icmp_ne (tgt := 241) hx hb dX14_readMark_234 (by decide) (fun c_481 => ?_) (fun c_481 => ?_)
                · have fc_481 := neq_f c_481
                  have b_482 : bd 8 6 x_2 := neX fc_481 b_469 kb_7 (by decide)
                  exact bd_no b_482 (by decide)
                · have fc_481 := eq_f c_481
                  refine lv_iconst (v := 1) hx hb dX14_readMark_237 (by decide) ?_
                  refine lv_goto (tgt := 242) hx hb dX14_readMark_238 (by decide) ?_
                  have go_ := g
                  refine g_put (C := RX14) (T := TX14) (N := 67) hx hb hts (mc_ inX14) tyX14 tyX14_ok nmX14 hown hK g ma0_ ka0_ (by decide) rfl 23 (by decide) (hts _ (List.mem_cons_of_mem _ t_2169)) (fun _ h9 => h9) rfl rfl (okV_i (bd_sub kb_1 (by decide))) rfl rfl (by decide) (Or.inr (Or.inl (by decide))) (fx' := [(12, 28, q0_, .ref a_470), (14, 22, a0_, .int 1), (12, 31, q0_, .ref a_43), (14, 8, a0_, .int x_34), (12, 30, q0_, .ref a_33), (12, 29, q0_, .ref a_23), (14, 10, a0_, .int x_15), (12, 26, q0_, .ref g52_12_26_q0_), (12, 22, q0_, .ref g52_12_22_q0_), (14, 2, a0_, .ref q0_), (14, 16, a0_, .int o_), (14, 25, a0_, .int op_), (14, 17, a0_, .int me_)]) rfl dX14_readMark_242 (fun f H locs hM_483 g => ?_)
                  have hG_484 := cEq.frame hM_483 go_.2.2.2.1 ma0_ ka0_ (by decide) (by decide) hG_475
                  have hG_485 := isV.frame hM_483 go_.2.2.2.1 mq0_ kq0_ (by decide) (by decide) hV_477
                  have hG_486 := FR.frame hM_483 go_.2.2.2.1 mq0_ kq0_ (by decide) (by decide) hF_478
                  refine lv_aload_n hx hb dX14_readMark_245 rfl (lv_at hl 2 rfl) ?_
                  refine g_getk (C := RX14) (T := TX14) (N := 67) hx hb hts (mc_ inX14) hown hK g rfl 2 (by decide) rfl (hts _ (List.mem_cons_of_mem _ t_2148)) (fun _ h9 => h9) 10 rfl dX14_readMark_246 ?_
                  refine g_getk (C := RX12) (T := TX12) (N := 60) hx hb hts (mc_ inX12) hown hK g rfl 29 (by decide) rfl (hts _ (List.mem_cons_of_mem _ t_1963)) (fun _ h9 => h9) 6 rfl dX14_readMark_249 ?_
                  refine lv_iload_n hx hb dX14_readMark_252 rfl (lv_at hl 0 rfl) ?_
                  refine lv_aload_n hx hb dX14_readMark_253 rfl (lv_at hl 2 rfl) ?_
                  have qc__487 : cF f a0_ = _ := hG_484
                  have qn__488 : (((((V_.ui 29 y_7.toNatClampNeg ((-1) : Int32)).ui 30 y_7.toNatClampNeg x_34).ui 31 y_7.toNatClampNeg (0 : Int32)).ui 28 y_7.toNatClampNeg (2 : Int32)).n 57).toInt = (V_.n 57).toInt ∧ (((((V_.ui 29 y_7.toNatClampNeg ((-1) : Int32)).ui 30 y_7.toNatClampNeg x_34).ui 31 y_7.toNatClampNeg (0 : Int32)).ui 28 y_7.toNatClampNeg (2 : Int32)).n 46).toInt = (V_.n 46).toInt := ⟨rfl, rfl⟩
                  have qc__489 : cF f a0_ = _ := hG_484
                  have go_ := g
                  refine g_callZi (As := []) (rest := [.int y_7, .ref a_23]) ⟨hx, hb, hml, hown, hts⟩ (r_X14_readEx l dC dI L kd tys f H.size g.2.2.2.1 adK adV a0_ ma0_ ka0_ q0_ mq0_ kq0_ ((((V_.ui 29 y_7.toNatClampNeg ((-1) : Int32)).ui 30 y_7.toNatClampNeg x_34).ui 31 y_7.toNatClampNeg (0 : Int32)).ui 28 y_7.toNatClampNeg (2 : Int32)) o_ bo_ op_ bop_ x_15 h_16 hG_485 hki_479.1.1 (by have h9 := hki_479.2.2.2; omega) (by omega) (K_ - cl_0) (by omega) (g.fcts [10, 11, 12, 7] rfl)) (cwV 0 hts (gV_ t_2460 t_2462 t_112 t_198 t_2463) rfl rfl rfl (by decide +kernel) ⟨(Nat.le_of_ble_eq_true rfl), (Nat.le_of_ble_eq_true rfl)⟩) (pre3VA g hK hAm ma0_ ka0_ (by decide) (q := (RX14, TX14, 67)) rfl) rfl hl.1 rfl (lv_room (Nat.le_of_ble_eq_true rfl)) dX14_readMark_254 (cl_k (K := K_) (k := K_ - cl_0) (show cl_0 + (K_ - cl_0) ≤ K_ by omega)) g hK (by decide) (by decide) (fx' := [(14, 23, a0_, .int 1), (12, 28, q0_, .ref a_470), (14, 22, a0_, .int 1), (12, 31, q0_, .ref a_43), (12, 30, q0_, .ref a_33), (12, 29, q0_, .ref a_23), (12, 26, q0_, .ref g52_12_26_q0_), (12, 22, q0_, .ref g52_12_22_q0_), (14, 2, a0_, .ref q0_), (14, 16, a0_, .int o_), (14, 17, a0_, .int me_)]) rfl (fun xr_490 fr_490 H locs kr_490 cr_490 ecr_490 mxr_490 kxr_490 hp hMr_490 g => ?_) (fun r_490 fr_490 H locs kr_490 cr_490 ecr_490 hp hMr_490 g => ?_)
                  · have hF_491 := FR.call (mds := []) (mas := []) hG_486 go_ mq0_ kq0_ rfl hp.1
                    have hpk := hp.2
                    subst hQ
                    exact leavesX hempty hlocks (fun t ht hW => g_thrZ g hK mxr_490 kxr_490 ⟨hF_491, (by omega)⟩ ht hW) g.2.2.1.2.2
                  · obtain ⟨hx_492, x_493, h_494, hF_495⟩ := hp
                    obtain ⟨V_496, E_497, hV_498, hF_499, hE_500, hX_501, hw_502, hv_503, hP_504, hn_505, hk_506, hc_507⟩ := rd_use hx_492 hG_484
                    have hF_508 := FR.call (mds := []) (mas := []) hG_486 go_ mq0_ kq0_ rfl hF_499
                    have mxE_497 : E_497 ≤ 1202 := by have h9 := cF_le g ma0_ ka0_; have h8 : cF _ _ = _ := hE_500; omega
                    have hki_509 := KI.nodes hki_479 hX_501 hw_502 (by omega)
                    have hki_509n : (V_496.n 46).toInt = (((((V_.ui 29 y_7.toNatClampNeg ((-1) : Int32)).ui 30 y_7.toNatClampNeg x_34).ui 31 y_7.toNatClampNeg (0 : Int32)).ui 28 y_7.toNatClampNeg (2 : Int32)).n 46).toInt := by rw [exN.n46 hX_501]
                    have hq_510 : x_5 = V_496.i 22 me_.toNatClampNeg := vx_5.trans (congrFun ((hX_501).1 22 (by decide) (by decide)) _).symm
                    have p18_511 : V_496.i 18 = V_.i 18 := ((hX_501).1 18 (by decide) (by decide)).trans (show ((((V_.ui 29 y_7.toNatClampNeg ((-1) : Int32)).ui 30 y_7.toNatClampNeg x_34).ui 31 y_7.toNatClampNeg (0 : Int32)).ui 28 y_7.toNatClampNeg (2 : Int32)).i 18 = V_.i 18 from p18_0)
                    have p27_512 : V_496.n 27 = V_.n 27 := ((hX_501).2.2.1 27 (by decide)).trans (show ((((V_.ui 29 y_7.toNatClampNeg ((-1) : Int32)).ui 30 y_7.toNatClampNeg x_34).ui 31 y_7.toNatClampNeg (0 : Int32)).ui 28 y_7.toNatClampNeg (2 : Int32)).n 27 = V_.n 27 from p27_0)
                    have q_513 : V_496.i 28 y_7.toNatClampNeg = (2 : Int32) := (congrFun ((hX_501).1 28 (by decide) (by decide)) _).trans q_480
                    have q_514 : V_496.i 29 y_7.toNatClampNeg = ((-1) : Int32) := (congrFun ((hX_501).1 29 (by decide) (by decide)) _).trans q_32
                    have hck_515 : cr_490 ≤ K_ := by omega
                    have b_516 : bd 0 2499 r_490 := ⟨hv_503.1, (by have h9 := hv_503.2.1; omega)⟩
                    have g := g.more hF_495
                    have hb_517 : ∀ c : Nat, c < 110 → (V_496.i 22 c).toInt ≤ 8 := (fun c hc => (isV.rng hV_498 g mq0_ kq0_ (j := 22) (K := 178) (by decide) rfl (by decide) rfl hc).2)
                    have gp_518 := g
                    have go_ := g
                    refine g_iastX hx hb hK g ma_23 ka_23 (by decide) rfl (in_bd b_8 (by decide)) (bd_sub b_516 (by decide)) (by decide) dX14_readMark_257 (fun f H locs hM_519 u_521 g => ?_)
                    have hG_520 := cEq.frame hM_519 go_.2.2.2.1 ma0_ ka0_ (by decide) (by decide) hE_500
                    have hV_522 := isV.ui hV_498 gp_518 7 rfl mq0_ kq0_ rfl u_521
                    have hF_523 := FR.arr hF_508 gp_518 7 rfl mq0_ kq0_ rfl rfl u_521.1
                    have hki_524 : KI (V_496.ui 29 y_7.toNatClampNeg r_490) δ_ o_.toNatClampNeg := KI.u28 (a := me_.toNatClampNeg) hki_509 (by decide) hb_517 (by rw [← (show x_5 = V_496.i 22 me_.toNatClampNeg from hq_510)]; exact b_6.1) (by rw [← (show x_5 = V_496.i 22 me_.toNatClampNeg from hq_510), tnZ (by have h9_0 := bg52_14_8_a0_; unfold bd at h9_0; have h9_1 := bme_; unfold bd at h9_1; have h9_2 := bo_; unfold bd at h9_2; have h9_3 := bop_; unfold bd at h9_3; have h9_4 := b_516; unfold bd at h9_4; have h9_5 := b_21; unfold bd at h9_5; have h9_6 := h_16; unfold bd at h9_6; have h9_7 := b_469; unfold bd at h9_7; have h9_8 := bx_34; unfold bd at h9_8; have h9_9 := h_494; unfold bd at h9_9; have h9_10 := b_6; unfold bd at h9_10; have h9_11 := b_4; unfold bd at h9_11; have h9_12 := b_8; unfold bd at h9_12; have h8_0 := kb_0; unfold bd at h8_0; have h8_1 := kb_1; unfold bd at h8_1; have h8_2 := kb_11; unfold bd at h8_2; have h8_3 := kb_2; unfold bd at h8_3; have h8_4 := kb_6; unfold bd at h8_4; have h8_5 := kb_7; unfold bd at h8_5; have h8_6 := kb_m1; unfold bd at h8_6; omega), tnZ bme_.1]; have h9_0 := bg52_14_8_a0_; unfold bd at h9_0; have h9_1 := bme_; unfold bd at h9_1; have h9_2 := bo_; unfold bd at h9_2; have h9_3 := bop_; unfold bd at h9_3; have h9_4 := b_516; unfold bd at h9_4; have h9_5 := b_21; unfold bd at h9_5; have h9_6 := h_16; unfold bd at h9_6; have h9_7 := b_469; unfold bd at h9_7; have h9_8 := bx_34; unfold bd at h9_8; have h9_9 := h_494; unfold bd at h9_9; have h9_10 := b_6; unfold bd at h9_10; have h9_11 := b_4; unfold bd at h9_11; have h9_12 := b_8; unfold bd at h9_12; have h8_0 := kb_0; unfold bd at h8_0; have h8_1 := kb_1; unfold bd at h8_1; have h8_2 := kb_11; unfold bd at h8_2; have h8_3 := kb_2; unfold bd at h8_3; have h8_4 := kb_6; unfold bd at h8_4; have h8_5 := kb_7; unfold bd at h8_5; have h8_6 := kb_m1; unfold bd at h8_6; omega) (by rw [← (show x_5 = V_496.i 22 me_.toNatClampNeg from hq_510)]; have h9_0 := bg52_14_8_a0_; unfold bd at h9_0; have h9_1 := bme_; unfold bd at h9_1; have h9_2 := bo_; unfold bd at h9_2; have h9_3 := bop_; unfold bd at h9_3; have h9_4 := b_516; unfold bd at h9_4; have h9_5 := b_21; unfold bd at h9_5; have h9_6 := h_16; unfold bd at h9_6; have h9_7 := b_469; unfold bd at h9_7; have h9_8 := bx_34; unfold bd at h9_8; have h9_9 := h_494; unfold bd at h9_9; have h9_10 := b_6; unfold bd at h9_10; have h9_11 := b_4; unfold bd at h9_11; have h9_12 := b_8; unfold bd at h9_12; have h8_0 := kb_0; unfold bd at h8_0; have h8_1 := kb_1; unfold bd at h8_1; have h8_2 := kb_11; unfold bd at h8_2; have h8_3 := kb_2; unfold bd at h8_3; have h8_4 := kb_6; unfold bd at h8_4; have h8_5 := kb_7; unfold bd at h8_5; have h8_6 := kb_m1; unfold bd at h8_6; omega)
                    have q_525 : (V_496.ui 29 y_7.toNatClampNeg r_490).i 29 y_7.toNatClampNeg = r_490 := ui_same
                    refine lv_aload_n hx hb dX14_readMark_258 rfl (lv_at hl 2 rfl) ?_
                    refine lv_iconst (v := 0) hx hb dX14_readMark_259 (by decide) ?_
                    have go_ := g
                    refine g_put (C := RX14) (T := TX14) (N := 67) hx hb hts (mc_ inX14) tyX14 tyX14_ok nmX14 hown hK g ma0_ ka0_ (by decide) rfl 23 (by decide) (hts _ (List.mem_cons_of_mem _ t_2169)) (fun _ h9 => h9) rfl rfl (okV_i (bd_sub kb_0 (by decide))) rfl rfl (by decide) (Or.inr (Or.inl (by decide))) (fx' := [(14, 25, a0_, .int op_), (14, 10, a0_, .int x_493), (12, 28, q0_, .ref a_470), (14, 22, a0_, .int 1), (12, 31, q0_, .ref a_43), (12, 30, q0_, .ref a_33), (12, 29, q0_, .ref a_23), (12, 26, q0_, .ref g52_12_26_q0_), (12, 22, q0_, .ref g52_12_22_q0_), (14, 2, a0_, .ref q0_), (14, 16, a0_, .int o_), (14, 17, a0_, .int me_)]) rfl dX14_readMark_260 (fun f H locs hM_526 g => ?_)
                    have hG_527 := cEq.frame hM_526 go_.2.2.2.1 ma0_ ka0_ (by decide) (by decide) hG_520
                    have hG_528 := isV.frame hM_526 go_.2.2.2.1 mq0_ kq0_ (by decide) (by decide) hV_522
                    have hG_529 := FR.frame hM_526 go_.2.2.2.1 mq0_ kq0_ (by decide) (by decide) hF_523
                    refine lv_goto (tgt := 490) hx hb dX14_readMark_263 (by decide) ?_
                    refine lv_aload_n hx hb dX14_readMark_490 rfl (lv_at hl 2 rfl) ?_
                    refine lv_iconst (v := 0) hx hb dX14_readMark_491 (by decide) ?_
                    have go_ := g
                    refine g_put (C := RX14) (T := TX14) (N := 67) hx hb hts (mc_ inX14) tyX14 tyX14_ok nmX14 hown hK g ma0_ ka0_ (by decide) rfl 22 (by decide) (hts _ (List.mem_cons_of_mem _ t_2168)) (fun _ h9 => h9) rfl rfl (okV_i (bd_sub kb_0 (by decide))) rfl rfl (by decide) (Or.inr (Or.inl (by decide))) (fx' := [(14, 23, a0_, .int 0), (14, 25, a0_, .int op_), (14, 10, a0_, .int x_493), (12, 28, q0_, .ref a_470), (12, 31, q0_, .ref a_43), (12, 30, q0_, .ref a_33), (12, 29, q0_, .ref a_23), (12, 26, q0_, .ref g52_12_26_q0_), (12, 22, q0_, .ref g52_12_22_q0_), (14, 2, a0_, .ref q0_), (14, 16, a0_, .int o_), (14, 17, a0_, .int me_)]) rfl dX14_readMark_492 (fun f H locs hM_530 g => ?_)
                    have hG_531 := cEq.frame hM_530 go_.2.2.2.1 ma0_ ka0_ (by decide) (by decide) hG_527
                    have hG_532 := isV.frame hM_530 go_.2.2.2.1 mq0_ kq0_ (by decide) (by decide) hG_528
                    have hG_533 := FR.frame hM_530 go_.2.2.2.1 mq0_ kq0_ (by decide) (by decide) hG_529
                    refine lv_aload_n hx hb dX14_readMark_495 rfl (lv_at hl 2 rfl) ?_
                    refine lv_bipush (v := 59) hx hb dX14_readMark_496 (by decide) ?_
                    have go_ := g
                    refine g_callEv (As := [.int 59]) (rest := []) ⟨hx, hb, hml, hown, hts⟩ (r_X14_sign_2 l dC dI L kd tys f H.size g.2.2.2.1 adK adV a0_ ma0_ ka0_ 59 x_493 h_494 (g.fcts [3] rfl)) (cwV 1 hts (gV_ t_2431 t_2433 t_107 t_198 t_2434) rfl rfl rfl (by decide +kernel) ⟨(Nat.le_of_ble_eq_true rfl), (Nat.le_of_ble_eq_true rfl)⟩) (pre3VA g hK hAm ma0_ ka0_ (by decide) (q := (RX14, TX14, 67)) rfl) rfl hl.1 rfl (lv_room (Nat.le_of_ble_eq_true rfl)) dX14_readMark_498 (cl_f hck_515) g hK (by decide) (by decide) (fx' := [(14, 22, a0_, .int 0), (14, 23, a0_, .int 0), (14, 25, a0_, .int op_), (12, 28, q0_, .ref a_470), (12, 31, q0_, .ref a_43), (12, 30, q0_, .ref a_33), (12, 29, q0_, .ref a_23), (12, 26, q0_, .ref g52_12_26_q0_), (12, 22, q0_, .ref g52_12_22_q0_), (14, 2, a0_, .ref q0_), (14, 16, a0_, .int o_), (14, 17, a0_, .int me_)]) rfl (fun xr_534 fr_534 H locs mxr_534 kxr_534 hp hMr_534 g => ?_) (fun fr_534 H locs hp hMr_534 g => ?_)
                    · have hG_535 := isV.frame hMr_534 go_.2.2.2.1 mq0_ kq0_ (by decide) (by decide) hG_532
                      have hG_536 := FR.frame hMr_534 go_.2.2.2.1 mq0_ kq0_ (by decide) (by decide) hG_533
                      subst hQ
                      exact leavesX hempty hlocks (fun t ht hW => g_thrZ g hK mxr_534 kxr_534 ⟨hG_536, (by omega)⟩ ht hW) g.2.2.1.2.2
                    · obtain ⟨hx_537, h_538, x_539, h_540, hF_541⟩ := hp
                      have hG_542 := isV.frame hMr_534 go_.2.2.2.1 mq0_ kq0_ (by decide) (by decide) hG_532
                      have hG_543 := FR.frame hMr_534 go_.2.2.2.1 mq0_ kq0_ (by decide) (by decide) hG_533
                      obtain ⟨E_544, hE_544⟩ : ∃ E : Int, cEq fr_534 a0_ E := ⟨_, rfl⟩
                      have mxE_544 : E_544 ≤ 1202 := by have h9 := cF_le g ma0_ ka0_; have h8 : cF _ _ = _ := hE_544; omega
                      have lE_544 : E_497 + 1 ≤ E_544 := by have h9 := hx_537; have h8 : cF _ _ = _ := hE_544; have h7 : cF _ _ = _ := hG_531; omega
                      have b_545 : bd 0 1200 x_493 := eqX rfl h_494 h_538 (by decide)
                      have g := g.more hF_541
                      refine lv_aload_n hx hb dX14_readMark_501 rfl (lv_at hl 2 rfl) ?_
                      refine g_getk (C := RX14) (T := TX14) (N := 67) hx hb hts (mc_ inX14) hown hK g rfl 2 (by decide) rfl (hts _ (List.mem_cons_of_mem _ t_2148)) (fun _ h9 => h9) 10 rfl dX14_readMark_502 ?_
                      refine g_getk (C := RX12) (T := TX12) (N := 60) hx hb hts (mc_ inX12) hown hK g rfl 22 (by decide) rfl (hts _ (List.mem_cons_of_mem _ t_1950)) (fun _ h9 => h9) 9 rfl dX14_readMark_505 ?_
                      refine lv_aload_n hx hb dX14_readMark_508 rfl (lv_at hl 2 rfl) ?_
                      refine g_getk (C := RX14) (T := TX14) (N := 67) hx hb hts (mc_ inX14) hown hK g rfl 17 (by decide) rfl (hts _ (List.mem_cons_of_mem _ t_2163)) (fun _ h9 => h9) 12 rfl dX14_readMark_509 ?_
                      refine lv_dup2_11 hx hb dX14_readMark_512 rfl rfl ?_
                      refine g_iald hx hb hK g mg52_12_22_q0_ kg52_12_22_q0_ (by decide) rfl (in_bd bme_ (by decide)) dX14_readMark_513 (fun x_546 bx_546 cx_546 => ?_)
                      have vx_546 : x_546 = (V_496.ui 29 y_7.toNatClampNeg r_490).i 22 me_.toNatClampNeg := hG_542.at g 9 rfl rfl cx_546
                      obtain rfl : x_5 = x_546 := (show x_5 = (V_496.ui 29 y_7.toNatClampNeg r_490).i 22 me_.toNatClampNeg from hq_510).trans vx_546.symm
                      refine lv_iconst (v := 1) hx hb dX14_readMark_514 (by decide) ?_
                      refine lv_iadd hx hb dX14_readMark_515 ?_
                      refine lv_topi (fun y_547 ey_547 => ?_)
                      have ty_547 := add_bd ey_547 b_6 kb_1 (by decide)
                      have b_548 : bd 1 8 y_547 := add_rg ty_547 b_6 kb_1 (by decide)
                      have gp_550 := g
                      have go_ := g
                      refine g_iastX hx hb hK g mg52_12_22_q0_ kg52_12_22_q0_ (by decide) rfl (in_bd bme_ (by decide)) (bd_sub b_548 (by decide)) (by decide) dX14_readMark_516 (fun f H locs hM_551 u_553 g => ?_)
                      have hG_552 := cEq.frame hM_551 go_.2.2.2.1 ma0_ ka0_ (by decide) (by decide) hE_544
                      have hV_554 := isV.ui hG_542 gp_550 9 rfl mq0_ kq0_ rfl u_553
                      have hF_555 := FR.arr hG_543 gp_550 9 rfl mq0_ kq0_ rfl rfl u_553.1
                      have hx_557 : 8 * me_.toNatClampNeg + x_5.toNatClampNeg = y_7.toNatClampNeg := by have h9 := tnZ b_6.1; have h8 := tnZ (i := y_7) (by have h9_0 := bg52_14_8_a0_; unfold bd at h9_0; have h9_1 := bme_; unfold bd at h9_1; have h9_2 := bo_; unfold bd at h9_2; have h9_3 := bop_; unfold bd at h9_3; have h9_4 := b_516; unfold bd at h9_4; have h9_5 := b_21; unfold bd at h9_5; have h9_6 := h_16; unfold bd at h9_6; have h9_7 := b_469; unfold bd at h9_7; have h9_8 := bx_34; unfold bd at h9_8; have h9_9 := b_545; unfold bd at h9_9; have h9_10 := b_6; unfold bd at h9_10; have h9_11 := h_540; unfold bd at h9_11; have h9_12 := bx_546; unfold bd at h9_12; have h9_13 := b_4; unfold bd at h9_13; have h9_14 := b_548; unfold bd at h9_14; have h9_15 := b_8; unfold bd at h9_15; have h8_0 := kb_0; unfold bd at h8_0; have h8_1 := kb_1; unfold bd at h8_1; have h8_2 := kb_11; unfold bd at h8_2; have h8_3 := kb_2; unfold bd at h8_3; have h8_4 := kb_6; unfold bd at h8_4; have h8_5 := kb_7; unfold bd at h8_5; have h8_6 := kb_m1; unfold bd at h8_6; omega); have h9_0 := bg52_14_8_a0_; unfold bd at h9_0; have h9_1 := bme_; unfold bd at h9_1; have h9_2 := bo_; unfold bd at h9_2; have h9_3 := bop_; unfold bd at h9_3; have h9_4 := b_516; unfold bd at h9_4; have h9_5 := b_21; unfold bd at h9_5; have h9_6 := h_16; unfold bd at h9_6; have h9_7 := b_469; unfold bd at h9_7; have h9_8 := bx_34; unfold bd at h9_8; have h9_9 := b_545; unfold bd at h9_9; have h9_10 := b_6; unfold bd at h9_10; have h9_11 := h_540; unfold bd at h9_11; have h9_12 := bx_546; unfold bd at h9_12; have h9_13 := b_4; unfold bd at h9_13; have h9_14 := b_548; unfold bd at h9_14; have h9_15 := b_8; unfold bd at h9_15; have h8_0 := kb_0; unfold bd at h8_0; have h8_1 := kb_1; unfold bd at h8_1; have h8_2 := kb_11; unfold bd at h8_2; have h8_3 := kb_2; unfold bd at h8_3; have h8_4 := kb_6; unfold bd at h8_4; have h8_5 := kb_7; unfold bd at h8_5; have h8_6 := kb_m1; unfold bd at h8_6; omega
                      have hm18x : ((V_496.ui 29 y_7.toNatClampNeg r_490).i 18 me_.toNatClampNeg).toNatClampNeg = o_.toNatClampNeg := by rw [show (V_496.ui 29 y_7.toNatClampNeg r_490).i 18 = V_.i 18 from p18_511]; exact hm18
                      have hki_556 : KI ((V_496.ui 29 y_7.toNatClampNeg r_490).ui 22 me_.toNatClampNeg y_547) δ_ o_.toNatClampNeg := KI.u22 (a := me_.toNatClampNeg) hki_524 (by rw [← (show x_5 = (V_496.ui 29 y_7.toNatClampNeg r_490).i 22 me_.toNatClampNeg from hq_510)]; exact b_6.1) (by rw [← (show x_5 = (V_496.ui 29 y_7.toNatClampNeg r_490).i 22 me_.toNatClampNeg from hq_510)]; have h9_0 := bg52_14_8_a0_; unfold bd at h9_0; have h9_1 := bme_; unfold bd at h9_1; have h9_2 := bo_; unfold bd at h9_2; have h9_3 := bop_; unfold bd at h9_3; have h9_4 := b_516; unfold bd at h9_4; have h9_5 := b_21; unfold bd at h9_5; have h9_6 := h_16; unfold bd at h9_6; have h9_7 := b_469; unfold bd at h9_7; have h9_8 := bx_34; unfold bd at h9_8; have h9_9 := b_545; unfold bd at h9_9; have h9_10 := b_6; unfold bd at h9_10; have h9_11 := h_540; unfold bd at h9_11; have h9_12 := bx_546; unfold bd at h9_12; have h9_13 := b_4; unfold bd at h9_13; have h9_14 := b_548; unfold bd at h9_14; have h9_15 := b_8; unfold bd at h9_15; have h8_0 := kb_0; unfold bd at h8_0; have h8_1 := kb_1; unfold bd at h8_1; have h8_2 := kb_11; unfold bd at h8_2; have h8_3 := kb_2; unfold bd at h8_3; have h8_4 := kb_6; unfold bd at h8_4; have h8_5 := kb_7; unfold bd at h8_5; have h8_6 := kb_m1; unfold bd at h8_6; omega) (by rw [← (show x_5 = (V_496.ui 29 y_7.toNatClampNeg r_490).i 22 me_.toNatClampNeg from hq_510), hx_557, show (V_496.ui 29 y_7.toNatClampNeg r_490).i 28 y_7.toNatClampNeg = (2 : Int32) from q_513, show (V_496.ui 29 y_7.toNatClampNeg r_490).i 29 y_7.toNatClampNeg = r_490 from q_525]; exact ⟨(fun _ => (by rw [hm18x]; exact hv_503.up (by decide))), (fun h9 => absurd h9 (by decide))⟩)
                      have h9c : cF f a0_ = _ := hG_552
                      have h8c : (((V_496.ui 29 y_7.toNatClampNeg r_490).ui 22 me_.toNatClampNeg y_547).n 57).toInt = (V_496.n 57).toInt ∧ (((V_496.ui 29 y_7.toNatClampNeg r_490).ui 22 me_.toNatClampNeg y_547).n 46).toInt = (V_496.n 46).toInt := ⟨rfl, rfl⟩
                      subst hQ
                      exact vretX hx hb hr (fun t ht hW => g_retZ g hK ⟨rfl, ⟨⟨((V_496.ui 29 y_7.toNatClampNeg r_490).ui 22 me_.toNatClampNeg y_547), _, hV_554, hF_555, hki_556, ⟨p27_512, p18_511⟩, (by omega), (by omega), (by omega), (by omega)⟩, x_539, h_540, (g.fcts [3, 0] rfl)⟩⟩ ht hW) g.2.2.1.2.2 dX14_readMark_517 hlocks
              · have fc_471 := eq_f c_471
                exact absurd fc_471 fc_56
        · have fc_22 := eq_f c_22
          have b_558 : bd 11 11 x_2 := eqX fc_22 (bdT x_2) kb_11 (by decide)
          refine lv_aload_n hx hb dX14_readMark_140 rfl (lv_at hl 2 rfl) ?_
          refine lv_bipush (v := 59) hx hb dX14_readMark_141 (by decide) ?_
          have go_ := g
          refine g_callEv (As := [.int 59]) (rest := []) ⟨hx, hb, hml, hown, hts⟩ (r_X14_sign_2 l dC dI L kd tys fr_10 H.size g.2.2.2.1 adK adV a0_ ma0_ ka0_ 59 x_15 h_16 (g.fcts [0] rfl)) (cwV 1 hts (gV_ t_2431 t_2433 t_107 t_198 t_2434) rfl rfl rfl (by decide +kernel) ⟨(Nat.le_of_ble_eq_true rfl), (Nat.le_of_ble_eq_true rfl)⟩) (pre3VA g hK hAm ma0_ ka0_ (by decide) (q := (RX14, TX14, 67)) rfl) rfl hl.1 rfl (lv_room (Nat.le_of_ble_eq_true rfl)) dX14_readMark_143 (cl_f hck_0) g hK (by decide) (by decide) (fx' := [(12, 26, q0_, .ref g52_12_26_q0_), (12, 22, q0_, .ref g52_12_22_q0_), (14, 2, a0_, .ref q0_), (14, 16, a0_, .int o_), (14, 25, a0_, .int op_), (14, 17, a0_, .int me_)]) rfl (fun xr_559 fr_559 H locs mxr_559 kxr_559 hp hMr_559 g => ?_) (fun fr_559 H locs hp hMr_559 g => ?_)
          · have hG_560 := isV.frame hMr_559 go_.2.2.2.1 mq0_ kq0_ (by decide) (by decide) hG_18
            have hG_561 := FR.frame hMr_559 go_.2.2.2.1 mq0_ kq0_ (by decide) (by decide) hG_19
            subst hQ
            exact leavesX hempty hlocks (fun t ht hW => g_thrZ g hK mxr_559 kxr_559 ⟨hG_561, (by omega)⟩ ht hW) g.2.2.1.2.2
          · obtain ⟨hx_562, h_563, x_564, h_565, hF_566⟩ := hp
            have hG_567 := isV.frame hMr_559 go_.2.2.2.1 mq0_ kq0_ (by decide) (by decide) hG_18
            have hG_568 := FR.frame hMr_559 go_.2.2.2.1 mq0_ kq0_ (by decide) (by decide) hG_19
            obtain ⟨E_569, hE_569⟩ : ∃ E : Int, cEq fr_559 a0_ E := ⟨_, rfl⟩
            have mxE_569 : E_569 ≤ 1202 := by have h9 := cF_le g ma0_ ka0_; have h8 : cF _ _ = _ := hE_569; omega
            have lE_569 : E_20 + 1 ≤ E_569 := by have h9 := hx_562; have h8 : cF _ _ = _ := hE_569; have h7 : cF _ _ = _ := hE_20; omega
            have b_570 : bd 0 1200 x_15 := eqX rfl h_16 h_563 (by decide)
            have g := g.more hF_566
            refine lv_aload_n hx hb dX14_readMark_146 rfl (lv_at hl 2 rfl) ?_
            refine g_getk (C := RX14) (T := TX14) (N := 67) hx hb hts (mc_ inX14) hown hK g rfl 2 (by decide) rfl (hts _ (List.mem_cons_of_mem _ t_2148)) (fun _ h9 => h9) 3 rfl dX14_readMark_147 ?_
            refine g_getk (C := RX12) (T := TX12) (N := 60) hx hb hts (mc_ inX12) hown hK g rfl 26 (by decide) rfl (hts _ (List.mem_cons_of_mem _ t_1958)) (fun _ h9 => h9) 1 rfl dX14_readMark_150 ?_
            refine lv_aload_n hx hb dX14_readMark_153 rfl (lv_at hl 2 rfl) ?_
            refine g_getk (C := RX14) (T := TX14) (N := 67) hx hb hts (mc_ inX14) hown hK g rfl 17 (by decide) rfl (hts _ (List.mem_cons_of_mem _ t_2163)) (fun _ h9 => h9) 6 rfl dX14_readMark_154 ?_
            refine lv_iconst (v := 1) hx hb dX14_readMark_157 (by decide) ?_
            have gp_572 := g
            have kb_1 : bd 1 1 (1 : Int32) := ⟨by decide, by decide⟩
            have go_ := g
            refine g_zastX hx hb hK g mg52_12_26_q0_ kg52_12_26_q0_ (by decide) rfl (in_bd bme_ (by decide)) (bd_sub kb_1 (by decide)) (by decide) dX14_readMark_158 (fun f H locs hM_573 u_575 g => ?_)
            have hG_574 := cEq.frame hM_573 go_.2.2.2.1 ma0_ ka0_ (by decide) (by decide) hE_569
            have hV_576 := isV.uo hG_567 gp_572 1 rfl mq0_ kq0_ rfl rfl u_575.1
            have hF_577 := FR.arr hG_568 gp_572 1 rfl mq0_ kq0_ rfl rfl u_575.1
            have h9c : cF f a0_ = _ := hG_574
            have h8c : (V_.n 57).toInt = (V_.n 57).toInt ∧ (V_.n 46).toInt = (V_.n 46).toInt := ⟨rfl, rfl⟩
            subst hQ
            exact vretX hx hb hr (fun t ht hW => g_retZ g hK ⟨rfl, ⟨⟨V_, _, hV_576, hF_577, hki_0, ⟨p27_0, p18_0⟩, (by omega), (by omega), (by omega), (by omega)⟩, x_564, h_565, (g.fcts [5, 0] rfl)⟩⟩ ht hW) g.2.2.1.2.2 dX14_readMark_159 hlocks
    refine lv_iload_n hx hb dX14_readMark_78 rfl (lv_at hl 1 rfl) ?_
    refine lv_bipush (v := 11) hx hb dX14_readMark_79 (by decide) ?_
    have kb_11 : bd 11 11 (11 : Int32) := ⟨by decide, by decide⟩
    refine lv_icmp_eq (tgt := 90) hx hb dX14_readMark_81 (by decide) (fun c_579 => ?_) (fun c_579 => ?_)
    · have fc_579 := eq_f c_579
      have b_580 : bd 11 11 x_2 := eqX fc_579 (bdT x_2) kb_11 (by decide)
      refine lv_aload_n hx hb dX14_readMark_90 rfl (lv_at hl 2 rfl) ?_
      have go_ := g
      refine g_callEv (As := []) (rest := []) ⟨hx, hb, hml, hown, hts⟩ (r_X14_room l dC dI L kd tys f H.size g.2.2.2.1 a0_ ma0_ ka0_) (cwV 0 hts (gV_ t_2415 t_2417 t_103 t_198 t_2418) rfl rfl rfl (by decide +kernel) ⟨(Nat.le_of_ble_eq_true rfl), (Nat.le_of_ble_eq_true rfl)⟩) (pre3V g hK ma0_ ka0_ (by decide) (q := (RX14, TX14, 67)) rfl) rfl hl.1 rfl (lv_room (Nat.le_of_ble_eq_true rfl)) dX14_readMark_91 (cl_f hck_0) g hK (by decide) (by decide) (fx' := [(14, 7, a0_, .int x_2), (14, 8, a0_, .int g52_14_8_a0_), (12, 26, q0_, .ref g52_12_26_q0_), (12, 22, q0_, .ref g52_12_22_q0_), (14, 2, a0_, .ref q0_), (14, 16, a0_, .int o_), (14, 25, a0_, .int op_), (14, 10, a0_, .int t_), (14, 17, a0_, .int me_)]) rfl (fun xr_581 fr_581 H locs mxr_581 kxr_581 hp hMr_581 g => ?_) (fun fr_581 H locs hp hMr_581 g => ?_)
      · have hG_582 := isV.frame hMr_581 go_.2.2.2.1 mq0_ kq0_ (by decide) (by decide) hJ52_V_q0_
        have hG_583 := FR.frame hMr_581 go_.2.2.2.1 mq0_ kq0_ (by decide) (by decide) hJ52_F_q0_
        have hG_584 := cEq.frame hMr_581 go_.2.2.2.1 ma0_ ka0_ (by decide) (by decide) hJ52_C_a0_
        subst hQ
        exact leavesX hempty hlocks (fun t ht hW => g_thrZ g hK mxr_581 kxr_581 ⟨hG_583, (by omega)⟩ ht hW) g.2.2.1.2.2
      · obtain ⟨x_585, h_586, hF_587⟩ := hp
        have hG_588 := isV.frame hMr_581 go_.2.2.2.1 mq0_ kq0_ (by decide) (by decide) hJ52_V_q0_
        have hG_589 := FR.frame hMr_581 go_.2.2.2.1 mq0_ kq0_ (by decide) (by decide) hJ52_F_q0_
        have hG_590 := cEq.frame hMr_581 go_.2.2.2.1 ma0_ ka0_ (by decide) (by decide) hJ52_C_a0_
        have g := g.more hF_587
        have e_591 := fx_same g 8 0 rfl rfl
        have b_592 : bd 0 1200 t_ := eqX (eq_f e_591.symm) bt_ h_586 (by decide)
        have g := g.sub (fx' := [(14, 7, a0_, .int x_2), (14, 8, a0_, .int g52_14_8_a0_), (12, 26, q0_, .ref g52_12_26_q0_), (12, 22, q0_, .ref g52_12_22_q0_), (14, 2, a0_, .ref q0_), (14, 16, a0_, .int o_), (14, 25, a0_, .int op_), (14, 10, a0_, .int t_), (14, 17, a0_, .int me_)]) [1, 2, 3, 4, 5, 6, 7, 8, 9] rfl
        refine lv_aload_n hx hb dX14_readMark_94 rfl (lv_at hl 2 rfl) ?_
        refine lv_aload_n hx hb dX14_readMark_95 rfl (lv_at hl 2 rfl) ?_
        refine g_getk (C := RX14) (T := TX14) (N := 67) hx hb hts (mc_ inX14) hown hK g rfl 2 (by decide) rfl (hts _ (List.mem_cons_of_mem _ t_2148)) (fun _ h9 => h9) 4 rfl dX14_readMark_96 ?_
        refine g_getk (C := RX12) (T := TX12) (N := 60) hx hb hts (mc_ inX12) hown hK g rfl 26 (by decide) rfl (hts _ (List.mem_cons_of_mem _ t_1958)) (fun _ h9 => h9) 2 rfl dX14_readMark_99 ?_
        refine lv_aload_n hx hb dX14_readMark_102 rfl (lv_at hl 2 rfl) ?_
        refine g_getk (C := RX14) (T := TX14) (N := 67) hx hb hts (mc_ inX14) hown hK g rfl 17 (by decide) rfl (hts _ (List.mem_cons_of_mem _ t_2163)) (fun _ h9 => h9) 8 rfl dX14_readMark_103 ?_
        refine g_zald hx hb hK g mg52_12_26_q0_ kg52_12_26_q0_ (by decide) rfl (in_bd bme_ (by decide)) dX14_readMark_106 (fun x_593 bx_593 => ?_)
        have kb_0 : bd 0 0 (0 : Int32) := ⟨by decide, by decide⟩
        refine lv_if_ne (tgt := 121) hx hb dX14_readMark_107 (by decide) (fun c_594 => ?_) (fun c_594 => ?_)
        · have fc_594 := neq_f c_594
          have b_595 : bd 1 1 x_593 := neX fc_594 bx_593 kb_0 (by decide)
          refine lv_iconst (v := 0) hx hb dX14_readMark_121 (by decide) ?_
          refine lv_iconst (v := 5) hx hb dX14_readMark_122 (by decide) ?_
          refine lv_aload_n hx hb dX14_readMark_123 rfl (lv_at hl 2 rfl) ?_
          refine g_getk (C := RX14) (T := TX14) (N := 67) hx hb hts (mc_ inX14) hown hK g rfl 8 (by decide) rfl (hts _ (List.mem_cons_of_mem _ t_2154)) (fun _ h9 => h9) 1 rfl dX14_readMark_124 ?_
          have go_ := g
          refine g_callEv (As := [.int 0, .int 5, .int g52_14_8_a0_]) (rest := []) ⟨hx, hb, hml, hown, hts⟩ (r_X14_need_2 l dC dI L kd tys fr_581 H.size g.2.2.2.1 a0_ ma0_ ka0_ 0 kb_0 5 g52_14_8_a0_) (cwV 3 hts (gV_ t_2403 t_2405 t_100 t_198 t_2406) rfl rfl rfl (by decide +kernel) ⟨(Nat.le_of_ble_eq_true rfl), (Nat.le_of_ble_eq_true rfl)⟩) (pre3V g hK ma0_ ka0_ (by decide) (q := (RX14, TX14, 67)) rfl) rfl hl.1 rfl (lv_room (Nat.le_of_ble_eq_true rfl)) dX14_readMark_127 (cl_f hck_0) g hK (by decide) (by decide) (fx' := [(14, 7, a0_, .int x_2), (14, 8, a0_, .int g52_14_8_a0_), (12, 26, q0_, .ref g52_12_26_q0_), (12, 22, q0_, .ref g52_12_22_q0_), (14, 2, a0_, .ref q0_), (14, 16, a0_, .int o_), (14, 25, a0_, .int op_), (14, 10, a0_, .int t_), (14, 17, a0_, .int me_)]) rfl (fun xr_596 fr_596 H locs mxr_596 kxr_596 hp hMr_596 g => ?_) (fun fr_596 H locs hp hMr_596 g => ?_)
          · have hG_597 := isV.frame hMr_596 go_.2.2.2.1 mq0_ kq0_ (by decide) (by decide) hG_588
            have hG_598 := FR.frame hMr_596 go_.2.2.2.1 mq0_ kq0_ (by decide) (by decide) hG_589
            have hG_599 := cEq.frame hMr_596 go_.2.2.2.1 ma0_ ka0_ (by decide) (by decide) hG_590
            subst hQ
            exact leavesX hempty hlocks (fun t ht hW => g_thrZ g hK mxr_596 kxr_596 ⟨hG_598, (by omega)⟩ ht hW) g.2.2.1.2.2
          · exact hp.elim
        · have fc_594 := eq_f c_594
          have b_600 : bd 0 0 x_593 := eqX fc_594 bx_593 kb_0 (by decide)
          refine lv_aload_n hx hb dX14_readMark_110 rfl (lv_at hl 2 rfl) ?_
          have go_ := g
          refine g_calli (va_runV (As := []) (rest := [.ref a0_]) ⟨hx, hb, hml, hown, hts⟩ (r_X14_hasOnly l dC dI L kd tys fr_581 H.size g.2.2.2.1 a0_ ma0_ ka0_) (cwV 0 hts (gV_ t_2538 t_2540 t_130 t_198 t_2541) rfl rfl rfl (by decide +kernel) ⟨(Nat.le_of_ble_eq_true rfl), (Nat.le_of_ble_eq_true rfl)⟩) (pre3V g hK ma0_ ka0_ (by decide) (q := (RX14, TX14, 67)) rfl) rfl rfl hl.1 rfl (lv_room (Nat.le_of_ble_eq_true rfl)) dX14_readMark_111 (cl_f hck_0)) g hK (by decide) (by decide) (fx' := [(14, 7, a0_, .int x_2), (14, 8, a0_, .int g52_14_8_a0_), (12, 26, q0_, .ref g52_12_26_q0_), (12, 22, q0_, .ref g52_12_22_q0_), (14, 2, a0_, .ref q0_), (14, 16, a0_, .int o_), (14, 25, a0_, .int op_), (14, 10, a0_, .int t_), (14, 17, a0_, .int me_)]) rfl (fun r_601 fr_601 H locs hp hMr_601 g => ?_)
          rcases hp with ⟨h_602, -⟩ | ⟨h_603, -⟩
          · have hG_604 := isV.frame hMr_601 go_.2.2.2.1 mq0_ kq0_ (by decide) (by decide) hG_588
            have hG_605 := FR.frame hMr_601 go_.2.2.2.1 mq0_ kq0_ (by decide) (by decide) hG_589
            have hG_606 := cEq.frame hMr_601 go_.2.2.2.1 ma0_ ka0_ (by decide) (by decide) hG_590
            obtain rfl : r_601 = 0 := h_602
            refine lv_if_ne (tgt := 121) hx hb dX14_readMark_114 (by decide) (fun c_ => absurd c_ (by decide)) (fun c_ => ?_)
            refine lv_iconst (v := 1) hx hb dX14_readMark_117 (by decide) ?_
            refine lv_goto (tgt := 122) hx hb dX14_readMark_118 (by decide) ?_
            refine lv_iconst (v := 5) hx hb dX14_readMark_122 (by decide) ?_
            refine lv_aload_n hx hb dX14_readMark_123 rfl (lv_at hl 2 rfl) ?_
            refine g_getk (C := RX14) (T := TX14) (N := 67) hx hb hts (mc_ inX14) hown hK g rfl 8 (by decide) rfl (hts _ (List.mem_cons_of_mem _ t_2154)) (fun _ h9 => h9) 1 rfl dX14_readMark_124 ?_
            have kb_1 : bd 1 1 (1 : Int32) := ⟨by decide, by decide⟩
            have go_ := g
            refine g_callEv (As := [.int 1, .int 5, .int g52_14_8_a0_]) (rest := []) ⟨hx, hb, hml, hown, hts⟩ (r_X14_need_3 l dC dI L kd tys fr_601 H.size g.2.2.2.1 a0_ ma0_ ka0_ 1 kb_1 5 g52_14_8_a0_) (cwV 3 hts (gV_ t_2403 t_2405 t_100 t_198 t_2406) rfl rfl rfl (by decide +kernel) ⟨(Nat.le_of_ble_eq_true rfl), (Nat.le_of_ble_eq_true rfl)⟩) (pre3V g hK ma0_ ka0_ (by decide) (q := (RX14, TX14, 67)) rfl) rfl hl.1 rfl (lv_room (Nat.le_of_ble_eq_true rfl)) dX14_readMark_127 (cl_f hck_0) g hK (by decide) (by decide) (fx' := [(14, 7, a0_, .int x_2), (14, 8, a0_, .int g52_14_8_a0_), (12, 26, q0_, .ref g52_12_26_q0_), (12, 22, q0_, .ref g52_12_22_q0_), (14, 2, a0_, .ref q0_), (14, 16, a0_, .int o_), (14, 25, a0_, .int op_), (14, 10, a0_, .int t_), (14, 17, a0_, .int me_)]) rfl (fun xr_607 fr_607 H locs mxr_607 kxr_607 hp hMr_607 g => ?_) (fun fr_607 H locs hp hMr_607 g => ?_)
            · have hG_608 := isV.frame hMr_607 go_.2.2.2.1 mq0_ kq0_ (by decide) (by decide) hG_604
              have hG_609 := FR.frame hMr_607 go_.2.2.2.1 mq0_ kq0_ (by decide) (by decide) hG_605
              have hG_610 := cEq.frame hMr_607 go_.2.2.2.1 ma0_ ka0_ (by decide) (by decide) hG_606
              exact hp.elim
            · have hG_611 := isV.frame hMr_607 go_.2.2.2.1 mq0_ kq0_ (by decide) (by decide) hG_604
              have hG_612 := FR.frame hMr_607 go_.2.2.2.1 mq0_ kq0_ (by decide) (by decide) hG_605
              have hG_613 := cEq.frame hMr_607 go_.2.2.2.1 ma0_ ka0_ (by decide) (by decide) hG_606
              have hl9 := lv_sub hl [0, 1, 2] (by rfl : lv_pick [(2, .int y_7), (1, .int x_2), (0, .ref a0_)] [0, 1, 2] = [(2, .int y_7), (1, .int x_2), (0, .ref a0_)])
              have g9 := g.sub (fx' := [(14, 7, a0_, .int x_2), (14, 8, a0_, .int g52_14_8_a0_), (12, 26, q0_, .ref g52_12_26_q0_), (12, 22, q0_, .ref g52_12_22_q0_), (14, 2, a0_, .ref q0_), (14, 16, a0_, .int o_), (14, 25, a0_, .int op_), (14, 10, a0_, .int t_), (14, 17, a0_, .int me_)]) [0, 1, 2, 3, 4, 5, 6, 7, 8] rfl
              exact join_9  _ _ _ _  g9 hG_611 hG_612 hG_613 hl9
          · have hG_614 := isV.frame hMr_601 go_.2.2.2.1 mq0_ kq0_ (by decide) (by decide) hG_588
            have hG_615 := FR.frame hMr_601 go_.2.2.2.1 mq0_ kq0_ (by decide) (by decide) hG_589
            have hG_616 := cEq.frame hMr_601 go_.2.2.2.1 ma0_ ka0_ (by decide) (by decide) hG_590
            obtain rfl : r_601 = 1 := h_603
            refine lv_if_ne (tgt := 121) hx hb dX14_readMark_114 (by decide) (fun c_ => ?_) (fun c_ => absurd c_ (by decide))
            refine lv_iconst (v := 0) hx hb dX14_readMark_121 (by decide) ?_
            refine lv_iconst (v := 5) hx hb dX14_readMark_122 (by decide) ?_
            refine lv_aload_n hx hb dX14_readMark_123 rfl (lv_at hl 2 rfl) ?_
            refine g_getk (C := RX14) (T := TX14) (N := 67) hx hb hts (mc_ inX14) hown hK g rfl 8 (by decide) rfl (hts _ (List.mem_cons_of_mem _ t_2154)) (fun _ h9 => h9) 1 rfl dX14_readMark_124 ?_
            have go_ := g
            refine g_callEv (As := [.int 0, .int 5, .int g52_14_8_a0_]) (rest := []) ⟨hx, hb, hml, hown, hts⟩ (r_X14_need_2 l dC dI L kd tys fr_601 H.size g.2.2.2.1 a0_ ma0_ ka0_ 0 kb_0 5 g52_14_8_a0_) (cwV 3 hts (gV_ t_2403 t_2405 t_100 t_198 t_2406) rfl rfl rfl (by decide +kernel) ⟨(Nat.le_of_ble_eq_true rfl), (Nat.le_of_ble_eq_true rfl)⟩) (pre3V g hK ma0_ ka0_ (by decide) (q := (RX14, TX14, 67)) rfl) rfl hl.1 rfl (lv_room (Nat.le_of_ble_eq_true rfl)) dX14_readMark_127 (cl_f hck_0) g hK (by decide) (by decide) (fx' := [(14, 7, a0_, .int x_2), (14, 8, a0_, .int g52_14_8_a0_), (12, 26, q0_, .ref g52_12_26_q0_), (12, 22, q0_, .ref g52_12_22_q0_), (14, 2, a0_, .ref q0_), (14, 16, a0_, .int o_), (14, 25, a0_, .int op_), (14, 10, a0_, .int t_), (14, 17, a0_, .int me_)]) rfl (fun xr_617 fr_617 H locs mxr_617 kxr_617 hp hMr_617 g => ?_) (fun fr_617 H locs hp hMr_617 g => ?_)
            · have hG_618 := isV.frame hMr_617 go_.2.2.2.1 mq0_ kq0_ (by decide) (by decide) hG_614
              have hG_619 := FR.frame hMr_617 go_.2.2.2.1 mq0_ kq0_ (by decide) (by decide) hG_615
              have hG_620 := cEq.frame hMr_617 go_.2.2.2.1 ma0_ ka0_ (by decide) (by decide) hG_616
              subst hQ
              exact leavesX hempty hlocks (fun t ht hW => g_thrZ g hK mxr_617 kxr_617 ⟨hG_619, (by omega)⟩ ht hW) g.2.2.1.2.2
            · exact hp.elim
    · have fc_579 := neq_f c_579
      refine lv_iload_n hx hb dX14_readMark_84 rfl (lv_at hl 1 rfl) ?_
      refine lv_bipush (v := 10) hx hb dX14_readMark_85 (by decide) ?_
      have kb_10 : bd 10 10 (10 : Int32) := ⟨by decide, by decide⟩
      refine lv_icmp_ne (tgt := 130) hx hb dX14_readMark_87 (by decide) (fun c_621 => ?_) (fun c_621 => ?_)
      · have fc_621 := neq_f c_621
        have hl9 := lv_sub hl [0, 1, 2] (by rfl : lv_pick [(2, .int y_7), (1, .int x_2), (0, .ref a0_)] [0, 1, 2] = [(2, .int y_7), (1, .int x_2), (0, .ref a0_)])
        have g9 := g.sub (fx' := [(14, 7, a0_, .int x_2), (14, 8, a0_, .int g52_14_8_a0_), (12, 26, q0_, .ref g52_12_26_q0_), (12, 22, q0_, .ref g52_12_22_q0_), (14, 2, a0_, .ref q0_), (14, 16, a0_, .int o_), (14, 25, a0_, .int op_), (14, 10, a0_, .int t_), (14, 17, a0_, .int me_)]) [0, 1, 2, 3, 4, 5, 6, 7, 8] rfl
        exact join_9  _ _ _ _  g9 hJ52_V_q0_ hJ52_F_q0_ hJ52_C_a0_ hl9
      · have fc_621 := eq_f c_621
        have b_622 : bd 10 10 x_2 := eqX fc_621 (bdT x_2) kb_10 (by decide)
        refine lv_aload_n hx hb dX14_readMark_90 rfl (lv_at hl 2 rfl) ?_
        have go_ := g
        refine g_callEv (As := []) (rest := []) ⟨hx, hb, hml, hown, hts⟩ (r_X14_room l dC dI L kd tys f H.size g.2.2.2.1 a0_ ma0_ ka0_) (cwV 0 hts (gV_ t_2415 t_2417 t_103 t_198 t_2418) rfl rfl rfl (by decide +kernel) ⟨(Nat.le_of_ble_eq_true rfl), (Nat.le_of_ble_eq_true rfl)⟩) (pre3V g hK ma0_ ka0_ (by decide) (q := (RX14, TX14, 67)) rfl) rfl hl.1 rfl (lv_room (Nat.le_of_ble_eq_true rfl)) dX14_readMark_91 (cl_f hck_0) g hK (by decide) (by decide) (fx' := [(14, 7, a0_, .int x_2), (14, 8, a0_, .int g52_14_8_a0_), (12, 26, q0_, .ref g52_12_26_q0_), (12, 22, q0_, .ref g52_12_22_q0_), (14, 2, a0_, .ref q0_), (14, 16, a0_, .int o_), (14, 25, a0_, .int op_), (14, 10, a0_, .int t_), (14, 17, a0_, .int me_)]) rfl (fun xr_623 fr_623 H locs mxr_623 kxr_623 hp hMr_623 g => ?_) (fun fr_623 H locs hp hMr_623 g => ?_)
        · have hG_624 := isV.frame hMr_623 go_.2.2.2.1 mq0_ kq0_ (by decide) (by decide) hJ52_V_q0_
          have hG_625 := FR.frame hMr_623 go_.2.2.2.1 mq0_ kq0_ (by decide) (by decide) hJ52_F_q0_
          have hG_626 := cEq.frame hMr_623 go_.2.2.2.1 ma0_ ka0_ (by decide) (by decide) hJ52_C_a0_
          subst hQ
          exact leavesX hempty hlocks (fun t ht hW => g_thrZ g hK mxr_623 kxr_623 ⟨hG_625, (by omega)⟩ ht hW) g.2.2.1.2.2
        · obtain ⟨x_627, h_628, hF_629⟩ := hp
          have hG_630 := isV.frame hMr_623 go_.2.2.2.1 mq0_ kq0_ (by decide) (by decide) hJ52_V_q0_
          have hG_631 := FR.frame hMr_623 go_.2.2.2.1 mq0_ kq0_ (by decide) (by decide) hJ52_F_q0_
          have hG_632 := cEq.frame hMr_623 go_.2.2.2.1 ma0_ ka0_ (by decide) (by decide) hJ52_C_a0_
          have g := g.more hF_629
          have e_633 := fx_same g 8 0 rfl rfl
          have b_634 : bd 0 1200 t_ := eqX (eq_f e_633.symm) bt_ h_628 (by decide)
          have g := g.sub (fx' := [(14, 7, a0_, .int x_2), (14, 8, a0_, .int g52_14_8_a0_), (12, 26, q0_, .ref g52_12_26_q0_), (12, 22, q0_, .ref g52_12_22_q0_), (14, 2, a0_, .ref q0_), (14, 16, a0_, .int o_), (14, 25, a0_, .int op_), (14, 10, a0_, .int t_), (14, 17, a0_, .int me_)]) [1, 2, 3, 4, 5, 6, 7, 8, 9] rfl
          refine lv_aload_n hx hb dX14_readMark_94 rfl (lv_at hl 2 rfl) ?_
          refine lv_aload_n hx hb dX14_readMark_95 rfl (lv_at hl 2 rfl) ?_
          refine g_getk (C := RX14) (T := TX14) (N := 67) hx hb hts (mc_ inX14) hown hK g rfl 2 (by decide) rfl (hts _ (List.mem_cons_of_mem _ t_2148)) (fun _ h9 => h9) 4 rfl dX14_readMark_96 ?_
          refine g_getk (C := RX12) (T := TX12) (N := 60) hx hb hts (mc_ inX12) hown hK g rfl 26 (by decide) rfl (hts _ (List.mem_cons_of_mem _ t_1958)) (fun _ h9 => h9) 2 rfl dX14_readMark_99 ?_
          refine lv_aload_n hx hb dX14_readMark_102 rfl (lv_at hl 2 rfl) ?_
          refine g_getk (C := RX14) (T := TX14) (N := 67) hx hb hts (mc_ inX14) hown hK g rfl 17 (by decide) rfl (hts _ (List.mem_cons_of_mem _ t_2163)) (fun _ h9 => h9) 8 rfl dX14_readMark_103 ?_
          refine g_zald hx hb hK g mg52_12_26_q0_ kg52_12_26_q0_ (by decide) rfl (in_bd bme_ (by decide)) dX14_readMark_106 (fun x_635 bx_635 => ?_)
          have kb_0 : bd 0 0 (0 : Int32) := ⟨by decide, by decide⟩
          refine lv_if_ne (tgt := 121) hx hb dX14_readMark_107 (by decide) (fun c_636 => ?_) (fun c_636 => ?_)
          · have fc_636 := neq_f c_636
            have b_637 : bd 1 1 x_635 := neX fc_636 bx_635 kb_0 (by decide)
            refine lv_iconst (v := 0) hx hb dX14_readMark_121 (by decide) ?_
            refine lv_iconst (v := 5) hx hb dX14_readMark_122 (by decide) ?_
            refine lv_aload_n hx hb dX14_readMark_123 rfl (lv_at hl 2 rfl) ?_
            refine g_getk (C := RX14) (T := TX14) (N := 67) hx hb hts (mc_ inX14) hown hK g rfl 8 (by decide) rfl (hts _ (List.mem_cons_of_mem _ t_2154)) (fun _ h9 => h9) 1 rfl dX14_readMark_124 ?_
            have go_ := g
            refine g_callEv (As := [.int 0, .int 5, .int g52_14_8_a0_]) (rest := []) ⟨hx, hb, hml, hown, hts⟩ (r_X14_need_2 l dC dI L kd tys fr_623 H.size g.2.2.2.1 a0_ ma0_ ka0_ 0 kb_0 5 g52_14_8_a0_) (cwV 3 hts (gV_ t_2403 t_2405 t_100 t_198 t_2406) rfl rfl rfl (by decide +kernel) ⟨(Nat.le_of_ble_eq_true rfl), (Nat.le_of_ble_eq_true rfl)⟩) (pre3V g hK ma0_ ka0_ (by decide) (q := (RX14, TX14, 67)) rfl) rfl hl.1 rfl (lv_room (Nat.le_of_ble_eq_true rfl)) dX14_readMark_127 (cl_f hck_0) g hK (by decide) (by decide) (fx' := [(14, 7, a0_, .int x_2), (14, 8, a0_, .int g52_14_8_a0_), (12, 26, q0_, .ref g52_12_26_q0_), (12, 22, q0_, .ref g52_12_22_q0_), (14, 2, a0_, .ref q0_), (14, 16, a0_, .int o_), (14, 25, a0_, .int op_), (14, 10, a0_, .int t_), (14, 17, a0_, .int me_)]) rfl (fun xr_638 fr_638 H locs mxr_638 kxr_638 hp hMr_638 g => ?_) (fun fr_638 H locs hp hMr_638 g => ?_)
            · have hG_639 := isV.frame hMr_638 go_.2.2.2.1 mq0_ kq0_ (by decide) (by decide) hG_630
              have hG_640 := FR.frame hMr_638 go_.2.2.2.1 mq0_ kq0_ (by decide) (by decide) hG_631
              have hG_641 := cEq.frame hMr_638 go_.2.2.2.1 ma0_ ka0_ (by decide) (by decide) hG_632
              subst hQ
              exact leavesX hempty hlocks (fun t ht hW => g_thrZ g hK mxr_638 kxr_638 ⟨hG_640, (by omega)⟩ ht hW) g.2.2.1.2.2
            · exact hp.elim
          · have fc_636 := eq_f c_636
            have b_642 : bd 0 0 x_635 := eqX fc_636 bx_635 kb_0 (by decide)
            refine lv_aload_n hx hb dX14_readMark_110 rfl (lv_at hl 2 rfl) ?_
            have go_ := g
            refine g_calli (va_runV (As := []) (rest := [.ref a0_]) ⟨hx, hb, hml, hown, hts⟩ (r_X14_hasOnly l dC dI L kd tys fr_623 H.size g.2.2.2.1 a0_ ma0_ ka0_) (cwV 0 hts (gV_ t_2538 t_2540 t_130 t_198 t_2541) rfl rfl rfl (by decide +kernel) ⟨(Nat.le_of_ble_eq_true rfl), (Nat.le_of_ble_eq_true rfl)⟩) (pre3V g hK ma0_ ka0_ (by decide) (q := (RX14, TX14, 67)) rfl) rfl rfl hl.1 rfl (lv_room (Nat.le_of_ble_eq_true rfl)) dX14_readMark_111 (cl_f hck_0)) g hK (by decide) (by decide) (fx' := [(14, 7, a0_, .int x_2), (14, 8, a0_, .int g52_14_8_a0_), (12, 26, q0_, .ref g52_12_26_q0_), (12, 22, q0_, .ref g52_12_22_q0_), (14, 2, a0_, .ref q0_), (14, 16, a0_, .int o_), (14, 25, a0_, .int op_), (14, 10, a0_, .int t_), (14, 17, a0_, .int me_)]) rfl (fun r_643 fr_643 H locs hp hMr_643 g => ?_)
            rcases hp with ⟨h_644, -⟩ | ⟨h_645, -⟩
            · have hG_646 := isV.frame hMr_643 go_.2.2.2.1 mq0_ kq0_ (by decide) (by decide) hG_630
              have hG_647 := FR.frame hMr_643 go_.2.2.2.1 mq0_ kq0_ (by decide) (by decide) hG_631
              have hG_648 := cEq.frame hMr_643 go_.2.2.2.1 ma0_ ka0_ (by decide) (by decide) hG_632
              obtain rfl : r_643 = 0 := h_644
              refine lv_if_ne (tgt := 121) hx hb dX14_readMark_114 (by decide) (fun c_ => absurd c_ (by decide)) (fun c_ => ?_)
              refine lv_iconst (v := 1) hx hb dX14_readMark_117 (by decide) ?_
              refine lv_goto (tgt := 122) hx hb dX14_readMark_118 (by decide) ?_
              refine lv_iconst (v := 5) hx hb dX14_readMark_122 (by decide) ?_
              refine lv_aload_n hx hb dX14_readMark_123 rfl (lv_at hl 2 rfl) ?_
              refine g_getk (C := RX14) (T := TX14) (N := 67) hx hb hts (mc_ inX14) hown hK g rfl 8 (by decide) rfl (hts _ (List.mem_cons_of_mem _ t_2154)) (fun _ h9 => h9) 1 rfl dX14_readMark_124 ?_
              have kb_1 : bd 1 1 (1 : Int32) := ⟨by decide, by decide⟩
              have go_ := g
              refine g_callEv (As := [.int 1, .int 5, .int g52_14_8_a0_]) (rest := []) ⟨hx, hb, hml, hown, hts⟩ (r_X14_need_3 l dC dI L kd tys fr_643 H.size g.2.2.2.1 a0_ ma0_ ka0_ 1 kb_1 5 g52_14_8_a0_) (cwV 3 hts (gV_ t_2403 t_2405 t_100 t_198 t_2406) rfl rfl rfl (by decide +kernel) ⟨(Nat.le_of_ble_eq_true rfl), (Nat.le_of_ble_eq_true rfl)⟩) (pre3V g hK ma0_ ka0_ (by decide) (q := (RX14, TX14, 67)) rfl) rfl hl.1 rfl (lv_room (Nat.le_of_ble_eq_true rfl)) dX14_readMark_127 (cl_f hck_0) g hK (by decide) (by decide) (fx' := [(14, 7, a0_, .int x_2), (14, 8, a0_, .int g52_14_8_a0_), (12, 26, q0_, .ref g52_12_26_q0_), (12, 22, q0_, .ref g52_12_22_q0_), (14, 2, a0_, .ref q0_), (14, 16, a0_, .int o_), (14, 25, a0_, .int op_), (14, 10, a0_, .int t_), (14, 17, a0_, .int me_)]) rfl (fun xr_649 fr_649 H locs mxr_649 kxr_649 hp hMr_649 g => ?_) (fun fr_649 H locs hp hMr_649 g => ?_)
              · have hG_650 := isV.frame hMr_649 go_.2.2.2.1 mq0_ kq0_ (by decide) (by decide) hG_646
                have hG_651 := FR.frame hMr_649 go_.2.2.2.1 mq0_ kq0_ (by decide) (by decide) hG_647
                have hG_652 := cEq.frame hMr_649 go_.2.2.2.1 ma0_ ka0_ (by decide) (by decide) hG_648
                exact hp.elim
              · have hG_653 := isV.frame hMr_649 go_.2.2.2.1 mq0_ kq0_ (by decide) (by decide) hG_646
                have hG_654 := FR.frame hMr_649 go_.2.2.2.1 mq0_ kq0_ (by decide) (by decide) hG_647
                have hG_655 := cEq.frame hMr_649 go_.2.2.2.1 ma0_ ka0_ (by decide) (by decide) hG_648
                have hl9 := lv_sub hl [0, 1, 2] (by rfl : lv_pick [(2, .int y_7), (1, .int x_2), (0, .ref a0_)] [0, 1, 2] = [(2, .int y_7), (1, .int x_2), (0, .ref a0_)])
                have g9 := g.sub (fx' := [(14, 7, a0_, .int x_2), (14, 8, a0_, .int g52_14_8_a0_), (12, 26, q0_, .ref g52_12_26_q0_), (12, 22, q0_, .ref g52_12_22_q0_), (14, 2, a0_, .ref q0_), (14, 16, a0_, .int o_), (14, 25, a0_, .int op_), (14, 10, a0_, .int t_), (14, 17, a0_, .int me_)]) [0, 1, 2, 3, 4, 5, 6, 7, 8] rfl
                exact join_9  _ _ _ _  g9 hG_653 hG_654 hG_655 hl9
            · have hG_656 := isV.frame hMr_643 go_.2.2.2.1 mq0_ kq0_ (by decide) (by decide) hG_630
              have hG_657 := FR.frame hMr_643 go_.2.2.2.1 mq0_ kq0_ (by decide) (by decide) hG_631
              have hG_658 := cEq.frame hMr_643 go_.2.2.2.1 ma0_ ka0_ (by decide) (by decide) hG_632
              obtain rfl : r_643 = 1 := h_645
              refine lv_if_ne (tgt := 121) hx hb dX14_readMark_114 (by decide) (fun c_ => ?_) (fun c_ => absurd c_ (by decide))
              refine lv_iconst (v := 0) hx hb dX14_readMark_121 (by decide) ?_
              refine lv_iconst (v := 5) hx hb dX14_readMark_122 (by decide) ?_
              refine lv_aload_n hx hb dX14_readMark_123 rfl (lv_at hl 2 rfl) ?_
              refine g_getk (C := RX14) (T := TX14) (N := 67) hx hb hts (mc_ inX14) hown hK g rfl 8 (by decide) rfl (hts _ (List.mem_cons_of_mem _ t_2154)) (fun _ h9 => h9) 1 rfl dX14_readMark_124 ?_
              have go_ := g
              refine g_callEv (As := [.int 0, .int 5, .int g52_14_8_a0_]) (rest := []) ⟨hx, hb, hml, hown, hts⟩ (r_X14_need_2 l dC dI L kd tys fr_643 H.size g.2.2.2.1 a0_ ma0_ ka0_ 0 kb_0 5 g52_14_8_a0_) (cwV 3 hts (gV_ t_2403 t_2405 t_100 t_198 t_2406) rfl rfl rfl (by decide +kernel) ⟨(Nat.le_of_ble_eq_true rfl), (Nat.le_of_ble_eq_true rfl)⟩) (pre3V g hK ma0_ ka0_ (by decide) (q := (RX14, TX14, 67)) rfl) rfl hl.1 rfl (lv_room (Nat.le_of_ble_eq_true rfl)) dX14_readMark_127 (cl_f hck_0) g hK (by decide) (by decide) (fx' := [(14, 7, a0_, .int x_2), (14, 8, a0_, .int g52_14_8_a0_), (12, 26, q0_, .ref g52_12_26_q0_), (12, 22, q0_, .ref g52_12_22_q0_), (14, 2, a0_, .ref q0_), (14, 16, a0_, .int o_), (14, 25, a0_, .int op_), (14, 10, a0_, .int t_), (14, 17, a0_, .int me_)]) rfl (fun xr_659 fr_659 H locs mxr_659 kxr_659 hp hMr_659 g => ?_) (fun fr_659 H locs hp hMr_659 g => ?_)
              · have hG_660 := isV.frame hMr_659 go_.2.2.2.1 mq0_ kq0_ (by decide) (by decide) hG_656
                have hG_661 := FR.frame hMr_659 go_.2.2.2.1 mq0_ kq0_ (by decide) (by decide) hG_657
                have hG_662 := cEq.frame hMr_659 go_.2.2.2.1 ma0_ ka0_ (by decide) (by decide) hG_658
                subst hQ
                exact leavesX hempty hlocks (fun t ht hW => g_thrZ g hK mxr_659 kxr_659 ⟨hG_661, (by omega)⟩ ht hW) g.2.2.1.2.2
              · exact hp.elim
  refine lv_aload_n hx hb dX14_readMark_0 rfl (lv_at hl 0 rfl) ?_
  refine lv_aload_n hx hb dX14_readMark_1 rfl (lv_at hl 0 rfl) ?_
  refine g_getk (C := RX14) (T := TX14) (N := 67) hx hb hts (mc_ inX14) hown hK g rfl 2 (by decide) rfl (hts _ (List.mem_cons_of_mem _ t_2148)) (fun _ h9 => h9) 0 rfl dX14_readMark_2 ?_
  refine g_getr (K := 178) (C := RX12) (T := TX12) (N := 60) hx hb hts (mc_ inX12) hown hK g mq0_ kq0_ (by decide) rfl 22 (by decide) rfl (hts _ (List.mem_cons_of_mem _ t_1950)) (fun _ h9 => h9) rfl dX14_readMark_5 (fun a_663 ma_663 ka_663 g => ?_)
  refine lv_aload_n hx hb dX14_readMark_8 rfl (lv_at hl 0 rfl) ?_
  refine g_getk (C := RX14) (T := TX14) (N := 67) hx hb hts (mc_ inX14) hown hK g rfl 17 (by decide) rfl (hts _ (List.mem_cons_of_mem _ t_2163)) (fun _ h9 => h9) 5 rfl dX14_readMark_9 ?_
  refine g_iald hx hb hK g ma_663 ka_663 (by decide) rfl (in_bd bme_ (by decide)) dX14_readMark_12 (fun x_664 bx_664 cx_664 => ?_)
  have vx_664 : x_664 = V_.i 22 me_.toNatClampNeg := hV.at g 0 rfl rfl cx_664
  refine lv_aload_n hx hb dX14_readMark_13 rfl (lv_at hl 0 rfl) ?_
  refine g_getk (C := RX14) (T := TX14) (N := 67) hx hb hts (mc_ inX14) hown hK g rfl 2 (by decide) rfl (hts _ (List.mem_cons_of_mem _ t_2148)) (fun _ h9 => h9) 1 rfl dX14_readMark_14 ?_
  refine g_getr (K := 182) (C := RX12) (T := TX12) (N := 60) hx hb hts (mc_ inX12) hown hK g mq0_ kq0_ (by decide) rfl 26 (by decide) rfl (hts _ (List.mem_cons_of_mem _ t_1958)) (fun _ h9 => h9) rfl dX14_readMark_17 (fun a_665 ma_665 ka_665 g => ?_)
  refine lv_aload_n hx hb dX14_readMark_20 rfl (lv_at hl 0 rfl) ?_
  refine g_getk (C := RX14) (T := TX14) (N := 67) hx hb hts (mc_ inX14) hown hK g rfl 17 (by decide) rfl (hts _ (List.mem_cons_of_mem _ t_2163)) (fun _ h9 => h9) 6 rfl dX14_readMark_21 ?_
  refine g_zald hx hb hK g ma_665 ka_665 (by decide) rfl (in_bd bme_ (by decide)) dX14_readMark_24 (fun x_666 bx_666 => ?_)
  have kb_0 : bd 0 0 (0 : Int32) := ⟨by decide, by decide⟩
  refine lv_if_eq (tgt := 32) hx hb dX14_readMark_25 (by decide) (fun c_667 => ?_) (fun c_667 => ?_)
  · have fc_667 := eq_f c_667
    have b_668 : bd 0 0 x_666 := eqX fc_667 bx_666 kb_0 (by decide)
    refine lv_iconst (v := 0) hx hb dX14_readMark_32 (by decide) ?_
    refine lv_iadd hx hb dX14_readMark_33 ?_
    refine lv_topi (fun y_669 ey_669 => ?_)
    have ty_669 := add_bd ey_669 bx_664 kb_0 (by decide)
    have b_670 : bd 0 8 y_669 := add_rg ty_669 bx_664 kb_0 (by decide)
    refine lv_bipush (v := 8) hx hb dX14_readMark_34 (by decide) ?_
    have kb_8 : bd 8 8 (8 : Int32) := ⟨by decide, by decide⟩
    refine lv_icmp_ge (tgt := 43) hx hb dX14_readMark_36 (by decide) (fun c_671 => ?_) (fun c_671 => ?_)
    · have fc_671 := le_f c_671
      have b_672 : bd 8 8 y_669 := leR fc_671 kb_8 b_670 (by decide)
      have b_673 : bd 8 8 x_664 := add_inv ty_669 b_672 bx_664 kb_0 (by decide)
      refine lv_iconst (v := 0) hx hb dX14_readMark_43 (by decide) ?_
      refine lv_iconst (v := 4) hx hb dX14_readMark_44 (by decide) ?_
      refine lv_aload_n hx hb dX14_readMark_45 rfl (lv_at hl 0 rfl) ?_
      refine g_geti (C := RX14) (T := TX14) (N := 67) hx hb hts (mc_ inX14) hown hK g ma0_ ka0_ (by decide) rfl 8 (by decide) rfl (hts _ (List.mem_cons_of_mem _ t_2154)) (fun _ h9 => h9) rfl dX14_readMark_46 (fun x_674 bx_674 g => ?_)
      have go_ := g
      refine g_callEv (As := [.int 0, .int 4, .int x_674]) (rest := []) ⟨hx, hb, hml, hown, hts⟩ (r_X14_need_2 l dC dI L kd tys f0 s.heap.size g.2.2.2.1 a0_ ma0_ ka0_ 0 kb_0 4 x_674) (cwV 3 hts (gV_ t_2403 t_2405 t_100 t_198 t_2406) rfl rfl rfl (by decide +kernel) ⟨(Nat.le_of_ble_eq_true rfl), (Nat.le_of_ble_eq_true rfl)⟩) (pre3V g hK ma0_ ka0_ (by decide) (q := (RX14, TX14, 67)) rfl) rfl hl.1 rfl (lv_room (Nat.le_of_ble_eq_true rfl)) dX14_readMark_49 (cl_f hck_0) g hK (by decide) (by decide) (fx' := [(14, 8, a0_, .int x_674), (12, 26, q0_, .ref a_665), (12, 22, q0_, .ref a_663), (14, 2, a0_, .ref q0_), (14, 16, a0_, .int o_), (14, 25, a0_, .int op_), (14, 10, a0_, .int t_), (14, 17, a0_, .int me_)]) rfl (fun xr_675 fr_675 H locs mxr_675 kxr_675 hp hMr_675 g => ?_) (fun fr_675 H locs hp hMr_675 g => ?_)
      · have hG_676 := isV.frame hMr_675 go_.2.2.2.1 mq0_ kq0_ (by decide) (by decide) hV
        have hG_677 := FR.frame hMr_675 go_.2.2.2.1 mq0_ kq0_ (by decide) (by decide) FR.refl
        have hG_678 := cEq.frame hMr_675 go_.2.2.2.1 ma0_ ka0_ (by decide) (by decide) hC_0
        subst hQ
        exact leavesX hempty hlocks (fun t ht hW => g_thrZ g hK mxr_675 kxr_675 ⟨hG_677, (by omega)⟩ ht hW) g.2.2.1.2.2
      · exact hp.elim
    · have fc_671 := nle_f c_671
      have b_679 : bd 0 7 y_669 := ltL fc_671 b_670 kb_8 (by decide)
      have b_680 : bd 0 7 x_664 := add_inv ty_669 b_679 bx_664 kb_0 (by decide)
      refine lv_iconst (v := 1) hx hb dX14_readMark_39 (by decide) ?_
      refine lv_goto (tgt := 44) hx hb dX14_readMark_40 (by decide) ?_
      refine lv_iconst (v := 4) hx hb dX14_readMark_44 (by decide) ?_
      refine lv_aload_n hx hb dX14_readMark_45 rfl (lv_at hl 0 rfl) ?_
      refine g_geti (C := RX14) (T := TX14) (N := 67) hx hb hts (mc_ inX14) hown hK g ma0_ ka0_ (by decide) rfl 8 (by decide) rfl (hts _ (List.mem_cons_of_mem _ t_2154)) (fun _ h9 => h9) rfl dX14_readMark_46 (fun x_681 bx_681 g => ?_)
      have kb_1 : bd 1 1 (1 : Int32) := ⟨by decide, by decide⟩
      have go_ := g
      refine g_callEv (As := [.int 1, .int 4, .int x_681]) (rest := []) ⟨hx, hb, hml, hown, hts⟩ (r_X14_need_3 l dC dI L kd tys f0 s.heap.size g.2.2.2.1 a0_ ma0_ ka0_ 1 kb_1 4 x_681) (cwV 3 hts (gV_ t_2403 t_2405 t_100 t_198 t_2406) rfl rfl rfl (by decide +kernel) ⟨(Nat.le_of_ble_eq_true rfl), (Nat.le_of_ble_eq_true rfl)⟩) (pre3V g hK ma0_ ka0_ (by decide) (q := (RX14, TX14, 67)) rfl) rfl hl.1 rfl (lv_room (Nat.le_of_ble_eq_true rfl)) dX14_readMark_49 (cl_f hck_0) g hK (by decide) (by decide) (fx' := [(14, 8, a0_, .int x_681), (12, 26, q0_, .ref a_665), (12, 22, q0_, .ref a_663), (14, 2, a0_, .ref q0_), (14, 16, a0_, .int o_), (14, 25, a0_, .int op_), (14, 10, a0_, .int t_), (14, 17, a0_, .int me_)]) rfl (fun xr_682 fr_682 H locs mxr_682 kxr_682 hp hMr_682 g => ?_) (fun fr_682 H locs hp hMr_682 g => ?_)
      · have hG_683 := isV.frame hMr_682 go_.2.2.2.1 mq0_ kq0_ (by decide) (by decide) hV
        have hG_684 := FR.frame hMr_682 go_.2.2.2.1 mq0_ kq0_ (by decide) (by decide) FR.refl
        have hG_685 := cEq.frame hMr_682 go_.2.2.2.1 ma0_ ka0_ (by decide) (by decide) hC_0
        exact hp.elim
      · have hG_686 := isV.frame hMr_682 go_.2.2.2.1 mq0_ kq0_ (by decide) (by decide) hV
        have hG_687 := FR.frame hMr_682 go_.2.2.2.1 mq0_ kq0_ (by decide) (by decide) FR.refl
        have hG_688 := cEq.frame hMr_682 go_.2.2.2.1 ma0_ ka0_ (by decide) (by decide) hC_0
        have hl9 := lv_sub hl [0] (by rfl : lv_pick [(0, .ref a0_)] [0] = [(0, .ref a0_)])
        have g9 := g.sub (fx' := [(14, 8, a0_, .int x_681), (12, 26, q0_, .ref a_665), (12, 22, q0_, .ref a_663), (14, 2, a0_, .ref q0_), (14, 16, a0_, .int o_), (14, 25, a0_, .int op_), (14, 10, a0_, .int t_), (14, 17, a0_, .int me_)]) [0, 1, 2, 3, 4, 5, 6, 7] rfl
        exact join_1 x_681 a_665 a_663 _ _ _ _ bx_681 ma_665 ka_665 ma_663 ka_663 g9 hG_686 hG_687 hG_688 (by rw [← show x_664 = V_.i 22 me_.toNatClampNeg from vx_664]; have h9_0 := bme_; unfold bd at h9_0; have h9_1 := bo_; unfold bd at h9_1; have h9_2 := bop_; unfold bd at h9_2; have h9_3 := bt_; unfold bd at h9_3; have h9_4 := b_680; unfold bd at h9_4; have h9_5 := b_668; unfold bd at h9_5; have h9_6 := bx_681; unfold bd at h9_6; have h9_7 := b_679; unfold bd at h9_7; have h8_0 := kb_0; unfold bd at h8_0; have h8_1 := kb_1; unfold bd at h8_1; have h8_2 := kb_8; unfold bd at h8_2; omega) hl9
  · have fc_667 := neq_f c_667
    have b_689 : bd 1 1 x_666 := neX fc_667 bx_666 kb_0 (by decide)
    refine lv_iconst (v := 1) hx hb dX14_readMark_28 (by decide) ?_
    refine lv_goto (tgt := 33) hx hb dX14_readMark_29 (by decide) ?_
    have kb_1 : bd 1 1 (1 : Int32) := ⟨by decide, by decide⟩
    refine lv_iadd hx hb dX14_readMark_33 ?_
    refine lv_topi (fun y_690 ey_690 => ?_)
    have ty_690 := add_bd ey_690 bx_664 kb_1 (by decide)
    have b_691 : bd 1 9 y_690 := add_rg ty_690 bx_664 kb_1 (by decide)
    refine lv_bipush (v := 8) hx hb dX14_readMark_34 (by decide) ?_
    have kb_8 : bd 8 8 (8 : Int32) := ⟨by decide, by decide⟩
    refine lv_icmp_ge (tgt := 43) hx hb dX14_readMark_36 (by decide) (fun c_692 => ?_) (fun c_692 => ?_)
    · have fc_692 := le_f c_692
      have b_693 : bd 8 9 y_690 := leR fc_692 kb_8 b_691 (by decide)
      have b_694 : bd 7 8 x_664 := add_inv ty_690 b_693 bx_664 kb_1 (by decide)
      refine lv_iconst (v := 0) hx hb dX14_readMark_43 (by decide) ?_
      refine lv_iconst (v := 4) hx hb dX14_readMark_44 (by decide) ?_
      refine lv_aload_n hx hb dX14_readMark_45 rfl (lv_at hl 0 rfl) ?_
      refine g_geti (C := RX14) (T := TX14) (N := 67) hx hb hts (mc_ inX14) hown hK g ma0_ ka0_ (by decide) rfl 8 (by decide) rfl (hts _ (List.mem_cons_of_mem _ t_2154)) (fun _ h9 => h9) rfl dX14_readMark_46 (fun x_695 bx_695 g => ?_)
      have go_ := g
      refine g_callEv (As := [.int 0, .int 4, .int x_695]) (rest := []) ⟨hx, hb, hml, hown, hts⟩ (r_X14_need_2 l dC dI L kd tys f0 s.heap.size g.2.2.2.1 a0_ ma0_ ka0_ 0 kb_0 4 x_695) (cwV 3 hts (gV_ t_2403 t_2405 t_100 t_198 t_2406) rfl rfl rfl (by decide +kernel) ⟨(Nat.le_of_ble_eq_true rfl), (Nat.le_of_ble_eq_true rfl)⟩) (pre3V g hK ma0_ ka0_ (by decide) (q := (RX14, TX14, 67)) rfl) rfl hl.1 rfl (lv_room (Nat.le_of_ble_eq_true rfl)) dX14_readMark_49 (cl_f hck_0) g hK (by decide) (by decide) (fx' := [(14, 8, a0_, .int x_695), (12, 26, q0_, .ref a_665), (12, 22, q0_, .ref a_663), (14, 2, a0_, .ref q0_), (14, 16, a0_, .int o_), (14, 25, a0_, .int op_), (14, 10, a0_, .int t_), (14, 17, a0_, .int me_)]) rfl (fun xr_696 fr_696 H locs mxr_696 kxr_696 hp hMr_696 g => ?_) (fun fr_696 H locs hp hMr_696 g => ?_)
      · have hG_697 := isV.frame hMr_696 go_.2.2.2.1 mq0_ kq0_ (by decide) (by decide) hV
        have hG_698 := FR.frame hMr_696 go_.2.2.2.1 mq0_ kq0_ (by decide) (by decide) FR.refl
        have hG_699 := cEq.frame hMr_696 go_.2.2.2.1 ma0_ ka0_ (by decide) (by decide) hC_0
        subst hQ
        exact leavesX hempty hlocks (fun t ht hW => g_thrZ g hK mxr_696 kxr_696 ⟨hG_698, (by omega)⟩ ht hW) g.2.2.1.2.2
      · exact hp.elim
    · have fc_692 := nle_f c_692
      have b_700 : bd 1 7 y_690 := ltL fc_692 b_691 kb_8 (by decide)
      have b_701 : bd 0 6 x_664 := add_inv ty_690 b_700 bx_664 kb_1 (by decide)
      refine lv_iconst (v := 1) hx hb dX14_readMark_39 (by decide) ?_
      refine lv_goto (tgt := 44) hx hb dX14_readMark_40 (by decide) ?_
      refine lv_iconst (v := 4) hx hb dX14_readMark_44 (by decide) ?_
      refine lv_aload_n hx hb dX14_readMark_45 rfl (lv_at hl 0 rfl) ?_
      refine g_geti (C := RX14) (T := TX14) (N := 67) hx hb hts (mc_ inX14) hown hK g ma0_ ka0_ (by decide) rfl 8 (by decide) rfl (hts _ (List.mem_cons_of_mem _ t_2154)) (fun _ h9 => h9) rfl dX14_readMark_46 (fun x_702 bx_702 g => ?_)
      have go_ := g
      refine g_callEv (As := [.int 1, .int 4, .int x_702]) (rest := []) ⟨hx, hb, hml, hown, hts⟩ (r_X14_need_3 l dC dI L kd tys f0 s.heap.size g.2.2.2.1 a0_ ma0_ ka0_ 1 kb_1 4 x_702) (cwV 3 hts (gV_ t_2403 t_2405 t_100 t_198 t_2406) rfl rfl rfl (by decide +kernel) ⟨(Nat.le_of_ble_eq_true rfl), (Nat.le_of_ble_eq_true rfl)⟩) (pre3V g hK ma0_ ka0_ (by decide) (q := (RX14, TX14, 67)) rfl) rfl hl.1 rfl (lv_room (Nat.le_of_ble_eq_true rfl)) dX14_readMark_49 (cl_f hck_0) g hK (by decide) (by decide) (fx' := [(14, 8, a0_, .int x_702), (12, 26, q0_, .ref a_665), (12, 22, q0_, .ref a_663), (14, 2, a0_, .ref q0_), (14, 16, a0_, .int o_), (14, 25, a0_, .int op_), (14, 10, a0_, .int t_), (14, 17, a0_, .int me_)]) rfl (fun xr_703 fr_703 H locs mxr_703 kxr_703 hp hMr_703 g => ?_) (fun fr_703 H locs hp hMr_703 g => ?_)
      · have hG_704 := isV.frame hMr_703 go_.2.2.2.1 mq0_ kq0_ (by decide) (by decide) hV
        have hG_705 := FR.frame hMr_703 go_.2.2.2.1 mq0_ kq0_ (by decide) (by decide) FR.refl
        have hG_706 := cEq.frame hMr_703 go_.2.2.2.1 ma0_ ka0_ (by decide) (by decide) hC_0
        exact hp.elim
      · have hG_707 := isV.frame hMr_703 go_.2.2.2.1 mq0_ kq0_ (by decide) (by decide) hV
        have hG_708 := FR.frame hMr_703 go_.2.2.2.1 mq0_ kq0_ (by decide) (by decide) FR.refl
        have hG_709 := cEq.frame hMr_703 go_.2.2.2.1 ma0_ ka0_ (by decide) (by decide) hC_0
        have hl9 := lv_sub hl [0] (by rfl : lv_pick [(0, .ref a0_)] [0] = [(0, .ref a0_)])
        have g9 := g.sub (fx' := [(14, 8, a0_, .int x_702), (12, 26, q0_, .ref a_665), (12, 22, q0_, .ref a_663), (14, 2, a0_, .ref q0_), (14, 16, a0_, .int o_), (14, 25, a0_, .int op_), (14, 10, a0_, .int t_), (14, 17, a0_, .int me_)]) [0, 1, 2, 3, 4, 5, 6, 7] rfl
        exact join_1 x_702 a_665 a_663 _ _ _ _ bx_702 ma_665 ka_665 ma_663 ka_663 g9 hG_707 hG_708 hG_709 (by rw [← show x_664 = V_.i 22 me_.toNatClampNeg from vx_664]; have h9_0 := bme_; unfold bd at h9_0; have h9_1 := bo_; unfold bd at h9_1; have h9_2 := bop_; unfold bd at h9_2; have h9_3 := bt_; unfold bd at h9_3; have h9_4 := b_701; unfold bd at h9_4; have h9_5 := b_689; unfold bd at h9_5; have h9_6 := bx_702; unfold bd at h9_6; have h9_7 := b_700; unfold bd at h9_7; have h8_0 := kb_0; unfold bd at h8_0; have h8_1 := kb_1; unfold bd at h8_1; have h8_2 := kb_8; unfold bd at h8_2; omega) hl9
