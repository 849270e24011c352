set_option maxHeartbeats 4000000 in
set_option maxRecDepth 100000 in
theorem r_X14_readEx (l : Launch) (dC : Nat → ClassId) (dI : Nat → Nat → Nat) (L : List Nat) (kd : Nat → Nat) (tys : List (ClassId × FieldType)) (f0 : Nat → va_E) (sz : Nat) (hWT : WT L kd tys f0) (adK adV : Nat → Nat) (a0_ : Nat) (ma0_ : a0_ ∈ L) (ka0_ : kd a0_ = 14) (q0_ : Nat) (mq0_ : q0_ ∈ L) (kq0_ : kd q0_ = 12) (V_ : PV) (o_ : Int32) (bo_ : bd 0 7 o_) (op_ : Int32) (bop_ : bd 0 40 op_) (t_ : Int32) (bt_ : bd 0 1201 t_) (hV : isV f0 q0_ V_) (hwf : wfN V_ (V_.n 57).toInt) (ho : (o_.toNatClampNeg : Int) < (V_.n 0).toInt) (hnn : (V_.n 57).toInt ≤ cF f0 a0_) (K_ : Nat) (hK_ : 1204 ≤ 2 * (K_ : Int) + cF f0 a0_) (hfx : Fs L kd f0 [(14, 2, a0_, .ref q0_), (14, 16, a0_, .int o_), (14, 25, a0_, .int op_), (14, 10, a0_, .int t_)]) : MetX l yX14_readEx (.code yX14_readEx cX14_readEx 3 (some .int) :: lw_g) ({ frames := 486, cells := K_, slots := 3 * K_, locals := 28386 }) (va_Pc [.ref a0_] (P3A (dC, dI) L tys f0 sz adK adV)) (q3Z (dC, dI) L kd tys [(12, 57), (12, 58), (14, 6), (14, 7), (14, 8), (14, 9), (14, 10), (14, 11), (14, 12), (14, 13), (14, 14), (14, 15), (14, 25)] [180, 201, 202, 203, 204, 205, 206, 207, 208, 209, 210] f0 sz (pXi (fun (r : Int32) (f : Nat → va_E) (k : Nat) => (rdP L kd f0 a0_ q0_ V_ o_ (12) 0 r f k (fun _ => True)) ∧ ∃ z1_ : Int32, bd 0 1201 z1_ ∧ Fs L kd f [(14, 25, a0_, .int op_), (14, 10, a0_, .int z1_)])) (fun (f : Nat → va_E) (k : Nat) => FR L kd f0 f q0_ ∧ 2 * (k : Int) + cF f0 a0_ ≤ 1203)) (pA L sz) := by
  refine MetX.ofW (cc := cX14_readEx) (maxL := 3) (ret := (some .int)) (by decide) rfl ?_
  intro p e s m args below meth c s₁ B hml hempty hv
  obtain ⟨rfl, ⟨hsz, hP, hK, hD0⟩, hAm⟩ := hv
  have hx := B.exec
  have hb := B.bytes
  have hr := B.returns
  have hts := atoms_spec (ws := (.code yX14_readEx cX14_readEx 3 (some .int) :: lw_g)) B.pre
  have hown : s.vm.findClass RX14 = some m.cls := findClass_of_methodNamed B.named
  have hlocks := B.notSynchronized
  subst hsz
  have g : G3 (dC, dI) L kd tys s f0 [(12, 57), (12, 58), (14, 6), (14, 7), (14, 8), (14, 9), (14, 10), (14, 11), (14, 12), (14, 13), (14, 14), (14, 15), (14, 25)] [180, 201, 202, 203, 204, 205, 206, 207, 208, 209, 210] f0 s.heap [] [(14, 2, a0_, .ref q0_), (14, 16, a0_, .int o_), (14, 25, a0_, .int op_), (14, 10, a0_, .int t_)] := G3.start hP hD0 hWT hfx
  have hl := lv_entry ([.ref a0_]) (n := 3) (Nat.le_of_ble_eq_true rfl)
  rw [lg_entry_eq]
  generalize (lg_sl ([.ref a0_]) ++ List.replicate (3 - (lg_sl ([.ref a0_])).length) Slot.unset).toArray = ls at hl ⊢
  have hl : lv_has ls 3 [(0, .ref a0_)] := hl
  refine W_q (fun Q hQ => ?_)
  refine W_c0 (fun cl_0 hc_0 => ?_)
  have hck_0 : cl_0 ≤ K_ := by omega
  have hC_0 : cEq f0 a0_ (cF f0 a0_) := rfl
  have hm_0 : cF f0 a0_ ≤ 1202 := cF_le g ma0_ ka0_
  have hm_1 : -1 ≤ cF f0 a0_ := cF_ge g ma0_ ka0_
  refine lv_aload_n hx hb dX14_readEx_0 rfl (lv_at hl 0 rfl) ?_
  refine g_getk (C := RX14) (T := TX14) (N := 67) hx hb hts (mc_ inX14) hown hK g rfl 25 (by decide) rfl (hts _ (List.mem_cons_of_mem _ t_2171)) (fun _ h9 => h9) 2 rfl dX14_readEx_1 ?_
  refine lv_istore_n (lv' := [(1, .int op_), (0, .ref a0_)]) hx hb dX14_readEx_4 rfl hl (by decide) rfl (fun ls hl => ?_)
  refine lv_aload_n hx hb dX14_readEx_5 rfl (lv_at hl 1 rfl) ?_
  refine lv_iconst (v := 0) hx hb dX14_readEx_6 (by decide) ?_
  have kb_0 : bd 0 0 (0 : Int32) := ⟨by decide, by decide⟩
  have go_ := g
  refine g_put (C := RX14) (T := TX14) (N := 67) hx hb hts (mc_ inX14) tyX14 tyX14_ok nmX14 hown hK g ma0_ ka0_ (by decide) rfl 25 (by decide) (hts _ (List.mem_cons_of_mem _ t_2171)) (fun _ h9 => h9) rfl rfl (okV_i (bd_sub kb_0 (by decide))) rfl rfl (by decide) (Or.inr (Or.inl (by decide))) (fx' := [(14, 2, a0_, .ref q0_), (14, 16, a0_, .int o_), (14, 10, a0_, .int t_)]) rfl dX14_readEx_7 (fun f H locs hM_1 g => ?_)
  have hG_2 := isV.frame hM_1 go_.2.2.2.1 mq0_ kq0_ (by decide) (by decide) hV
  have hG_3 := FR.frame hM_1 go_.2.2.2.1 mq0_ kq0_ (by decide) (by decide) FR.refl
  have hG_4 := cEq.frame hM_1 go_.2.2.2.1 ma0_ ka0_ (by decide) (by decide) hC_0
  refine lv_aload_n hx hb dX14_readEx_10 rfl (lv_at hl 1 rfl) ?_
  refine lv_iconst (v := 1) hx hb dX14_readEx_11 (by decide) ?_
  have qc__5 : cF f a0_ = _ := hG_4
  have kb_1 : bd 1 1 (1 : Int32) := ⟨by decide, by decide⟩
  have go_ := g
  refine g_callZi (As := [.int 1]) (rest := []) ⟨hx, hb, hml, hown, hts⟩ ((recR 461).1 l dC dI L kd tys f H.size g.2.2.2.1 adK adV a0_ ma0_ ka0_ (1 : Int32) (bd_sub kb_1 (by decide)) q0_ mq0_ kq0_ V_ o_ bo_ (0 : Int32) (bd_sub kb_0 (by decide)) t_ bt_ hG_2 hwf ho (by omega) (K_ - cl_0) (by omega) (by have h9_0 := bo_; unfold bd at h9_0; have h9_1 := bop_; unfold bd at h9_1; have h9_2 := bt_; unfold bd at h9_2; have h8_0 := kb_0; unfold bd at h8_0; have h8_1 := kb_1; unfold bd at h8_1; omega) (g.fcts [1, 2, 0, 3] rfl)) (cwV 1 hts (gV_ t_2464 t_2466 t_113 t_198 t_2467) rfl rfl rfl (by decide +kernel) ⟨(Nat.le_of_ble_eq_true rfl), (Nat.le_of_ble_eq_true rfl)⟩) (pre3VA g hK hAm ma0_ ka0_ (by decide) (q := (RX14, TX14, 67)) rfl) rfl hl.1 rfl (lv_room (Nat.le_of_ble_eq_true rfl)) dX14_readEx_12 (cl_k (K := K_) (k := K_ - cl_0) (show cl_0 + (K_ - cl_0) ≤ K_ by omega)) g hK (by decide) (by decide) (fx' := [(14, 2, a0_, .ref q0_), (14, 16, a0_, .int o_)]) rfl (fun xr_6 fr_6 H locs kr_6 cr_6 ecr_6 mxr_6 kxr_6 hp hMr_6 g => ?_) (fun r_6 fr_6 H locs kr_6 cr_6 ecr_6 hp hMr_6 g => ?_)
  · have hF_7 := FR.call (mds := []) (mas := []) hG_3 go_ mq0_ kq0_ rfl hp.1
    have hpk := hp.2
    subst hQ
    exact leavesX hempty hlocks (fun t ht hW => g_thrZ g hK mxr_6 kxr_6 ⟨hF_7, (by omega)⟩ ht hW) g.2.2.1.2.2
  · obtain ⟨hx_8, x_9, h_10, hF_11⟩ := hp
    obtain ⟨V_12, E_13, hV_14, hF_15, hE_16, hX_17, hw_18, hv_19, hP_20, hn_21, hk_22, hc_23⟩ := rd_use hx_8 hG_4
    have hF_24 := FR.call (mds := []) (mas := []) hG_3 go_ mq0_ kq0_ rfl hF_15
    have mxE_13 : E_13 ≤ 1202 := by have h9 := cF_le g ma0_ ka0_; have h8 : cF _ _ = _ := hE_16; omega
    have hx_25 := exN.tr exN.rf hX_17
    have hck_26 : cr_6 ≤ K_ := by omega
    have b_27 : bd 0 2499 r_6 := ⟨hv_19.1, (by have h9 := hv_19.2.1; omega)⟩
    have g := g.more hF_11
    refine lv_istore_n (lv' := [(2, .int r_6), (1, .int op_), (0, .ref a0_)]) hx hb dX14_readEx_15 rfl hl (by decide) rfl (fun ls hl => ?_)
    refine lv_aload_n hx hb dX14_readEx_16 rfl (lv_at hl 2 rfl) ?_
    refine lv_iload_n hx hb dX14_readEx_17 rfl (lv_at hl 1 rfl) ?_
    have go_ := g
    refine g_put (C := RX14) (T := TX14) (N := 67) hx hb hts (mc_ inX14) tyX14 tyX14_ok nmX14 hown hK g ma0_ ka0_ (by decide) rfl 25 (by decide) (hts _ (List.mem_cons_of_mem _ t_2171)) (fun _ h9 => h9) rfl rfl (okV_i bop_) rfl rfl (by decide) (Or.inr (Or.inl (by decide))) (fx' := [(14, 10, a0_, .int x_9), (14, 2, a0_, .ref q0_), (14, 16, a0_, .int o_)]) rfl dX14_readEx_18 (fun f H locs hM_28 g => ?_)
    have hG_29 := isV.frame hM_28 go_.2.2.2.1 mq0_ kq0_ (by decide) (by decide) hV_14
    have hG_30 := FR.frame hM_28 go_.2.2.2.1 mq0_ kq0_ (by decide) (by decide) hF_24
    have hG_31 := cEq.frame hM_28 go_.2.2.2.1 ma0_ ka0_ (by decide) (by decide) hE_16
    refine lv_iload_n hx hb dX14_readEx_21 rfl (lv_at hl 0 rfl) ?_
    have h9c : cF f a0_ = _ := hG_31
    subst hQ
    exact iretX (v := r_6) hx hb hr (fun t ht hW => g_retZ g hK ⟨_, rfl, ⟨⟨_, hG_29, hG_30, hx_25, hw_18, hv_19, trivial, (by omega), (by omega), (by omega)⟩, x_9, h_10, (g.fcts [0, 1] rfl)⟩⟩ ht hW) g.2.2.1.2.2 dX14_readEx_22 hlocks
