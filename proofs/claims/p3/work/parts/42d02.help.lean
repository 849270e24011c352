set_option maxHeartbeats 4000000 in
set_option maxRecDepth 100000 in
theorem r_X14_next_2 (l : Launch) (dC : Nat → ClassId) (dI : Nat → Nat → Nat) (L : List Nat) (kd : Nat → Nat) (tys : List (ClassId × FieldType)) (f0 : Nat → va_E) (sz : Nat) (hWT : WT L kd tys f0) (adK adV : Nat → Nat) (a0_ : Nat) (ma0_ : a0_ ∈ L) (ka0_ : kd a0_ = 14) (t_ : Int32) (bt_ : bd 0 1201 t_) (hfx : Fs L kd f0 [(14, 10, a0_, .int t_)]) : MetE l yX14_next (.code yX14_next cX14_next 1 none :: lw_g) ({ frames := 6, cells := 0, slots := 0, locals := 135 }) (va_Pc [.ref a0_] (P3A (dC, dI) L tys f0 sz adK adV)) (q3E (dC, dI) L kd tys [(14, 6), (14, 7), (14, 8), (14, 9), (14, 10), (14, 11), (14, 12), (14, 13), (14, 14), (14, 15)] [] f0 sz (pRv (fun (f : Nat → va_E) => ((cF f a0_ = tk f0 a0_) ∧ bd 0 1200 t_ ∧ ∃ z0_ : Int32, bd 0 1201 z0_ ∧ Fs L kd f [(14, 10, a0_, .int z0_)]))) (fun (f : Nat → va_E) => True)) 0 0 (pA L sz) := by
  refine MetE.ofW (cc := cX14_next) (maxL := 1) (ret := none) (by decide) rfl ?_
  intro p e s m args below meth c s₁ B hml hempty hv
  obtain ⟨rfl, ⟨hsz, hP, hK, hD0⟩, hAm⟩ := hv
  have hx := B.exec
  have hb := B.bytes
  have hr := B.returns
  have hts := atoms_spec (ws := (.code yX14_next cX14_next 1 none :: lw_g)) B.pre
  have hown : s.vm.findClass RX14 = some m.cls := findClass_of_methodNamed B.named
  have hlocks := B.notSynchronized
  subst hsz
  have g : G3 (dC, dI) L kd tys s f0 [(14, 6), (14, 7), (14, 8), (14, 9), (14, 10), (14, 11), (14, 12), (14, 13), (14, 14), (14, 15)] [] f0 s.heap [] [(14, 10, a0_, .int t_)] := G3.start hP hD0 hWT hfx
  have hl := lv_entry ([.ref a0_]) (n := 1) (Nat.le_of_ble_eq_true rfl)
  rw [lg_entry_eq]
  generalize (lg_sl ([.ref a0_]) ++ List.replicate (1 - (lg_sl ([.ref a0_])).length) Slot.unset).toArray = ls at hl ⊢
  have hl : lv_has ls 1 [(0, .ref a0_)] := hl
  refine W_q (fun Q hQ => ?_)
  refine lv_aload_n hx hb dX14_next_0 rfl (lv_at hl 0 rfl) ?_
  have go_ := g
  refine g_callEv (As := []) (rest := []) ⟨hx, hb, hml, hown, hts⟩ (r_X14_room l dC dI L kd tys f0 s.heap.size g.2.2.2.1 a0_ ma0_ ka0_) (cwV 0 hts (gV_ t_2415 t_2417 t_103 t_198 t_2418) rfl rfl rfl (by decide +kernel) ⟨(Nat.le_of_ble_eq_true rfl), (Nat.le_of_ble_eq_true rfl)⟩) (pre3V g hK ma0_ ka0_ (by decide) (q := (RX14, TX14, 67)) rfl) rfl hl.1 rfl (lv_room (Nat.le_of_ble_eq_true rfl)) dX14_next_1 ⟨(Nat.le_of_ble_eq_true rfl), (Nat.le_of_ble_eq_true rfl)⟩ g hK (by decide) (by decide) (fx' := [(14, 10, a0_, .int t_)]) rfl (fun xr_1 fr_1 H locs mxr_1 kxr_1 hp hMr_1 g => ?_) (fun fr_1 H locs hp hMr_1 g => ?_)
  · have hG_2 := cEq.frame hMr_1 go_.2.2.2.1 ma0_ ka0_ (by decide) (by decide) (rfl : cEq f0 a0_ (cF f0 a0_))
    have hG_3 := tEq.frame hMr_1 go_.2.2.2.1 ma0_ ka0_ (by decide) (by decide) (rfl : tEq f0 a0_ (tk f0 a0_))
    subst hQ
    exact WX.leaves hempty hlocks (fun t ht hW => g_thrE g hK mxr_1 kxr_1 trivial ht hW) g.2.2.1.2.2
  · obtain ⟨x_4, h_5, hF_6⟩ := hp
    have hG_7 := cEq.frame hMr_1 go_.2.2.2.1 ma0_ ka0_ (by decide) (by decide) (rfl : cEq f0 a0_ (cF f0 a0_))
    have hG_8 := tEq.frame hMr_1 go_.2.2.2.1 ma0_ ka0_ (by decide) (by decide) (rfl : tEq f0 a0_ (tk f0 a0_))
    have g := g.more hF_6
    have e_9 := fx_same g 1 0 rfl rfl
    have b_10 : bd 0 1200 t_ := eqX (eq_f e_9.symm) bt_ h_5 (by decide)
    have g := g.sub (fx' := [(14, 10, a0_, .int t_)]) [1] rfl
    refine lv_aload_n hx hb dX14_next_4 rfl (lv_at hl 0 rfl) ?_
    have go_ := g
    refine g_callv (va_runV (As := []) (rest := []) ⟨hx, hb, hml, hown, hts⟩ (r_X14_scan_2 l dC dI L kd tys fr_1 H.size g.2.2.2.1 adK adV a0_ ma0_ ka0_ t_ (bd_sub b_10 (by decide)) (g.fcts [0] rfl)) (cwV 0 hts (gV_ t_2360 t_2362 t_92 t_198 t_2363) rfl rfl rfl (by decide +kernel) ⟨(Nat.le_of_ble_eq_true rfl), (Nat.le_of_ble_eq_true rfl)⟩) (pre3VA g hK hAm ma0_ ka0_ (by decide) (q := (RX14, TX14, 67)) rfl) rfl rfl hl.1 rfl (lv_room (Nat.le_of_ble_eq_true rfl)) dX14_next_5 ⟨(Nat.le_of_ble_eq_true rfl), (Nat.le_of_ble_eq_true rfl)⟩) g hK (by decide) (by decide) (fx' := []) rfl (fun fr_11 H locs hp hMr_11 g => ?_)
    obtain ⟨hx_12, x_13, ⟨h_14, rh_14⟩, hF_15⟩ := hp
    obtain ⟨E_16, hE_16⟩ : ∃ E : Int, cEq fr_11 a0_ E := ⟨_, rfl⟩
    have lE_16 : (cF f0 a0_) ≤ E_16 := by have h9 := hx_12; have h8 : cF _ _ = _ := hE_16; have h7 : cF _ _ = _ := hG_7; have h6 := sE_bd (f := fr_1) (t := a0_); have h5 := tk_c (f := fr_1) (t := a0_); omega
    have g := g.more hF_15
    have b_17 : bd 0 1201 x_13 := ⟨h_14.1, (by have h9_0 := b_10; unfold bd at h9_0; have h9_1 := h_14; unfold bd at h9_1; have h9_2 := h_5; unfold bd at h9_2; omega)⟩
    subst hQ
    exact W.thenQ (W.vret hx hb hr (fun t ht hW => g_retE g hK ⟨rfl, ⟨(hx_12.trans hG_8), b_10, x_13, b_17, (g.fcts [0] rfl)⟩⟩ ht hW) g.2.2.1.2.2 dX14_next_8) (fun _ => MQ.toE)
set_option maxHeartbeats 4000000 in
set_option maxRecDepth 100000 in
theorem r_X14_node (l : Launch) (dC : Nat → ClassId) (dI : Nat → Nat → Nat) (L : List Nat) (kd : Nat → Nat) (tys : List (ClassId × FieldType)) (f0 : Nat → va_E) (sz : Nat) (hWT : WT L kd tys f0) (a0_ : Nat) (ma0_ : a0_ ∈ L) (ka0_ : kd a0_ = 14) (x1_ : Int32) (x2_ : Int32) (x3_ : Int32) (x4_ : Int32) (q0_ : Nat) (mq0_ : q0_ ∈ L) (kq0_ : kd q0_ = 12) (o_ : Int32) (bo_ : bd 0 7 o_) (V_ : PV) (hGVq0_ : isV f0 q0_ V_) (hnb : (V_.n 57).toInt ≤ 2499) (hfx : Fs L kd f0 [(14, 2, a0_, .ref q0_), (14, 16, a0_, .int o_)]) : Met l yX14_node (.code yX14_node cX14_node 6 (some .int) :: lw_g) ({ frames := 0, cells := 0, slots := 0, locals := 0 }) (va_Pc [.ref a0_, .int x1_, .int x2_, .int x3_, .int x4_] (P3 (dC, dI) L tys f0 sz)) (va_Qi (fun (r : Int32) (f : Nat → va_E) => ((∃ V1 : PV, isV f q0_ V1 ∧ NN V_ V1 r x1_ x2_ x3_ (-1) x4_ 0 o_ 0 0) ∧ (FR L kd f0 f q0_) ∧ bd 0 2499 r ∧ ∃ z0_ : Int32, bd 1 2500 z0_ ∧ Fs L kd f [(12, 57, q0_, .int z0_)])) (Q3 (dC, dI) L kd tys [(12, 57)] [201, 202, 203, 204, 205, 206, 208, 209, 210] f0 sz) (pA L sz)) 0 0 (pA L sz) := by
  refine Met.ofW (cc := cX14_node) (maxL := 6) (ret := (some .int)) (by decide) rfl ?_
  intro p e s m args below meth c s₁ B hml hv
  obtain ⟨rfl, hsz, hP, hK, hD0⟩ := hv
  have hx := B.exec
  have hb := B.bytes
  have hr := B.returns
  have hts := atoms_spec (ws := (.code yX14_node cX14_node 6 (some .int) :: lw_g)) B.pre
  have hown : s.vm.findClass RX14 = some m.cls := findClass_of_methodNamed B.named
  have hlocks := B.notSynchronized
  subst hsz
  have g : G3 (dC, dI) L kd tys s f0 [(12, 57)] [201, 202, 203, 204, 205, 206, 208, 209, 210] f0 s.heap [] [(14, 2, a0_, .ref q0_), (14, 16, a0_, .int o_)] := G3.start hP hD0 hWT hfx
  have hl := lv_entry ([.ref a0_, .int x1_, .int x2_, .int x3_, .int x4_]) (n := 6) (Nat.le_of_ble_eq_true rfl)
  rw [lg_entry_eq]
  generalize (lg_sl ([.ref a0_, .int x1_, .int x2_, .int x3_, .int x4_]) ++ List.replicate (6 - (lg_sl ([.ref a0_, .int x1_, .int x2_, .int x3_, .int x4_])).length) Slot.unset).toArray = ls at hl ⊢
  have hl : lv_has ls 6 [(0, .ref a0_), (1, .int x1_), (2, .int x2_), (3, .int x3_), (4, .int x4_)] := hl
  refine W_q (fun Q hQ => ?_)
  refine lv_aload_n hx hb dX14_node_0 rfl (lv_at hl 0 rfl) ?_
  refine g_getk (C := RX14) (T := TX14) (N := 67) hx hb hts (mc_ inX14) hown hK g rfl 2 (by decide) rfl (hts _ (List.mem_cons_of_mem _ t_2148)) (fun _ h9 => h9) 0 rfl dX14_node_1 ?_
  refine g_geti (C := RX12) (T := TX12) (N := 60) hx hb hts (mc_ inX12) hown hK g mq0_ kq0_ (by decide) rfl 57 (by decide) rfl (hts _ (List.mem_cons_of_mem _ t_2017)) (fun _ h9 => h9) rfl dX14_node_4 (fun x_1 bx_1 g => ?_)
  have hn_2 := hGVq0_.nn g 0 rfl rfl
  have b_3 : bd 0 2499 x_1 := ⟨bx_1.1, (by rw [hn_2]; exact hnb)⟩
  refine lv_istore (lv' := [(5, .int x_1), (0, .ref a0_), (1, .int x1_), (2, .int x2_), (3, .int x3_), (4, .int x4_)]) hx hb dX14_node_7 hl (by decide) rfl (fun ls hl => ?_)
  refine lv_aload_n hx hb dX14_node_9 rfl (lv_at hl 1 rfl) ?_
  refine g_getk (C := RX14) (T := TX14) (N := 67) hx hb hts (mc_ inX14) hown hK g rfl 2 (by decide) rfl (hts _ (List.mem_cons_of_mem _ t_2148)) (fun _ h9 => h9) 1 rfl dX14_node_10 ?_
  refine g_getr (K := 201) (C := RX12) (T := TX12) (N := 60) hx hb hts (mc_ inX12) hown hK g mq0_ kq0_ (by decide) rfl 47 (by decide) rfl (hts _ (List.mem_cons_of_mem _ t_1998)) (fun _ h9 => h9) rfl dX14_node_13 (fun a_4 ma_4 ka_4 g => ?_)
  refine lv_iload hx hb dX14_node_16 (lv_at hl 0 rfl) ?_
  refine lv_iload_n hx hb dX14_node_18 rfl (lv_at hl 2 rfl) ?_
  have gp_5 := g
  have go_ := g
  refine g_iastX hx hb hK g ma_4 ka_4 (by decide) rfl (in_bd b_3 (by decide)) (bdT x1_) (by decide) dX14_node_19 (fun f H locs hM_6 u_7 g => ?_)
  have hV_8 := isV.ui hGVq0_ gp_5 0 rfl mq0_ kq0_ rfl u_7
  have hF_9 := FR.arr FR.refl gp_5 0 rfl mq0_ kq0_ rfl rfl u_7.1
  refine lv_aload_n hx hb dX14_node_20 rfl (lv_at hl 1 rfl) ?_
  refine g_getk (C := RX14) (T := TX14) (N := 67) hx hb hts (mc_ inX14) hown hK g rfl 2 (by decide) rfl (hts _ (List.mem_cons_of_mem _ t_2148)) (fun _ h9 => h9) 2 rfl dX14_node_21 ?_
  refine g_getr (K := 202) (C := RX12) (T := TX12) (N := 60) hx hb hts (mc_ inX12) hown hK g mq0_ kq0_ (by decide) rfl 48 (by decide) rfl (hts _ (List.mem_cons_of_mem _ t_2000)) (fun _ h9 => h9) rfl dX14_node_24 (fun a_10 ma_10 ka_10 g => ?_)
  refine lv_iload hx hb dX14_node_27 (lv_at hl 0 rfl) ?_
  refine lv_iload_n hx hb dX14_node_29 rfl (lv_at hl 3 rfl) ?_
  have gp_11 := g
  have go_ := g
  refine g_iastX hx hb hK g ma_10 ka_10 (by decide) rfl (in_bd b_3 (by decide)) (bdT x2_) (by decide) dX14_node_30 (fun f H locs hM_12 u_13 g => ?_)
  have hV_14 := isV.ui hV_8 gp_11 0 rfl mq0_ kq0_ rfl u_13
  have hF_15 := FR.arr hF_9 gp_11 0 rfl mq0_ kq0_ rfl rfl u_13.1
  refine lv_aload_n hx hb dX14_node_31 rfl (lv_at hl 1 rfl) ?_
  refine g_getk (C := RX14) (T := TX14) (N := 67) hx hb hts (mc_ inX14) hown hK g rfl 2 (by decide) rfl (hts _ (List.mem_cons_of_mem _ t_2148)) (fun _ h9 => h9) 3 rfl dX14_node_32 ?_
  refine g_getr (K := 203) (C := RX12) (T := TX12) (N := 60) hx hb hts (mc_ inX12) hown hK g mq0_ kq0_ (by decide) rfl 49 (by decide) rfl (hts _ (List.mem_cons_of_mem _ t_2002)) (fun _ h9 => h9) rfl dX14_node_35 (fun a_16 ma_16 ka_16 g => ?_)
  refine lv_iload hx hb dX14_node_38 (lv_at hl 0 rfl) ?_
  refine lv_iload_n hx hb dX14_node_40 rfl (lv_at hl 4 rfl) ?_
  have gp_17 := g
  have go_ := g
  refine g_iastX hx hb hK g ma_16 ka_16 (by decide) rfl (in_bd b_3 (by decide)) (bdT x3_) (by decide) dX14_node_41 (fun f H locs hM_18 u_19 g => ?_)
  have hV_20 := isV.ui hV_14 gp_17 0 rfl mq0_ kq0_ rfl u_19
  have hF_21 := FR.arr hF_15 gp_17 0 rfl mq0_ kq0_ rfl rfl u_19.1
  refine lv_aload_n hx hb dX14_node_42 rfl (lv_at hl 1 rfl) ?_
  refine g_getk (C := RX14) (T := TX14) (N := 67) hx hb hts (mc_ inX14) hown hK g rfl 2 (by decide) rfl (hts _ (List.mem_cons_of_mem _ t_2148)) (fun _ h9 => h9) 4 rfl dX14_node_43 ?_
  refine g_getr (K := 204) (C := RX12) (T := TX12) (N := 60) hx hb hts (mc_ inX12) hown hK g mq0_ kq0_ (by decide) rfl 50 (by decide) rfl (hts _ (List.mem_cons_of_mem _ t_2004)) (fun _ h9 => h9) rfl dX14_node_46 (fun a_22 ma_22 ka_22 g => ?_)
  refine lv_iload hx hb dX14_node_49 (lv_at hl 0 rfl) ?_
  refine lv_iconst (v := (-1)) hx hb dX14_node_51 (by decide) ?_
  have gp_23 := g
  have kb_m1 : bd (-1) (-1) ((-1) : Int32) := ⟨by decide, by decide⟩
  have go_ := g
  refine g_iastX hx hb hK g ma_22 ka_22 (by decide) rfl (in_bd b_3 (by decide)) (bd_sub kb_m1 (by decide)) (by decide) dX14_node_52 (fun f H locs hM_24 u_25 g => ?_)
  have hV_26 := isV.ui hV_20 gp_23 0 rfl mq0_ kq0_ rfl u_25
  have hF_27 := FR.arr hF_21 gp_23 0 rfl mq0_ kq0_ rfl rfl u_25.1
  refine lv_aload_n hx hb dX14_node_53 rfl (lv_at hl 1 rfl) ?_
  refine g_getk (C := RX14) (T := TX14) (N := 67) hx hb hts (mc_ inX14) hown hK g rfl 2 (by decide) rfl (hts _ (List.mem_cons_of_mem _ t_2148)) (fun _ h9 => h9) 5 rfl dX14_node_54 ?_
  refine g_getr (K := 205) (C := RX12) (T := TX12) (N := 60) hx hb hts (mc_ inX12) hown hK g mq0_ kq0_ (by decide) rfl 51 (by decide) rfl (hts _ (List.mem_cons_of_mem _ t_2006)) (fun _ h9 => h9) rfl dX14_node_57 (fun a_28 ma_28 ka_28 g => ?_)
  refine lv_iload hx hb dX14_node_60 (lv_at hl 0 rfl) ?_
  refine lv_iload hx hb dX14_node_62 (lv_at hl 5 rfl) ?_
  have gp_29 := g
  have go_ := g
  refine g_iastX hx hb hK g ma_28 ka_28 (by decide) rfl (in_bd b_3 (by decide)) (bdT x4_) (by decide) dX14_node_64 (fun f H locs hM_30 u_31 g => ?_)
  have hV_32 := isV.ui hV_26 gp_29 0 rfl mq0_ kq0_ rfl u_31
  have hF_33 := FR.arr hF_27 gp_29 0 rfl mq0_ kq0_ rfl rfl u_31.1
  refine lv_aload_n hx hb dX14_node_65 rfl (lv_at hl 1 rfl) ?_
  refine g_getk (C := RX14) (T := TX14) (N := 67) hx hb hts (mc_ inX14) hown hK g rfl 2 (by decide) rfl (hts _ (List.mem_cons_of_mem _ t_2148)) (fun _ h9 => h9) 6 rfl dX14_node_66 ?_
  refine g_getr (K := 206) (C := RX12) (T := TX12) (N := 60) hx hb hts (mc_ inX12) hown hK g mq0_ kq0_ (by decide) rfl 52 (by decide) rfl (hts _ (List.mem_cons_of_mem _ t_2008)) (fun _ h9 => h9) rfl dX14_node_69 (fun a_34 ma_34 ka_34 g => ?_)
  refine lv_iload hx hb dX14_node_72 (lv_at hl 0 rfl) ?_
  refine lv_iconst (v := 0) hx hb dX14_node_74 (by decide) ?_
  have gp_35 := g
  have kb_0 : bd 0 0 (0 : Int32) := ⟨by decide, by decide⟩
  have go_ := g
  refine g_iastX hx hb hK g ma_34 ka_34 (by decide) rfl (in_bd b_3 (by decide)) (bd_sub kb_0 (by decide)) (by decide) dX14_node_75 (fun f H locs hM_36 u_37 g => ?_)
  have hV_38 := isV.ui hV_32 gp_35 0 rfl mq0_ kq0_ rfl u_37
  have hF_39 := FR.arr hF_33 gp_35 0 rfl mq0_ kq0_ rfl rfl u_37.1
  refine lv_aload_n hx hb dX14_node_76 rfl (lv_at hl 1 rfl) ?_
  refine g_getk (C := RX14) (T := TX14) (N := 67) hx hb hts (mc_ inX14) hown hK g rfl 2 (by decide) rfl (hts _ (List.mem_cons_of_mem _ t_2148)) (fun _ h9 => h9) 7 rfl dX14_node_77 ?_
  refine g_getr (K := 208) (C := RX12) (T := TX12) (N := 60) hx hb hts (mc_ inX12) hown hK g mq0_ kq0_ (by decide) rfl 54 (by decide) rfl (hts _ (List.mem_cons_of_mem _ t_2012)) (fun _ h9 => h9) rfl dX14_node_80 (fun a_40 ma_40 ka_40 g => ?_)
  refine lv_iload hx hb dX14_node_83 (lv_at hl 0 rfl) ?_
  refine lv_aload_n hx hb dX14_node_85 rfl (lv_at hl 1 rfl) ?_
  refine g_getk (C := RX14) (T := TX14) (N := 67) hx hb hts (mc_ inX14) hown hK g rfl 16 (by decide) rfl (hts _ (List.mem_cons_of_mem _ t_2162)) (fun _ h9 => h9) 9 rfl dX14_node_86 ?_
  have gp_41 := g
  have go_ := g
  refine g_iastX hx hb hK g ma_40 ka_40 (by decide) rfl (in_bd b_3 (by decide)) bo_ (by decide) dX14_node_89 (fun f H locs hM_42 u_43 g => ?_)
  have hV_44 := isV.ui hV_38 gp_41 0 rfl mq0_ kq0_ rfl u_43
  have hF_45 := FR.arr hF_39 gp_41 0 rfl mq0_ kq0_ rfl rfl u_43.1
  refine lv_aload_n hx hb dX14_node_90 rfl (lv_at hl 1 rfl) ?_
  refine g_getk (C := RX14) (T := TX14) (N := 67) hx hb hts (mc_ inX14) hown hK g rfl 2 (by decide) rfl (hts _ (List.mem_cons_of_mem _ t_2148)) (fun _ h9 => h9) 8 rfl dX14_node_91 ?_
  refine g_getr (K := 209) (C := RX12) (T := TX12) (N := 60) hx hb hts (mc_ inX12) hown hK g mq0_ kq0_ (by decide) rfl 55 (by decide) rfl (hts _ (List.mem_cons_of_mem _ t_2014)) (fun _ h9 => h9) rfl dX14_node_94 (fun a_46 ma_46 ka_46 g => ?_)
  refine lv_iload hx hb dX14_node_97 (lv_at hl 0 rfl) ?_
  refine lv_lconst (v := 0) hx hb dX14_node_99 (by decide) ?_
  have gp_47 := g
  have go_ := g
  refine g_lastX hx hb hK g ma_46 ka_46 (by decide) rfl (in_bd b_3 (by decide)) (by decide) dX14_node_100 (fun f H locs hM_48 u_49 g => ?_)
  have hV_50 := isV.ul hV_44 gp_47 0 rfl mq0_ kq0_ rfl u_49
  have hF_51 := FR.arr hF_45 gp_47 0 rfl mq0_ kq0_ rfl rfl u_49.1
  refine lv_aload_n hx hb dX14_node_101 rfl (lv_at hl 1 rfl) ?_
  refine g_getk (C := RX14) (T := TX14) (N := 67) hx hb hts (mc_ inX14) hown hK g rfl 2 (by decide) rfl (hts _ (List.mem_cons_of_mem _ t_2148)) (fun _ h9 => h9) 9 rfl dX14_node_102 ?_
  refine g_getr (K := 210) (C := RX12) (T := TX12) (N := 60) hx hb hts (mc_ inX12) hown hK g mq0_ kq0_ (by decide) rfl 56 (by decide) rfl (hts _ (List.mem_cons_of_mem _ t_2016)) (fun _ h9 => h9) rfl dX14_node_105 (fun a_52 ma_52 ka_52 g => ?_)
  refine lv_iload hx hb dX14_node_108 (lv_at hl 0 rfl) ?_
  refine lv_lconst (v := 0) hx hb dX14_node_110 (by decide) ?_
  have gp_53 := g
  have go_ := g
  refine g_lastX hx hb hK g ma_52 ka_52 (by decide) rfl (in_bd b_3 (by decide)) (by decide) dX14_node_111 (fun f H locs hM_54 u_55 g => ?_)
  have hV_56 := isV.ul hV_50 gp_53 0 rfl mq0_ kq0_ rfl u_55
  have hF_57 := FR.arr hF_51 gp_53 0 rfl mq0_ kq0_ rfl rfl u_55.1
  refine lv_aload_n hx hb dX14_node_112 rfl (lv_at hl 1 rfl) ?_
  refine g_getk (C := RX14) (T := TX14) (N := 67) hx hb hts (mc_ inX14) hown hK g rfl 2 (by decide) rfl (hts _ (List.mem_cons_of_mem _ t_2148)) (fun _ h9 => h9) 10 rfl dX14_node_113 ?_
  refine lv_dup hx hb dX14_node_116 rfl ?_
  refine g_getk (C := RX12) (T := TX12) (N := 60) hx hb hts (mc_ inX12) hown hK g rfl 57 (by decide) rfl (hts _ (List.mem_cons_of_mem _ t_2017)) (fun _ h9 => h9) 9 rfl dX14_node_117 ?_
  refine lv_iconst (v := 1) hx hb dX14_node_120 (by decide) ?_
  have kb_1 : bd 1 1 (1 : Int32) := ⟨by decide, by decide⟩
  refine lv_iadd hx hb dX14_node_121 ?_
  refine lv_topi (fun y_58 ey_58 => ?_)
  have ty_58 := add_bd ey_58 b_3 kb_1 (by decide)
  have b_59 : bd 1 2500 y_58 := add_rg ty_58 b_3 kb_1 (by decide)
  have gp_60 := g
  have go_ := g
  refine g_putX (C := RX12) (T := TX12) (N := 60) hx hb hts (mc_ inX12) tyX12 tyX12_ok nmX12 hown hK g mq0_ kq0_ (by decide) rfl 57 (by decide) (hts _ (List.mem_cons_of_mem _ t_2017)) (fun _ h9 => h9) rfl rfl (okV_i (bd_sub b_59 (by decide))) rfl rfl (by decide) (Or.inr (Or.inl (by decide))) (fx' := [(12, 56, q0_, .ref a_52), (12, 55, q0_, .ref a_46), (12, 54, q0_, .ref a_40), (12, 52, q0_, .ref a_34), (12, 51, q0_, .ref a_28), (12, 50, q0_, .ref a_22), (12, 49, q0_, .ref a_16), (12, 48, q0_, .ref a_10), (12, 47, q0_, .ref a_4), (14, 2, a0_, .ref q0_), (14, 16, a0_, .int o_)]) rfl dX14_node_122 (fun f H locs hM_61 u_62 g => ?_)
  have hV_63 := isV.un hV_56 gp_60.2.2.2.1 mq0_ kq0_ rfl u_62
  have hF_64 := FR.fld hF_57 u_62
  refine lv_iload hx hb dX14_node_125 (lv_at hl 0 rfl) ?_
  subst hQ
  exact W.iret (v := x_1) hx hb hr (fun t ht hW => ⟨⟨_, _, rfl, ⟨⟨_, hV_63, nd_NN hn_2 b_3.1 (by have h9_0 := bo_; unfold bd at h9_0; have h9_1 := b_3; unfold bd at h9_1; have h9_2 := b_59; unfold bd at h9_2; have h8_0 := kb_0; unfold bd at h8_0; have h8_1 := kb_1; unfold bd at h8_1; have h8_2 := kb_m1; unfold bd at h8_2; omega)⟩, hF_64, b_3, y_58, b_59, (g.fcts [0] rfl)⟩, q3_of g hK ht hW⟩, g.2.2.1.F ht⟩) g.2.2.1.2.2 dX14_node_127
set_option maxHeartbeats 4000000 in
set_option maxRecDepth 100000 in
theorem r_X14_opens_2 (l : Launch) (dC : Nat → ClassId) (dI : Nat → Nat → Nat) (L : List Nat) (kd : Nat → Nat) (tys : List (ClassId × FieldType)) (f0 : Nat → va_E) (sz : Nat) (hWT : WT L kd tys f0) (a0_ : Nat) (ma0_ : a0_ ∈ L) (ka0_ : kd a0_ = 14) (x1_ : Int32) (op_ : Int32) (bop_ : bd 0 40 op_) (hfx : Fs L kd f0 [(14, 25, a0_, .int op_)]) : MetE l yX14_opens (.code yX14_opens cX14_opens 2 none :: lw_g) ({ frames := 2, cells := 0, slots := 0, locals := 45 }) (va_Pc [.ref a0_, .int x1_] (P3 (dC, dI) L tys f0 sz)) (q3E (dC, dI) L kd tys [(14, 14), (14, 15), (14, 25)] [] f0 sz (pRv (fun (f : Nat → va_E) => (bd 0 39 op_ ∧ ∃ z0_ : Int32, (bd 1 40 z0_ ∧ z0_.toInt = op_.toInt + 1) ∧ Fs L kd f [(14, 25, a0_, .int z0_)]))) (fun (f : Nat → va_E) => True)) 0 0 (pA L sz) := by
  refine MetE.ofW (cc := cX14_opens) (maxL := 2) (ret := none) (by decide) rfl ?_
  intro p e s m args below meth c s₁ B hml hempty hv
  obtain ⟨rfl, hsz, hP, hK, hD0⟩ := hv
  have hx := B.exec
  have hb := B.bytes
  have hr := B.returns
  have hts := atoms_spec (ws := (.code yX14_opens cX14_opens 2 none :: lw_g)) B.pre
  have hown : s.vm.findClass RX14 = some m.cls := findClass_of_methodNamed B.named
  have hlocks := B.notSynchronized
  subst hsz
  have g : G3 (dC, dI) L kd tys s f0 [(14, 14), (14, 15), (14, 25)] [] f0 s.heap [] [(14, 25, a0_, .int op_)] := G3.start hP hD0 hWT hfx
  have hl := lv_entry ([.ref a0_, .int x1_]) (n := 2) (Nat.le_of_ble_eq_true rfl)
  rw [lg_entry_eq]
  generalize (lg_sl ([.ref a0_, .int x1_]) ++ List.replicate (2 - (lg_sl ([.ref a0_, .int x1_])).length) Slot.unset).toArray = ls at hl ⊢
  have hl : lv_has ls 2 [(0, .ref a0_), (1, .int x1_)] := hl
  refine W_q (fun Q hQ => ?_)
  refine lv_aload_n hx hb dX14_opens_0 rfl (lv_at hl 0 rfl) ?_
  refine lv_aload_n hx hb dX14_opens_1 rfl (lv_at hl 0 rfl) ?_
  refine g_getk (C := RX14) (T := TX14) (N := 67) hx hb hts (mc_ inX14) hown hK g rfl 25 (by decide) rfl (hts _ (List.mem_cons_of_mem _ t_2171)) (fun _ h9 => h9) 0 rfl dX14_opens_2 ?_
  refine lv_bipush (v := 40) hx hb dX14_opens_5 (by decide) ?_
  have kb_40 : bd 40 40 (40 : Int32) := ⟨by decide, by decide⟩
  refine lv_icmp_ge (tgt := 14) hx hb dX14_opens_7 (by decide) (fun c_1 => ?_) (fun c_1 => ?_)
  · have fc_1 := le_f c_1
    have b_2 : bd 40 40 op_ := leR fc_1 kb_40 bop_ (by decide)
    refine lv_iconst (v := 0) hx hb dX14_opens_14 (by decide) ?_
    refine lv_iconst (v := 4) hx hb dX14_opens_15 (by decide) ?_
    refine lv_iload_n hx hb dX14_opens_16 rfl (lv_at hl 1 rfl) ?_
    have kb_0 : bd 0 0 (0 : Int32) := ⟨by decide, by decide⟩
    refine g_callEv (As := [.int 0, .int 4, .int x1_]) (rest := []) ⟨hx, hb, hml, hown, hts⟩ (r_X14_need_2 l dC dI L kd tys f0 s.heap.size g.2.2.2.1 a0_ ma0_ ka0_ 0 kb_0 4 x1_) (cwV 3 hts (gV_ t_2403 t_2405 t_100 t_198 t_2406) rfl rfl rfl (by decide +kernel) ⟨(Nat.le_of_ble_eq_true rfl), (Nat.le_of_ble_eq_true rfl)⟩) (pre3V g hK ma0_ ka0_ (by decide) (q := (RX14, TX14, 67)) rfl) rfl hl.1 rfl (lv_room (Nat.le_of_ble_eq_true rfl)) dX14_opens_17 ⟨(Nat.le_of_ble_eq_true rfl), (Nat.le_of_ble_eq_true rfl)⟩ g hK (by decide) (by decide) (fx' := [(14, 25, a0_, .int op_)]) rfl (fun xr_3 fr_3 H locs mxr_3 kxr_3 hp hMr_3 g => ?_) (fun fr_3 H locs hp hMr_3 g => ?_)
    · subst hQ
      exact WX.leaves hempty hlocks (fun t ht hW => g_thrE g hK mxr_3 kxr_3 trivial ht hW) g.2.2.1.2.2
    · exact hp.elim
  · have fc_1 := nle_f c_1
    have b_4 : bd 0 39 op_ := ltL fc_1 bop_ kb_40 (by decide)
    refine lv_iconst (v := 1) hx hb dX14_opens_10 (by decide) ?_
    refine lv_goto (tgt := 15) hx hb dX14_opens_11 (by decide) ?_
    refine lv_iconst (v := 4) hx hb dX14_opens_15 (by decide) ?_
    refine lv_iload_n hx hb dX14_opens_16 rfl (lv_at hl 1 rfl) ?_
    have kb_1 : bd 1 1 (1 : Int32) := ⟨by decide, by decide⟩
    refine g_callEv (As := [.int 1, .int 4, .int x1_]) (rest := []) ⟨hx, hb, hml, hown, hts⟩ (r_X14_need_3 l dC dI L kd tys f0 s.heap.size g.2.2.2.1 a0_ ma0_ ka0_ 1 kb_1 4 x1_) (cwV 3 hts (gV_ t_2403 t_2405 t_100 t_198 t_2406) rfl rfl rfl (by decide +kernel) ⟨(Nat.le_of_ble_eq_true rfl), (Nat.le_of_ble_eq_true rfl)⟩) (pre3V g hK ma0_ ka0_ (by decide) (q := (RX14, TX14, 67)) rfl) rfl hl.1 rfl (lv_room (Nat.le_of_ble_eq_true rfl)) dX14_opens_17 ⟨(Nat.le_of_ble_eq_true rfl), (Nat.le_of_ble_eq_true rfl)⟩ g hK (by decide) (by decide) (fx' := [(14, 25, a0_, .int op_)]) rfl (fun xr_5 fr_5 H locs mxr_5 kxr_5 hp hMr_5 g => ?_) (fun fr_5 H locs hp hMr_5 g => ?_)
    · exact hp.elim
    · refine lv_aload_n hx hb dX14_opens_20 rfl (lv_at hl 0 rfl) ?_
      refine lv_dup hx hb dX14_opens_21 rfl ?_
      refine g_getk (C := RX14) (T := TX14) (N := 67) hx hb hts (mc_ inX14) hown hK g rfl 25 (by decide) rfl (hts _ (List.mem_cons_of_mem _ t_2171)) (fun _ h9 => h9) 0 rfl dX14_opens_22 ?_
      refine lv_iconst (v := 1) hx hb dX14_opens_25 (by decide) ?_
      refine lv_iadd hx hb dX14_opens_26 ?_
      refine lv_topi (fun y_6 ey_6 => ?_)
      have ty_6 := add_bd ey_6 b_4 kb_1 (by decide)
      have b_7 : bd 1 40 y_6 := add_rg ty_6 b_4 kb_1 (by decide)
      refine g_put (C := RX14) (T := TX14) (N := 67) hx hb hts (mc_ inX14) tyX14 tyX14_ok nmX14 hown hK g ma0_ ka0_ (by decide) rfl 25 (by decide) (hts _ (List.mem_cons_of_mem _ t_2171)) (fun _ h9 => h9) rfl rfl (okV_i (bd_sub b_7 (by decide))) rfl rfl (by decide) (Or.inr (Or.inl (by decide))) (fx' := []) rfl dX14_opens_27 (fun f H locs hM_8 g => ?_)
      subst hQ
      exact W.thenQ (W.vret hx hb hr (fun t ht hW => g_retE g hK ⟨rfl, ⟨b_4, y_6, ⟨b_7, (by have h9_0 := b_4; unfold bd at h9_0; have h9_1 := b_7; unfold bd at h9_1; have h8_0 := kb_1; unfold bd at h8_0; have h8_1 := kb_40; unfold bd at h8_1; omega)⟩, (g.fcts [0] rfl)⟩⟩ ht hW) g.2.2.1.2.2 dX14_opens_30) (fun _ => MQ.toE)
set_option maxHeartbeats 4000000 in
set_option maxRecDepth 100000 in
theorem r_X14_opening_2 (l : Launch) (dC : Nat → ClassId) (dI : Nat → Nat → Nat) (L : List Nat) (kd : Nat → Nat) (tys : List (ClassId × FieldType)) (f0 : Nat → va_E) (sz : Nat) (hWT : WT L kd tys f0) (adK adV : Nat → Nat) (a0_ : Nat) (ma0_ : a0_ ∈ L) (ka0_ : kd a0_ = 14) (x1_ : Int32) (t_ : Int32) (bt_ : bd 0 1201 t_) (op_ : Int32) (bop_ : bd 0 40 op_) (hfx : Fs L kd f0 [(14, 10, a0_, .int t_), (14, 25, a0_, .int op_)]) : MetE l yX14_opening (.code yX14_opening cX14_opening 2 none :: lw_g) ({ frames := 7, cells := 0, slots := 0, locals := 155 }) (va_Pc [.ref a0_, .int x1_] (P3A (dC, dI) L tys f0 sz adK adV)) (q3E (dC, dI) L kd tys [(14, 6), (14, 7), (14, 8), (14, 9), (14, 10), (14, 11), (14, 12), (14, 13), (14, 14), (14, 15), (14, 25)] [] f0 sz (pRv (fun (f : Nat → va_E) => ((cF f0 a0_ + 1 ≤ cF f a0_) ∧ bd 0 1200 t_ ∧ bd 0 39 op_ ∧ ∃ z0_ : Int32, bd 0 1201 z0_ ∧ ∃ z1_ : Int32, (bd 1 40 z1_ ∧ z1_.toInt = op_.toInt + 1) ∧ Fs L kd f [(14, 10, a0_, .int z0_), (14, 25, a0_, .int z1_)]))) (fun (f : Nat → va_E) => True)) 0 0 (pA L sz) := by
  refine MetE.ofW (cc := cX14_opening) (maxL := 2) (ret := none) (by decide) rfl ?_
  intro p e s m args below meth c s₁ B hml hempty hv
  obtain ⟨rfl, ⟨hsz, hP, hK, hD0⟩, hAm⟩ := hv
  have hx := B.exec
  have hb := B.bytes
  have hr := B.returns
  have hts := atoms_spec (ws := (.code yX14_opening cX14_opening 2 none :: lw_g)) B.pre
  have hown : s.vm.findClass RX14 = some m.cls := findClass_of_methodNamed B.named
  have hlocks := B.notSynchronized
  subst hsz
  have g : G3 (dC, dI) L kd tys s f0 [(14, 6), (14, 7), (14, 8), (14, 9), (14, 10), (14, 11), (14, 12), (14, 13), (14, 14), (14, 15), (14, 25)] [] f0 s.heap [] [(14, 10, a0_, .int t_), (14, 25, a0_, .int op_)] := G3.start hP hD0 hWT hfx
  have hl := lv_entry ([.ref a0_, .int x1_]) (n := 2) (Nat.le_of_ble_eq_true rfl)
  rw [lg_entry_eq]
  generalize (lg_sl ([.ref a0_, .int x1_]) ++ List.replicate (2 - (lg_sl ([.ref a0_, .int x1_])).length) Slot.unset).toArray = ls at hl ⊢
  have hl : lv_has ls 2 [(0, .ref a0_), (1, .int x1_)] := hl
  refine W_q (fun Q hQ => ?_)
  refine lv_aload_n hx hb dX14_opening_0 rfl (lv_at hl 0 rfl) ?_
  refine lv_aload_n hx hb dX14_opening_1 rfl (lv_at hl 0 rfl) ?_
  refine lv_iload_n hx hb dX14_opening_2 rfl (lv_at hl 1 rfl) ?_
  have go_ := g
  refine g_calli (va_runV (As := [.int x1_]) (rest := [.ref a0_]) ⟨hx, hb, hml, hown, hts⟩ (r_X14_isSign l dC dI L kd tys f0 s.heap.size g.2.2.2.1 a0_ ma0_ ka0_ x1_) (cwV 1 hts (gV_ t_2435 t_2437 t_108 t_198 t_2438) rfl rfl rfl (by decide +kernel) ⟨(Nat.le_of_ble_eq_true rfl), (Nat.le_of_ble_eq_true rfl)⟩) (pre3V g hK ma0_ ka0_ (by decide) (q := (RX14, TX14, 67)) rfl) rfl rfl hl.1 rfl (lv_room (Nat.le_of_ble_eq_true rfl)) dX14_opening_3 ⟨(Nat.le_of_ble_eq_true rfl), (Nat.le_of_ble_eq_true rfl)⟩) g hK (by decide) (by decide) (fx' := [(14, 10, a0_, .int t_), (14, 25, a0_, .int op_)]) rfl (fun r_1 fr_1 H locs hp hMr_1 g => ?_)
  rcases hp with ⟨h_2, -⟩ | ⟨h_3, x_4, h_5, hF_6⟩
  · have hG_7 := cEq.frame hMr_1 go_.2.2.2.1 ma0_ ka0_ (by decide) (by decide) (rfl : cEq f0 a0_ (cF f0 a0_))
    have hG_8 := tEq.frame hMr_1 go_.2.2.2.1 ma0_ ka0_ (by decide) (by decide) (rfl : tEq f0 a0_ (tk f0 a0_))
    obtain rfl : r_1 = 0 := h_2
    refine lv_iconst (v := 1) hx hb dX14_opening_6 (by decide) ?_
    refine lv_aload_n hx hb dX14_opening_7 rfl (lv_at hl 0 rfl) ?_
    refine g_geti (C := RX14) (T := TX14) (N := 67) hx hb hts (mc_ inX14) hown hK g ma0_ ka0_ (by decide) rfl 8 (by decide) rfl (hts _ (List.mem_cons_of_mem _ t_2154)) (fun _ h9 => h9) rfl dX14_opening_8 (fun x_9 bx_9 g => ?_)
    have kb_0 : bd 0 0 (0 : Int32) := ⟨by decide, by decide⟩
    have go_ := g
    refine g_callEv (As := [.int 0, .int 1, .int x_9]) (rest := []) ⟨hx, hb, hml, hown, hts⟩ (r_X14_need_2 l dC dI L kd tys fr_1 H.size g.2.2.2.1 a0_ ma0_ ka0_ 0 kb_0 1 x_9) (cwV 3 hts (gV_ t_2403 t_2405 t_100 t_198 t_2406) rfl rfl rfl (by decide +kernel) ⟨(Nat.le_of_ble_eq_true rfl), (Nat.le_of_ble_eq_true rfl)⟩) (pre3V g hK ma0_ ka0_ (by decide) (q := (RX14, TX14, 67)) rfl) rfl hl.1 rfl (lv_room (Nat.le_of_ble_eq_true rfl)) dX14_opening_11 ⟨(Nat.le_of_ble_eq_true rfl), (Nat.le_of_ble_eq_true rfl)⟩ g hK (by decide) (by decide) (fx' := [(14, 8, a0_, .int x_9), (14, 10, a0_, .int t_), (14, 25, a0_, .int op_)]) rfl (fun xr_10 fr_10 H locs mxr_10 kxr_10 hp hMr_10 g => ?_) (fun fr_10 H locs hp hMr_10 g => ?_)
    · have hG_11 := cEq.frame hMr_10 go_.2.2.2.1 ma0_ ka0_ (by decide) (by decide) hG_7
      have hG_12 := tEq.frame hMr_10 go_.2.2.2.1 ma0_ ka0_ (by decide) (by decide) hG_8
      subst hQ
      exact WX.leaves hempty hlocks (fun t ht hW => g_thrE g hK mxr_10 kxr_10 trivial ht hW) g.2.2.1.2.2
    · exact hp.elim
  · have hG_13 := cEq.frame hMr_1 go_.2.2.2.1 ma0_ ka0_ (by decide) (by decide) (rfl : cEq f0 a0_ (cF f0 a0_))
    have hG_14 := tEq.frame hMr_1 go_.2.2.2.1 ma0_ ka0_ (by decide) (by decide) (rfl : tEq f0 a0_ (tk f0 a0_))
    obtain rfl : r_1 = 1 := h_3
    have g := g.more hF_6
    refine lv_iconst (v := 1) hx hb dX14_opening_6 (by decide) ?_
    refine lv_aload_n hx hb dX14_opening_7 rfl (lv_at hl 0 rfl) ?_
    refine g_geti (C := RX14) (T := TX14) (N := 67) hx hb hts (mc_ inX14) hown hK g ma0_ ka0_ (by decide) rfl 8 (by decide) rfl (hts _ (List.mem_cons_of_mem _ t_2154)) (fun _ h9 => h9) rfl dX14_opening_8 (fun x_15 bx_15 g => ?_)
    have hs_16 := sE_1 g 1 rfl (by have h9_0 := bop_; unfold bd at h9_0; have h9_1 := bt_; unfold bd at h9_1; have h9_2 := bx_15; unfold bd at h9_2; have h9_3 := h_5; unfold bd at h9_3; omega)
    have kb_1 : bd 1 1 (1 : Int32) := ⟨by decide, by decide⟩
    have go_ := g
    refine g_callEv (As := [.int 1, .int 1, .int x_15]) (rest := []) ⟨hx, hb, hml, hown, hts⟩ (r_X14_need_3 l dC dI L kd tys fr_1 H.size g.2.2.2.1 a0_ ma0_ ka0_ 1 kb_1 1 x_15) (cwV 3 hts (gV_ t_2403 t_2405 t_100 t_198 t_2406) rfl rfl rfl (by decide +kernel) ⟨(Nat.le_of_ble_eq_true rfl), (Nat.le_of_ble_eq_true rfl)⟩) (pre3V g hK ma0_ ka0_ (by decide) (q := (RX14, TX14, 67)) rfl) rfl hl.1 rfl (lv_room (Nat.le_of_ble_eq_true rfl)) dX14_opening_11 ⟨(Nat.le_of_ble_eq_true rfl), (Nat.le_of_ble_eq_true rfl)⟩ g hK (by decide) (by decide) (fx' := [(14, 8, a0_, .int x_15), (14, 6, a0_, .int x_4), (14, 10, a0_, .int t_), (14, 25, a0_, .int op_)]) rfl (fun xr_17 fr_17 H locs mxr_17 kxr_17 hp hMr_17 g => ?_) (fun fr_17 H locs hp hMr_17 g => ?_)
    · have hG_18 := cEq.frame hMr_17 go_.2.2.2.1 ma0_ ka0_ (by decide) (by decide) hG_13
      have hG_19 := tEq.frame hMr_17 go_.2.2.2.1 ma0_ ka0_ (by decide) (by decide) hG_14
      exact hp.elim
    · have hG_20 := cEq.frame hMr_17 go_.2.2.2.1 ma0_ ka0_ (by decide) (by decide) hG_13
      have hG_21 := tEq.frame hMr_17 go_.2.2.2.1 ma0_ ka0_ (by decide) (by decide) hG_14
      refine lv_aload_n hx hb dX14_opening_14 rfl (lv_at hl 0 rfl) ?_
      refine lv_aload_n hx hb dX14_opening_15 rfl (lv_at hl 0 rfl) ?_
      refine g_getk (C := RX14) (T := TX14) (N := 67) hx hb hts (mc_ inX14) hown hK g rfl 8 (by decide) rfl (hts _ (List.mem_cons_of_mem _ t_2154)) (fun _ h9 => h9) 0 rfl dX14_opening_16 ?_
      have hs_22 := sE_1 g 1 rfl (by have h9_0 := bop_; unfold bd at h9_0; have h9_1 := bt_; unfold bd at h9_1; have h9_2 := bx_15; unfold bd at h9_2; have h9_3 := h_5; unfold bd at h9_3; have h8_0 := kb_1; unfold bd at h8_0; omega)
      have go_ := g
      refine g_callEv (As := [.int x_15]) (rest := []) ⟨hx, hb, hml, hown, hts⟩ (r_X14_opens_2 l dC dI L kd tys fr_17 H.size g.2.2.2.1 a0_ ma0_ ka0_ x_15 op_ bop_ (g.fcts [3] rfl)) (cwV 1 hts (gV_ t_2488 t_2490 t_119 t_198 t_2491) rfl rfl rfl (by decide +kernel) ⟨(Nat.le_of_ble_eq_true rfl), (Nat.le_of_ble_eq_true rfl)⟩) (pre3V g hK ma0_ ka0_ (by decide) (q := (RX14, TX14, 67)) rfl) rfl hl.1 rfl (lv_room (Nat.le_of_ble_eq_true rfl)) dX14_opening_19 ⟨(Nat.le_of_ble_eq_true rfl), (Nat.le_of_ble_eq_true rfl)⟩ g hK (by decide) (by decide) (fx' := [(14, 8, a0_, .int x_15), (14, 6, a0_, .int x_4), (14, 10, a0_, .int t_)]) rfl (fun xr_23 fr_23 H locs mxr_23 kxr_23 hp hMr_23 g => ?_) (fun fr_23 H locs hp hMr_23 g => ?_)
      · have hG_24 := cEq.frame hMr_23 go_.2.2.2.1 ma0_ ka0_ (by decide) (by decide) hG_20
        have hG_25 := tEq.frame hMr_23 go_.2.2.2.1 ma0_ ka0_ (by decide) (by decide) hG_21
        subst hQ
        exact WX.leaves hempty hlocks (fun t ht hW => g_thrE g hK mxr_23 kxr_23 trivial ht hW) g.2.2.1.2.2
      · obtain ⟨h_26, x_27, ⟨h_28, rh_28⟩, hF_29⟩ := hp
        have hG_30 := cEq.frame hMr_23 go_.2.2.2.1 ma0_ ka0_ (by decide) (by decide) hG_20
        have hG_31 := tEq.frame hMr_23 go_.2.2.2.1 ma0_ ka0_ (by decide) (by decide) hG_21
        have b_32 : bd 0 39 op_ := eqX rfl bop_ h_26 (by decide)
        have g := g.more hF_29
        refine lv_aload_n hx hb dX14_opening_22 rfl (lv_at hl 0 rfl) ?_
        have hs_33 := sE_1 g 2 rfl (by have h9_0 := b_32; unfold bd at h9_0; have h9_1 := bt_; unfold bd at h9_1; have h9_2 := bx_15; unfold bd at h9_2; have h9_3 := h_28; unfold bd at h9_3; have h9_4 := h_5; unfold bd at h9_4; have h8_0 := kb_1; unfold bd at h8_0; omega)
        have go_ := g
        refine g_callEv (As := []) (rest := []) ⟨hx, hb, hml, hown, hts⟩ (r_X14_next_2 l dC dI L kd tys fr_23 H.size g.2.2.2.1 adK adV a0_ ma0_ ka0_ t_ bt_ (g.fcts [3] rfl)) (cwV 0 hts (gV_ t_2411 t_2413 t_102 t_198 t_2414) rfl rfl rfl (by decide +kernel) ⟨(Nat.le_of_ble_eq_true rfl), (Nat.le_of_ble_eq_true rfl)⟩) (pre3VA g hK hAm ma0_ ka0_ (by decide) (q := (RX14, TX14, 67)) rfl) rfl hl.1 rfl (lv_room (Nat.le_of_ble_eq_true rfl)) dX14_opening_23 ⟨(Nat.le_of_ble_eq_true rfl), (Nat.le_of_ble_eq_true rfl)⟩ g hK (by decide) (by decide) (fx' := [(14, 25, a0_, .int x_27)]) rfl (fun xr_34 fr_34 H locs mxr_34 kxr_34 hp hMr_34 g => ?_) (fun fr_34 H locs hp hMr_34 g => ?_)
        · subst hQ
          exact WX.leaves hempty hlocks (fun t ht hW => g_thrE g hK mxr_34 kxr_34 trivial ht hW) g.2.2.1.2.2
        · obtain ⟨hx_35, h_36, x_37, h_38, hF_39⟩ := hp
          obtain ⟨E_40, hE_40⟩ : ∃ E : Int, cEq fr_34 a0_ E := ⟨_, rfl⟩
          have lE_40 : (cF f0 a0_) + 1 ≤ E_40 := by have h9 := hx_35; have h8 : cF _ _ = _ := hE_40; have h7 : cF _ _ = _ := hG_30; have h6 := hs_33; have h5 := tk_c (f := fr_23) (t := a0_); omega
          have b_41 : bd 0 1200 t_ := eqX rfl bt_ h_36 (by decide)
          have g := g.more hF_39
          subst hQ
          exact W.thenQ (W.vret hx hb hr (fun t ht hW => g_retE g hK ⟨rfl, ⟨(by have h9 : cF _ _ = _ := hE_40; omega), b_41, b_32, x_37, h_38, x_27, ⟨h_28, (by have h9_0 := b_32; unfold bd at h9_0; have h9_1 := b_41; unfold bd at h9_1; have h9_2 := bx_15; unfold bd at h9_2; have h9_3 := h_28; unfold bd at h9_3; have h9_4 := h_38; unfold bd at h9_4; have h9_5 := h_5; unfold bd at h9_5; have h8_0 := kb_1; unfold bd at h8_0; omega)⟩, (g.fcts [0, 1] rfl)⟩⟩ ht hW) g.2.2.1.2.2 dX14_opening_26) (fun _ => MQ.toE)
set_option maxHeartbeats 4000000 in
set_option maxRecDepth 100000 in
theorem r_X12_fieldOf_2 (l : Launch) (dC : Nat → ClassId) (dI : Nat → Nat → Nat) (L : List Nat) (kd : Nat → Nat) (tys : List (ClassId × FieldType)) (f0 : Nat → va_E) (sz : Nat) (hWT : WT L kd tys f0) (a0_ : Nat) (ma0_ : a0_ ∈ L) (ka0_ : kd a0_ = 12) (x1_ : Int32) (bx1_ : bd 0 8 x1_) (x2_ : Int64) (x3_ : Int64) (V_ : PV) (hGVa0_ : isV f0 a0_ V_) : Met l yX12_fieldOf (.code yX12_fieldOf cX12_fieldOf 7 (some .int) :: lw_g) ({ frames := 0, cells := 0, slots := 0, locals := 0 }) (va_Pc [.ref a0_, .int x1_, .long x2_, .long x3_] (P3 (dC, dI) L tys f0 sz)) (va_Qi (fun (r : Int32) (f : Nat → va_E) => ((¬ (∃ k : Nat, (k : Int) < (V_.i 4 x1_.toNatClampNeg).toInt ∧ V_.l 6 (10 * x1_.toNatClampNeg + k) = x2_ ∧ V_.l 7 (10 * x1_.toNatClampNeg + k) = x3_)) ∧ r = (-1) ∧ True) ∨ ((r.toInt < (V_.i 4 x1_.toNatClampNeg).toInt) ∧ (∃ k : Nat, (k : Int) < (V_.i 4 x1_.toNatClampNeg).toInt ∧ V_.l 6 (10 * x1_.toNatClampNeg + k) = x2_ ∧ V_.l 7 (10 * x1_.toNatClampNeg + k) = x3_) ∧ bd 0 9 r ∧ True)) (Q3 (dC, dI) L kd tys [] [] f0 sz) (pA L sz)) 0 0 (pA L sz) := by
  refine Met.ofW (cc := cX12_fieldOf) (maxL := 7) (ret := (some .int)) (by decide) rfl ?_
  intro p e s m args below meth c s₁ B hml hv
  obtain ⟨rfl, hsz, hP, hK, hD0⟩ := hv
  have hx := B.exec
  have hb := B.bytes
  have hr := B.returns
  have hts := atoms_spec (ws := (.code yX12_fieldOf cX12_fieldOf 7 (some .int) :: lw_g)) B.pre
  have hown : s.vm.findClass RX12 = some m.cls := findClass_of_methodNamed B.named
  have hlocks := B.notSynchronized
  subst hsz
  have g : G3 (dC, dI) L kd tys s f0 [] [] f0 s.heap [] [] := G3.start hP hD0 hWT Fs.nil
  have hl := lv_entry ([.ref a0_, .int x1_, .long x2_, .long x3_]) (n := 7) (Nat.le_of_ble_eq_true rfl)
  rw [lg_entry_eq]
  generalize (lg_sl ([.ref a0_, .int x1_, .long x2_, .long x3_]) ++ List.replicate (7 - (lg_sl ([.ref a0_, .int x1_, .long x2_, .long x3_])).length) Slot.unset).toArray = ls at hl ⊢
  have hl : lv_has ls 7 [(0, .ref a0_), (1, .int x1_), (2, .long x2_), (4, .long x3_)] := hl
  refine W_q (fun Q hQ => ?_)
  refine lv_iconst (v := 0) hx hb dX12_fieldOf_0 (by decide) ?_
  refine lv_istore (lv' := [(6, .int 0), (0, .ref a0_), (1, .int x1_), (2, .long x2_), (4, .long x3_)]) hx hb dX12_fieldOf_1 hl (by decide) rfl (fun ls hl => ?_)
  have loop_1 : ∀ (n : Nat) (v3_6 : Int32), bd 0 10 v3_6 → (10 - v3_6.toInt < (n : Int)) → ∀ (f : Nat → va_E) (H : Heap) (locs : List Loc) (ls : Array Slot), G3 (dC, dI) L kd tys s f0 [] [] f H locs [] → isV f a0_ V_ → (∀ j : Nat, (j : Int) < v3_6.toInt → ¬ (fun j => V_.l 6 (10 * x1_.toNatClampNeg + j) = x2_ ∧ V_.l 7 (10 * x1_.toNatClampNeg + j) = x3_) j) → lv_has ls 7 [(6, .int v3_6), (0, .ref a0_), (1, .int x1_), (2, .long x2_), (4, .long x3_)] → W p l e ({ frames := 0, cells := 0, slots := 0, locals := 0 } : Room) s m [.ref a0_, .int x1_, .long x2_, .long x3_].toArray below meth c H locs 0 0 Q (F0 m 3 ls []) := by
    intro n3
    induction n3 with
    | zero =>
      intro v3_6 bv3_6 hm3 f H locs ls g hG3_V_a0_ hI3 hl
      exact absurd hm3 (by have h9_v3_6 := bv3_6; unfold bd at h9_v3_6; omega)
    | succ n3 ih3 =>
      intro v3_6 bv3_6 hm3 f H locs ls g hG3_V_a0_ hI3 hl
      refine lv_iload hx hb dX12_fieldOf_3 (lv_at hl 0 rfl) ?_
      refine lv_aload_n hx hb dX12_fieldOf_5 rfl (lv_at hl 1 rfl) ?_
      refine g_getr (K := 160) (C := RX12) (T := TX12) (N := 60) hx hb hts (mc_ inX12) hown hK g ma0_ ka0_ (by decide) rfl 4 (by decide) rfl (hts _ (List.mem_cons_of_mem _ t_1913)) (fun _ h9 => h9) rfl dX12_fieldOf_6 (fun a_2 ma_2 ka_2 g => ?_)
      refine lv_iload_n hx hb dX12_fieldOf_9 rfl (lv_at hl 2 rfl) ?_
      refine g_iald hx hb hK g ma_2 ka_2 (by decide) rfl (in_bd bx1_ (by decide)) dX12_fieldOf_10 (fun x_3 bx_3 cx_3 => ?_)
      have vx_3 : x_3 = V_.i 4 x1_.toNatClampNeg := hG3_V_a0_.at g 0 rfl rfl cx_3
      refine lv_icmp_ge (tgt := 58) hx hb dX12_fieldOf_11 (by decide) (fun c_4 => ?_) (fun c_4 => ?_)
      · have fc_4 := le_f c_4
        refine lv_iconst (v := (-1)) hx hb dX12_fieldOf_58 (by decide) ?_
        subst hQ
        exact W.iret (v := (-1)) hx hb hr (fun t ht hW => ⟨⟨_, _, rfl, Or.inl ⟨(fun ⟨j, h7, h9⟩ => hI3 j (Int.lt_of_lt_of_le h7 (by rw [← vx_3]; exact fc_4)) h9), rfl, trivial⟩, q3_of g hK ht hW⟩, g.2.2.1.F ht⟩) g.2.2.1.2.2 dX12_fieldOf_59
      · have fc_4 := nle_f c_4
        have b_5 : bd 0 9 v3_6 := ltL fc_4 bv3_6 bx_3 (by decide)
        have b_6 : bd 1 10 x_3 := ltR fc_4 bv3_6 bx_3 (by decide)
        refine lv_aload_n hx hb dX12_fieldOf_14 rfl (lv_at hl 1 rfl) ?_
        refine g_getr (K := 162) (C := RX12) (T := TX12) (N := 60) hx hb hts (mc_ inX12) hown hK g ma0_ ka0_ (by decide) rfl 6 (by decide) rfl (hts _ (List.mem_cons_of_mem _ t_1917)) (fun _ h9 => h9) rfl dX12_fieldOf_15 (fun a_7 ma_7 ka_7 g => ?_)
        refine lv_bipush (v := 10) hx hb dX12_fieldOf_18 (by decide) ?_
        refine lv_iload_n hx hb dX12_fieldOf_20 rfl (lv_at hl 2 rfl) ?_
        refine lv_imul hx hb dX12_fieldOf_21 ?_
        refine lv_topi (fun y_8 ey_8 => ?_)
        have ty_8 := cmul_bd ey_8 (c := 10) (by decide) bx1_ (by decide)
        have b_9 : bd 0 80 y_8 := mulc_rg ty_8 bx1_ (by decide)
        refine lv_iload hx hb dX12_fieldOf_22 (lv_at hl 0 rfl) ?_
        refine lv_iadd hx hb dX12_fieldOf_24 ?_
        refine lv_topi (fun y_10 ey_10 => ?_)
        have ty_10 := add_bd ey_10 b_9 b_5 (by decide)
        have b_11 : bd 0 89 y_10 := add_rg ty_10 b_9 b_5 (by decide)
        refine g_laldX hx hb hK g ma_7 ka_7 (by decide) rfl (in_bd b_11 (by decide)) dX12_fieldOf_25 (fun x_12 cx_12 => ?_)
        have vx_12 : x_12 = V_.l 6 y_10.toNatClampNeg := hG3_V_a0_.atL g 0 rfl rfl cx_12
        refine lv_lload_n hx hb dX12_fieldOf_26 rfl (lv_at hl 3 rfl) ?_
        refine W.lcmp hx hb dX12_fieldOf_27 ?_
        refine lv_if_ne (tgt := 52) hx hb dX12_fieldOf_28 (by decide) (fun c_13 => ?_) (fun c_13 => ?_)
        · rw [lg_cmp_eq] at c_13
          have kb_1 : bd 1 1 (1 : Int32) := ⟨by decide, by decide⟩
          obtain ⟨y_14, ey_14⟩ : ∃ z : Int32, z = v3_6 + 1 := ⟨_, rfl⟩
          refine lv_iinc (v := y_14) (lv' := [(6, .int y_14), (0, .ref a0_), (1, .int x1_), (2, .long x2_), (4, .long x3_)]) hx hb dX12_fieldOf_52 hl (k := 0) rfl (by rw [ey_14]; rfl) (by decide) rfl (fun ls hl => ?_)
          have ty_14 := add_bd ey_14 b_5 kb_1 (by decide)
          have b_15 : bd 1 10 y_14 := add_rg ty_14 b_5 kb_1 (by decide)
          refine lv_goto (tgt := 3) hx hb dX12_fieldOf_55 (by decide) ?_
          have hl9 := lv_sub hl [0, 1, 2, 3, 4] (by rfl : lv_pick [(6, .int y_14), (0, .ref a0_), (1, .int x1_), (2, .long x2_), (4, .long x3_)] [0, 1, 2, 3, 4] = [(6, .int y_14), (0, .ref a0_), (1, .int x1_), (2, .long x2_), (4, .long x3_)])
          have g9 := g.sub (fx' := []) [] rfl
          exact ih3  y_14 (bd_sub b_15 (by decide)) (by have h9_0 := b_15; unfold bd at h9_0; have h9_1 := bv3_6; unfold bd at h9_1; have h9_2 := kb_1; unfold bd at h9_2; omega) _ _ _ _ g9 hG3_V_a0_ (nf_s (P := fun j => V_.l 6 (10 * x1_.toNatClampNeg + j) = x2_ ∧ V_.l 7 (10 * x1_.toNatClampNeg + j) = x3_) hI3 b_5.1 (by have h9_0 := b_5; unfold bd at h9_0; have h9_1 := bx1_; unfold bd at h9_1; have h9_2 := b_6; unfold bd at h9_2; have h9_3 := b_11; unfold bd at h9_3; have h9_4 := b_15; unfold bd at h9_4; have h9_5 := b_9; unfold bd at h9_5; have h8_0 := kb_1; unfold bd at h8_0; omega) (fun h9 => c_13 (vx_12.trans ((congrArg (V_.l 6) (ix10 bx1_.1 b_5.1 (by have h9_0 := b_5; unfold bd at h9_0; have h9_1 := bx1_; unfold bd at h9_1; have h9_2 := b_6; unfold bd at h9_2; have h9_3 := b_11; unfold bd at h9_3; have h9_4 := b_15; unfold bd at h9_4; have h9_5 := b_9; unfold bd at h9_5; have h8_0 := kb_1; unfold bd at h8_0; omega))).trans h9.1)))) hl9
        · rw [lg_cmp_eq] at c_13
          refine lv_aload_n hx hb dX12_fieldOf_31 rfl (lv_at hl 1 rfl) ?_
          refine g_getr (K := 163) (C := RX12) (T := TX12) (N := 60) hx hb hts (mc_ inX12) hown hK g ma0_ ka0_ (by decide) rfl 7 (by decide) rfl (hts _ (List.mem_cons_of_mem _ t_1919)) (fun _ h9 => h9) rfl dX12_fieldOf_32 (fun a_16 ma_16 ka_16 g => ?_)
          refine lv_bipush (v := 10) hx hb dX12_fieldOf_35 (by decide) ?_
          refine lv_iload_n hx hb dX12_fieldOf_37 rfl (lv_at hl 2 rfl) ?_
          refine lv_imul hx hb dX12_fieldOf_38 ?_
          refine lv_topi (fun y_17 ey_17 => ?_)
          obtain rfl : y_8 = y_17 := ey_8.trans ey_17.symm
          refine lv_iload hx hb dX12_fieldOf_39 (lv_at hl 0 rfl) ?_
          refine lv_iadd hx hb dX12_fieldOf_41 ?_
          refine lv_topi (fun y_18 ey_18 => ?_)
          obtain rfl : y_10 = y_18 := ey_10.trans ey_18.symm
          refine g_laldX hx hb hK g ma_16 ka_16 (by decide) rfl (in_bd b_11 (by decide)) dX12_fieldOf_42 (fun x_19 cx_19 => ?_)
          have vx_19 : x_19 = V_.l 7 y_10.toNatClampNeg := hG3_V_a0_.atL g 0 rfl rfl cx_19
          refine lv_lload hx hb dX12_fieldOf_43 (lv_at hl 4 rfl) ?_
          refine W.lcmp hx hb dX12_fieldOf_45 ?_
          refine lv_if_ne (tgt := 52) hx hb dX12_fieldOf_46 (by decide) (fun c_20 => ?_) (fun c_20 => ?_)
          · rw [lg_cmp_eq] at c_20
            have kb_1 : bd 1 1 (1 : Int32) := ⟨by decide, by decide⟩
            obtain ⟨y_21, ey_21⟩ : ∃ z : Int32, z = v3_6 + 1 := ⟨_, rfl⟩
            refine lv_iinc (v := y_21) (lv' := [(6, .int y_21), (0, .ref a0_), (1, .int x1_), (2, .long x2_), (4, .long x3_)]) hx hb dX12_fieldOf_52 hl (k := 0) rfl (by rw [ey_21]; rfl) (by decide) rfl (fun ls hl => ?_)
            have ty_21 := add_bd ey_21 b_5 kb_1 (by decide)
            have b_22 : bd 1 10 y_21 := add_rg ty_21 b_5 kb_1 (by decide)
            refine lv_goto (tgt := 3) hx hb dX12_fieldOf_55 (by decide) ?_
            have hl9 := lv_sub hl [0, 1, 2, 3, 4] (by rfl : lv_pick [(6, .int y_21), (0, .ref a0_), (1, .int x1_), (2, .long x2_), (4, .long x3_)] [0, 1, 2, 3, 4] = [(6, .int y_21), (0, .ref a0_), (1, .int x1_), (2, .long x2_), (4, .long x3_)])
            have g9 := g.sub (fx' := []) [] rfl
            exact ih3  y_21 (bd_sub b_22 (by decide)) (by have h9_0 := b_22; unfold bd at h9_0; have h9_1 := bv3_6; unfold bd at h9_1; have h9_2 := kb_1; unfold bd at h9_2; omega) _ _ _ _ g9 hG3_V_a0_ (nf_s (P := fun j => V_.l 6 (10 * x1_.toNatClampNeg + j) = x2_ ∧ V_.l 7 (10 * x1_.toNatClampNeg + j) = x3_) hI3 b_5.1 (by have h9_0 := b_5; unfold bd at h9_0; have h9_1 := bx1_; unfold bd at h9_1; have h9_2 := b_6; unfold bd at h9_2; have h9_3 := b_11; unfold bd at h9_3; have h9_4 := b_22; unfold bd at h9_4; have h9_5 := b_9; unfold bd at h9_5; have h8_0 := kb_1; unfold bd at h8_0; omega) (fun h9 => c_20 (vx_19.trans ((congrArg (V_.l 7) (ix10 bx1_.1 b_5.1 (by have h9_0 := b_5; unfold bd at h9_0; have h9_1 := bx1_; unfold bd at h9_1; have h9_2 := b_6; unfold bd at h9_2; have h9_3 := b_11; unfold bd at h9_3; have h9_4 := b_22; unfold bd at h9_4; have h9_5 := b_9; unfold bd at h9_5; have h8_0 := kb_1; unfold bd at h8_0; omega))).trans h9.2)))) hl9
          · rw [lg_cmp_eq] at c_20
            refine lv_iload hx hb dX12_fieldOf_49 (lv_at hl 0 rfl) ?_
            have hl_23 : v3_6.toInt < (V_.i 4 x1_.toNatClampNeg).toInt := by rw [← vx_3]; exact fc_4
            subst hQ
            exact W.iret (v := v3_6) hx hb hr (fun t ht hW => ⟨⟨_, _, rfl, Or.inr (⟨hl_23, ⟨v3_6.toNatClampNeg, (by rw [tnZ b_5.1]; exact hl_23), ⟨((congrArg (V_.l 6) (ix10 bx1_.1 b_5.1 (by have h9_0 := b_5; unfold bd at h9_0; have h9_1 := bx1_; unfold bd at h9_1; have h9_2 := b_6; unfold bd at h9_2; have h9_3 := b_11; unfold bd at h9_3; have h9_4 := b_9; unfold bd at h9_4; omega))).symm.trans (vx_12.symm.trans c_13)), ((congrArg (V_.l 7) (ix10 bx1_.1 b_5.1 (by have h9_0 := b_5; unfold bd at h9_0; have h9_1 := bx1_; unfold bd at h9_1; have h9_2 := b_6; unfold bd at h9_2; have h9_3 := b_11; unfold bd at h9_3; have h9_4 := b_9; unfold bd at h9_4; omega))).symm.trans (vx_19.symm.trans c_20))⟩⟩, b_5, trivial⟩), q3_of g hK ht hW⟩, g.2.2.1.F ht⟩) g.2.2.1.2.2 dX12_fieldOf_51
  have kb_0 : bd 0 0 (0 : Int32) := ⟨by decide, by decide⟩
  have hl9 := lv_sub hl [0, 1, 2, 3, 4] (by rfl : lv_pick [(6, .int 0), (0, .ref a0_), (1, .int x1_), (2, .long x2_), (4, .long x3_)] [0, 1, 2, 3, 4] = [(6, .int 0), (0, .ref a0_), (1, .int x1_), (2, .long x2_), (4, .long x3_)])
  have g9 := g.sub (fx' := []) [] rfl
  exact loop_1 (23) 0 (bd_sub kb_0 (by decide)) (by have h9_0 := kb_0; unfold bd at h9_0; omega) _ _ _ _ g9 hGVa0_ (fun j h9 => absurd h9 (by have h8 : (0 : Int32).toInt = 0 := (by decide); omega)) hl9
set_option maxHeartbeats 4000000 in
set_option maxRecDepth 100000 in
theorem r_X14_named_2 (l : Launch) (dC : Nat → ClassId) (dI : Nat → Nat → Nat) (L : List Nat) (kd : Nat → Nat) (tys : List (ClassId × FieldType)) (f0 : Nat → va_E) (sz : Nat) (hWT : WT L kd tys f0) (a0_ : Nat) (ma0_ : a0_ ∈ L) (ka0_ : kd a0_ = 14) (x1_ : Int64) (x2_ : Int64) (q0_ : Nat) (mq0_ : q0_ ∈ L) (kq0_ : kd q0_ = 12) (o_ : Int32) (bo_ : bd 0 7 o_) (V_ : PV) (N_ : NVt) (hGNa0_ : isN f0 a0_ N_) (hGVq0_ : isV f0 q0_ V_) (hfx : Fs L kd f0 [(14, 2, a0_, .ref q0_), (14, 16, a0_, .int o_)]) : Met l yX14_named (.code yX14_named cX14_named 6 (some .int) :: lw_g) ({ frames := 1, cells := 0, slots := 0, locals := 26 }) (va_Pc [.ref a0_, .long x1_, .long x2_] (P3 (dC, dI) L tys f0 sz)) (va_Qi (fun (r : Int32) (f : Nat → va_E) => ((r.toInt = -1 ∧ ¬ nmd N_ V_ o_.toNatClampNeg x1_ x2_ ∨ varOK V_ r o_.toNatClampNeg ∧ nmd N_ V_ o_.toNatClampNeg x1_ x2_) ∧ True)) (Q3 (dC, dI) L kd tys [] [] f0 sz) (pA L sz)) 0 0 (pA L sz) := by
  refine Met.ofW (cc := cX14_named) (maxL := 6) (ret := (some .int)) (by decide) rfl ?_
  intro p e s m args below meth c s₁ B hml hv
  obtain ⟨rfl, hsz, hP, hK, hD0⟩ := hv
  have hx := B.exec
  have hb := B.bytes
  have hr := B.returns
  have hts := atoms_spec (ws := (.code yX14_named cX14_named 6 (some .int) :: lw_g)) B.pre
  have hown : s.vm.findClass RX14 = some m.cls := findClass_of_methodNamed B.named
  have hlocks := B.notSynchronized
  subst hsz
  have g : G3 (dC, dI) L kd tys s f0 [] [] f0 s.heap [] [(14, 2, a0_, .ref q0_), (14, 16, a0_, .int o_)] := G3.start hP hD0 hWT hfx
  have hl := lv_entry ([.ref a0_, .long x1_, .long x2_]) (n := 6) (Nat.le_of_ble_eq_true rfl)
  rw [lg_entry_eq]
  generalize (lg_sl ([.ref a0_, .long x1_, .long x2_]) ++ List.replicate (6 - (lg_sl ([.ref a0_, .long x1_, .long x2_])).length) Slot.unset).toArray = ls at hl ⊢
  have hl : lv_has ls 6 [(0, .ref a0_), (1, .long x1_), (3, .long x2_)] := hl
  refine W_q (fun Q hQ => ?_)
  refine lv_aload_n hx hb dX14_named_0 rfl (lv_at hl 0 rfl) ?_
  refine g_geti (C := RX14) (T := TX14) (N := 67) hx hb hts (mc_ inX14) hown hK g ma0_ ka0_ (by decide) rfl 24 (by decide) rfl (hts _ (List.mem_cons_of_mem _ t_2170)) (fun _ h9 => h9) rfl dX14_named_1 (fun x_1 bx_1 g => ?_)
  have hn_2 := isN.kept hGNa0_ g 0 rfl
  have kb_0 : bd 0 0 (0 : Int32) := ⟨by decide, by decide⟩
  refine lv_if_ne (tgt := 84) hx hb dX14_named_4 (by decide) (fun c_3 => ?_) (fun c_3 => ?_)
  · have fc_3 := neq_f c_3
    have b_4 : bd 1 1 x_1 := neX fc_3 bx_1 kb_0 (by decide)
    refine lv_aload_n hx hb dX14_named_84 rfl (lv_at hl 0 rfl) ?_
    refine g_getk (C := RX14) (T := TX14) (N := 67) hx hb hts (mc_ inX14) hown hK g rfl 2 (by decide) rfl (hts _ (List.mem_cons_of_mem _ t_2148)) (fun _ h9 => h9) 1 rfl dX14_named_85 ?_
    refine lv_aload_n hx hb dX14_named_88 rfl (lv_at hl 0 rfl) ?_
    refine g_getk (C := RX14) (T := TX14) (N := 67) hx hb hts (mc_ inX14) hown hK g rfl 16 (by decide) rfl (hts _ (List.mem_cons_of_mem _ t_2162)) (fun _ h9 => h9) 2 rfl dX14_named_89 ?_
    refine lv_lload_n hx hb dX14_named_92 rfl (lv_at hl 1 rfl) ?_
    refine lv_lload_n hx hb dX14_named_93 rfl (lv_at hl 2 rfl) ?_
    have go_ := g
    refine g_calli (va_runV (As := [.int o_, .long x1_, .long x2_]) (rest := []) ⟨hx, hb, hml, hown, hts⟩ (r_X12_fieldOf_2 l dC dI L kd tys f0 s.heap.size g.2.2.2.1 q0_ mq0_ kq0_ o_ (bd_sub bo_ (by decide)) x1_ x2_ V_ hGVq0_) (cwV 3 hts (gV_ t_2443 t_2444 t_2445 t_203 t_2446) rfl rfl rfl (by decide +kernel) ⟨(Nat.le_of_ble_eq_true rfl), (Nat.le_of_ble_eq_true rfl)⟩) (pre3V g hK mq0_ kq0_ (by decide) (q := (RX12, TX12, 60)) rfl) rfl rfl hl.1 rfl (lv_room (Nat.le_of_ble_eq_true rfl)) dX14_named_94 ⟨(Nat.le_of_ble_eq_true rfl), (Nat.le_of_ble_eq_true rfl)⟩) g hK (by decide) (by decide) (fx' := [(14, 24, a0_, .int x_1), (14, 2, a0_, .ref q0_), (14, 16, a0_, .int o_)]) rfl (fun r_5 fr_5 H locs hp hMr_5 g => ?_)
    rcases hp with ⟨hx_6, h_7, -⟩ | ⟨hx_8, hx_9, h_10, -⟩
    · have hG_11 := isN.frame hMr_5 go_.2.2.2.1 ma0_ ka0_ (by decide) (by decide) hGNa0_
      have hG_12 := isV.frame hMr_5 go_.2.2.2.1 mq0_ kq0_ (by decide) (by decide) hGVq0_
      obtain rfl : r_5 = (-1) := h_7
      subst hQ
      exact W.iret (v := (-1)) hx hb hr (fun t ht hW => ⟨⟨_, _, rfl, ⟨(Or.inl ⟨(by decide), (fun h9 => h9.elim (fun h8 => absurd h8.1 (by rw [← hn_2]; have h9_0 := bo_; unfold bd at h9_0; have h9_1 := b_4; unfold bd at h9_1; have h8_0 := kb_0; unfold bd at h8_0; omega)) hx_6)⟩), trivial⟩, q3_of g hK ht hW⟩, g.2.2.1.F ht⟩) g.2.2.1.2.2 dX14_named_97
    · have hG_13 := isN.frame hMr_5 go_.2.2.2.1 ma0_ ka0_ (by decide) (by decide) hGNa0_
      have hG_14 := isV.frame hMr_5 go_.2.2.2.1 mq0_ kq0_ (by decide) (by decide) hGVq0_
      subst hQ
      exact W.iret (v := r_5) hx hb hr (fun t ht hW => ⟨⟨_, _, rfl, ⟨(Or.inr ⟨(Or.inl ⟨h_10.1, (by have h9 := h_10.2; omega), hx_8⟩), Or.inr hx_9⟩), trivial⟩, q3_of g hK ht hW⟩, g.2.2.1.F ht⟩) g.2.2.1.2.2 dX14_named_97
  · have fc_3 := eq_f c_3
    have b_15 : bd 0 0 x_1 := eqX fc_3 bx_1 kb_0 (by decide)
    refine lv_iconst (v := 0) hx hb dX14_named_7 (by decide) ?_
    refine lv_istore (lv' := [(5, .int 0), (0, .ref a0_), (1, .long x1_), (3, .long x2_)]) hx hb dX14_named_8 hl (by decide) rfl (fun ls hl => ?_)
    have loop_16 : ∀ (n : Nat) (v10_5 : Int32), bd 0 11 v10_5 → (11 - v10_5.toInt < (n : Int)) → ∀ (f : Nat → va_E) (H : Heap) (locs : List Loc) (ls : Array Slot), G3 (dC, dI) L kd tys s f0 [] [] f H locs [(14, 24, a0_, .int x_1), (14, 2, a0_, .ref q0_), (14, 16, a0_, .int o_)] → isN f a0_ N_ → isV f q0_ V_ → (∀ j : Nat, (j : Int) < v10_5.toInt → ¬ (fun j => N_.1 j = x1_ ∧ N_.2.1 j = x2_) j) → lv_has ls 6 [(5, .int v10_5), (0, .ref a0_), (1, .long x1_), (3, .long x2_)] → W p l e ({ frames := 1, cells := 0, slots := 0, locals := 26 } : Room) s m [.ref a0_, .long x1_, .long x2_].toArray below meth c H locs 0 0 Q (F0 m 10 ls []) := by
      intro n10
      induction n10 with
      | zero =>
        intro v10_5 bv10_5 hm10 f H locs ls g hG10_N_a0_ hG10_V_q0_ hI10 hl
        exact absurd hm10 (by have h9_v10_5 := bv10_5; unfold bd at h9_v10_5; omega)
      | succ n10 ih10 =>
        intro v10_5 bv10_5 hm10 f H locs ls g hG10_N_a0_ hG10_V_q0_ hI10 hl
        refine lv_iload hx hb dX14_named_10 (lv_at hl 0 rfl) ?_
        refine lv_aload_n hx hb dX14_named_12 rfl (lv_at hl 1 rfl) ?_
        refine g_geti (C := RX14) (T := TX14) (N := 67) hx hb hts (mc_ inX14) hown hK g ma0_ ka0_ (by decide) rfl 20 (by decide) rfl (hts _ (List.mem_cons_of_mem _ t_2166)) (fun _ h9 => h9) rfl dX14_named_13 (fun x_17 bx_17 g => ?_)
        have hn_18 := isN.par hG10_N_a0_ g 0 rfl
        refine lv_aload_n hx hb dX14_named_16 rfl (lv_at hl 1 rfl) ?_
        refine g_geti (C := RX14) (T := TX14) (N := 67) hx hb hts (mc_ inX14) hown hK g ma0_ ka0_ (by decide) rfl 21 (by decide) rfl (hts _ (List.mem_cons_of_mem _ t_2167)) (fun _ h9 => h9) rfl dX14_named_17 (fun x_19 bx_19 g => ?_)
        have hn_20 := isN.loc hG10_N_a0_ g 0 rfl
        refine lv_iadd hx hb dX14_named_20 ?_
        refine lv_topi (fun y_21 ey_21 => ?_)
        have ty_21 := add_bd ey_21 bx_17 bx_19 (by decide)
        have b_22 : bd 0 11 y_21 := add_rg ty_21 bx_17 bx_19 (by decide)
        refine lv_icmp_ge (tgt := 84) hx hb dX14_named_21 (by decide) (fun c_23 => ?_) (fun c_23 => ?_)
        · have fc_23 := le_f c_23
          refine lv_aload_n hx hb dX14_named_84 rfl (lv_at hl 1 rfl) ?_
          refine g_getk (C := RX14) (T := TX14) (N := 67) hx hb hts (mc_ inX14) hown hK g rfl 2 (by decide) rfl (hts _ (List.mem_cons_of_mem _ t_2148)) (fun _ h9 => h9) 3 rfl dX14_named_85 ?_
          refine lv_aload_n hx hb dX14_named_88 rfl (lv_at hl 1 rfl) ?_
          refine g_getk (C := RX14) (T := TX14) (N := 67) hx hb hts (mc_ inX14) hown hK g rfl 16 (by decide) rfl (hts _ (List.mem_cons_of_mem _ t_2162)) (fun _ h9 => h9) 4 rfl dX14_named_89 ?_
          refine lv_lload_n hx hb dX14_named_92 rfl (lv_at hl 2 rfl) ?_
          refine lv_lload_n hx hb dX14_named_93 rfl (lv_at hl 3 rfl) ?_
          have go_ := g
          refine g_calli (va_runV (As := [.int o_, .long x1_, .long x2_]) (rest := []) ⟨hx, hb, hml, hown, hts⟩ (r_X12_fieldOf_2 l dC dI L kd tys f H.size g.2.2.2.1 q0_ mq0_ kq0_ o_ (bd_sub bo_ (by decide)) x1_ x2_ V_ hG10_V_q0_) (cwV 3 hts (gV_ t_2443 t_2444 t_2445 t_203 t_2446) rfl rfl rfl (by decide +kernel) ⟨(Nat.le_of_ble_eq_true rfl), (Nat.le_of_ble_eq_true rfl)⟩) (pre3V g hK mq0_ kq0_ (by decide) (q := (RX12, TX12, 60)) rfl) rfl rfl hl.1 rfl (lv_room (Nat.le_of_ble_eq_true rfl)) dX14_named_94 ⟨(Nat.le_of_ble_eq_true rfl), (Nat.le_of_ble_eq_true rfl)⟩) g hK (by decide) (by decide) (fx' := [(14, 21, a0_, .int x_19), (14, 20, a0_, .int x_17), (14, 24, a0_, .int x_1), (14, 2, a0_, .ref q0_), (14, 16, a0_, .int o_)]) rfl (fun r_24 fr_24 H locs hp hMr_24 g => ?_)
          rcases hp with ⟨hx_25, h_26, -⟩ | ⟨hx_27, hx_28, h_29, -⟩
          · have hG_30 := isN.frame hMr_24 go_.2.2.2.1 ma0_ ka0_ (by decide) (by decide) hG10_N_a0_
            have hG_31 := isV.frame hMr_24 go_.2.2.2.1 mq0_ kq0_ (by decide) (by decide) hG10_V_q0_
            obtain rfl : r_24 = (-1) := h_26
            subst hQ
            exact W.iret (v := (-1)) hx hb hr (fun t ht hW => ⟨⟨_, _, rfl, ⟨(Or.inl ⟨(by decide), (fun h9 => h9.elim (fun ⟨h7, j, h8, h9⟩ => hI10 j (by rw [← hn_18, ← hn_20] at h8; have h9_0 := bo_; unfold bd at h9_0; have h9_1 := bv10_5; unfold bd at h9_1; have h9_2 := b_15; unfold bd at h9_2; have h9_3 := bx_17; unfold bd at h9_3; have h9_4 := bx_19; unfold bd at h9_4; have h9_5 := b_22; unfold bd at h9_5; have h8_0 := kb_0; unfold bd at h8_0; omega) h9) hx_25)⟩), trivial⟩, q3_of g hK ht hW⟩, g.2.2.1.F ht⟩) g.2.2.1.2.2 dX14_named_97
          · have hG_32 := isN.frame hMr_24 go_.2.2.2.1 ma0_ ka0_ (by decide) (by decide) hG10_N_a0_
            have hG_33 := isV.frame hMr_24 go_.2.2.2.1 mq0_ kq0_ (by decide) (by decide) hG10_V_q0_
            subst hQ
            exact W.iret (v := r_24) hx hb hr (fun t ht hW => ⟨⟨_, _, rfl, ⟨(Or.inr ⟨(Or.inl ⟨h_29.1, (by have h9 := h_29.2; omega), hx_27⟩), Or.inr hx_28⟩), trivial⟩, q3_of g hK ht hW⟩, g.2.2.1.F ht⟩) g.2.2.1.2.2 dX14_named_97
        · have fc_23 := nle_f c_23
          have b_34 : bd 0 10 v10_5 := ltL fc_23 bv10_5 b_22 (by decide)
          have b_35 : bd 1 11 y_21 := ltR fc_23 bv10_5 b_22 (by decide)
          refine lv_aload_n hx hb dX14_named_24 rfl (lv_at hl 1 rfl) ?_
          refine g_getr (K := 213) (C := RX14) (T := TX14) (N := 67) hx hb hts (mc_ inX14) hown hK g ma0_ ka0_ (by decide) rfl 18 (by decide) rfl (hts _ (List.mem_cons_of_mem _ t_2164)) (fun _ h9 => h9) rfl dX14_named_25 (fun a_36 ma_36 ka_36 g => ?_)
          refine lv_iload hx hb dX14_named_28 (lv_at hl 0 rfl) ?_
          refine g_laldX hx hb hK g ma_36 ka_36 (by decide) rfl (in_bd b_34 (by decide)) dX14_named_30 (fun x_37 cx_37 => ?_)
          have vx_37 : x_37 = N_.1 v10_5.toNatClampNeg := isN.la hG10_N_a0_ g 0 rfl cx_37
          refine lv_lload_n hx hb dX14_named_31 rfl (lv_at hl 2 rfl) ?_
          refine W.lcmp hx hb dX14_named_32 ?_
          refine lv_if_ne (tgt := 78) hx hb dX14_named_33 (by decide) (fun c_38 => ?_) (fun c_38 => ?_)
          · rw [lg_cmp_eq] at c_38
            have kb_1 : bd 1 1 (1 : Int32) := ⟨by decide, by decide⟩
            obtain ⟨y_39, ey_39⟩ : ∃ z : Int32, z = v10_5 + 1 := ⟨_, rfl⟩
            refine lv_iinc (v := y_39) (lv' := [(5, .int y_39), (0, .ref a0_), (1, .long x1_), (3, .long x2_)]) hx hb dX14_named_78 hl (k := 0) rfl (by rw [ey_39]; rfl) (by decide) rfl (fun ls hl => ?_)
            have ty_39 := add_bd ey_39 b_34 kb_1 (by decide)
            have b_40 : bd 1 11 y_39 := add_rg ty_39 b_34 kb_1 (by decide)
            refine lv_goto (tgt := 10) hx hb dX14_named_81 (by decide) ?_
            have hl9 := lv_sub hl [0, 1, 2, 3] (by rfl : lv_pick [(5, .int y_39), (0, .ref a0_), (1, .long x1_), (3, .long x2_)] [0, 1, 2, 3] = [(5, .int y_39), (0, .ref a0_), (1, .long x1_), (3, .long x2_)])
            have g9 := g.sub (fx' := [(14, 24, a0_, .int x_1), (14, 2, a0_, .ref q0_), (14, 16, a0_, .int o_)]) [3, 4, 5] rfl
            exact ih10  y_39 (bd_sub b_40 (by decide)) (by have h9_0 := b_40; unfold bd at h9_0; have h9_1 := bv10_5; unfold bd at h9_1; have h9_2 := kb_0; unfold bd at h9_2; have h9_3 := kb_1; unfold bd at h9_3; omega) _ _ _ _ g9 hG10_N_a0_ hG10_V_q0_ (nf_s (P := fun j => N_.1 j = x1_ ∧ N_.2.1 j = x2_) hI10 b_34.1 (by have h9_0 := bo_; unfold bd at h9_0; have h9_1 := b_34; unfold bd at h9_1; have h9_2 := b_15; unfold bd at h9_2; have h9_3 := bx_17; unfold bd at h9_3; have h9_4 := bx_19; unfold bd at h9_4; have h9_5 := b_35; unfold bd at h9_5; have h9_6 := b_40; unfold bd at h9_6; have h8_0 := kb_0; unfold bd at h8_0; have h8_1 := kb_1; unfold bd at h8_1; omega) (fun h9 => c_38 (vx_37.trans h9.1))) hl9
          · rw [lg_cmp_eq] at c_38
            refine lv_aload_n hx hb dX14_named_36 rfl (lv_at hl 1 rfl) ?_
            refine g_getr (K := 214) (C := RX14) (T := TX14) (N := 67) hx hb hts (mc_ inX14) hown hK g ma0_ ka0_ (by decide) rfl 19 (by decide) rfl (hts _ (List.mem_cons_of_mem _ t_2165)) (fun _ h9 => h9) rfl dX14_named_37 (fun a_41 ma_41 ka_41 g => ?_)
            refine lv_iload hx hb dX14_named_40 (lv_at hl 0 rfl) ?_
            refine g_laldX hx hb hK g ma_41 ka_41 (by decide) rfl (in_bd b_34 (by decide)) dX14_named_42 (fun x_42 cx_42 => ?_)
            have vx_42 : x_42 = N_.2.1 v10_5.toNatClampNeg := isN.lb hG10_N_a0_ g 0 rfl cx_42
            refine lv_lload_n hx hb dX14_named_43 rfl (lv_at hl 3 rfl) ?_
            refine W.lcmp hx hb dX14_named_44 ?_
            refine lv_if_ne (tgt := 78) hx hb dX14_named_45 (by decide) (fun c_43 => ?_) (fun c_43 => ?_)
            · rw [lg_cmp_eq] at c_43
              have kb_1 : bd 1 1 (1 : Int32) := ⟨by decide, by decide⟩
              obtain ⟨y_44, ey_44⟩ : ∃ z : Int32, z = v10_5 + 1 := ⟨_, rfl⟩
              refine lv_iinc (v := y_44) (lv' := [(5, .int y_44), (0, .ref a0_), (1, .long x1_), (3, .long x2_)]) hx hb dX14_named_78 hl (k := 0) rfl (by rw [ey_44]; rfl) (by decide) rfl (fun ls hl => ?_)
              have ty_44 := add_bd ey_44 b_34 kb_1 (by decide)
              have b_45 : bd 1 11 y_44 := add_rg ty_44 b_34 kb_1 (by decide)
              refine lv_goto (tgt := 10) hx hb dX14_named_81 (by decide) ?_
              have hl9 := lv_sub hl [0, 1, 2, 3] (by rfl : lv_pick [(5, .int y_44), (0, .ref a0_), (1, .long x1_), (3, .long x2_)] [0, 1, 2, 3] = [(5, .int y_44), (0, .ref a0_), (1, .long x1_), (3, .long x2_)])
              have g9 := g.sub (fx' := [(14, 24, a0_, .int x_1), (14, 2, a0_, .ref q0_), (14, 16, a0_, .int o_)]) [4, 5, 6] rfl
              exact ih10  y_44 (bd_sub b_45 (by decide)) (by have h9_0 := b_45; unfold bd at h9_0; have h9_1 := bv10_5; unfold bd at h9_1; have h9_2 := kb_0; unfold bd at h9_2; have h9_3 := kb_1; unfold bd at h9_3; omega) _ _ _ _ g9 hG10_N_a0_ hG10_V_q0_ (nf_s (P := fun j => N_.1 j = x1_ ∧ N_.2.1 j = x2_) hI10 b_34.1 (by have h9_0 := bo_; unfold bd at h9_0; have h9_1 := b_34; unfold bd at h9_1; have h9_2 := b_15; unfold bd at h9_2; have h9_3 := bx_17; unfold bd at h9_3; have h9_4 := bx_19; unfold bd at h9_4; have h9_5 := b_35; unfold bd at h9_5; have h9_6 := b_45; unfold bd at h9_6; have h8_0 := kb_0; unfold bd at h8_0; have h8_1 := kb_1; unfold bd at h8_1; omega) (fun h9 => c_43 (vx_42.trans h9.2))) hl9
            · rw [lg_cmp_eq] at c_43
              refine lv_iload hx hb dX14_named_48 (lv_at hl 0 rfl) ?_
              refine lv_aload_n hx hb dX14_named_50 rfl (lv_at hl 1 rfl) ?_
              refine g_getk (C := RX14) (T := TX14) (N := 67) hx hb hts (mc_ inX14) hown hK g rfl 20 (by decide) rfl (hts _ (List.mem_cons_of_mem _ t_2166)) (fun _ h9 => h9) 3 rfl dX14_named_51 ?_
              refine lv_icmp_ge (tgt := 66) hx hb dX14_named_54 (by decide) (fun c_46 => ?_) (fun c_46 => ?_)
              · have fc_46 := le_f c_46
                refine lv_sipush (v := 2000) hx hb dX14_named_66 (by decide) ?_
                refine lv_iload hx hb dX14_named_69 (lv_at hl 0 rfl) ?_
                have kb_2000 : bd 2000 2000 (2000 : Int32) := ⟨by decide, by decide⟩
                refine lv_iadd hx hb dX14_named_71 ?_
                refine lv_topi (fun y_47 ey_47 => ?_)
                have ty_47 := add_bd ey_47 kb_2000 b_34 (by decide)
                have b_48 : bd 2000 2010 y_47 := add_rg ty_47 kb_2000 b_34 (by decide)
                refine lv_aload_n hx hb dX14_named_72 rfl (lv_at hl 1 rfl) ?_
                refine g_getk (C := RX14) (T := TX14) (N := 67) hx hb hts (mc_ inX14) hown hK g rfl 20 (by decide) rfl (hts _ (List.mem_cons_of_mem _ t_2166)) (fun _ h9 => h9) 3 rfl dX14_named_73 ?_
                refine lv_isub hx hb dX14_named_76 ?_
                refine lv_topi (fun y_49 ey_49 => ?_)
                have ty_49 := sub_bd ey_49 b_48 bx_17 (by decide)
                have b_50 : bd 1997 2010 y_49 := sub_rg ty_49 b_48 bx_17 (by decide)
                have hl_51 : nmd N_ V_ o_.toNatClampNeg x1_ x2_ := Or.inl ⟨(by rw [← hn_2]; have h9_0 := bo_; unfold bd at h9_0; have h9_1 := b_34; unfold bd at h9_1; have h9_2 := b_15; unfold bd at h9_2; have h9_3 := bx_17; unfold bd at h9_3; have h9_4 := bx_19; unfold bd at h9_4; have h9_5 := b_35; unfold bd at h9_5; have h9_6 := b_48; unfold bd at h9_6; have h9_7 := b_50; unfold bd at h9_7; have h8_0 := kb_0; unfold bd at h8_0; have h8_1 := kb_2000; unfold bd at h8_1; omega), v10_5.toNatClampNeg, (by rw [tnZ b_34.1, ← hn_18, ← hn_20]; have h9_0 := bo_; unfold bd at h9_0; have h9_1 := b_34; unfold bd at h9_1; have h9_2 := b_15; unfold bd at h9_2; have h9_3 := bx_17; unfold bd at h9_3; have h9_4 := bx_19; unfold bd at h9_4; have h9_5 := b_35; unfold bd at h9_5; have h9_6 := b_48; unfold bd at h9_6; have h9_7 := b_50; unfold bd at h9_7; have h8_0 := kb_0; unfold bd at h8_0; have h8_1 := kb_2000; unfold bd at h8_1; omega), ⟨(vx_37.symm.trans c_38), (vx_42.symm.trans c_43)⟩⟩
                subst hQ
                exact W.iret (v := y_49) hx hb hr (fun t ht hW => ⟨⟨_, _, rfl, ⟨(Or.inr ⟨(Or.inr (Or.inr ⟨(by have h9_0 := bo_; unfold bd at h9_0; have h9_1 := b_34; unfold bd at h9_1; have h9_2 := b_15; unfold bd at h9_2; have h9_3 := bx_17; unfold bd at h9_3; have h9_4 := bx_19; unfold bd at h9_4; have h9_5 := b_35; unfold bd at h9_5; have h9_6 := b_48; unfold bd at h9_6; have h9_7 := b_50; unfold bd at h9_7; have h8_0 := kb_0; unfold bd at h8_0; have h8_1 := kb_2000; unfold bd at h8_1; omega), (by have h9_0 := bo_; unfold bd at h9_0; have h9_1 := b_34; unfold bd at h9_1; have h9_2 := b_15; unfold bd at h9_2; have h9_3 := bx_17; unfold bd at h9_3; have h9_4 := bx_19; unfold bd at h9_4; have h9_5 := b_35; unfold bd at h9_5; have h9_6 := b_48; unfold bd at h9_6; have h9_7 := b_50; unfold bd at h9_7; have h8_0 := kb_0; unfold bd at h8_0; have h8_1 := kb_2000; unfold bd at h8_1; omega)⟩)), hl_51⟩), trivial⟩, q3_of g hK ht hW⟩, g.2.2.1.F ht⟩) g.2.2.1.2.2 dX14_named_77
              · have fc_46 := nle_f c_46
                have b_52 : bd 0 2 v10_5 := ltL fc_46 b_34 bx_17 (by decide)
                have b_53 : bd 1 3 x_17 := ltR fc_46 b_34 bx_17 (by decide)
                refine lv_sipush (v := 1000) hx hb dX14_named_57 (by decide) ?_
                refine lv_iload hx hb dX14_named_60 (lv_at hl 0 rfl) ?_
                have kb_1000 : bd 1000 1000 (1000 : Int32) := ⟨by decide, by decide⟩
                refine lv_iadd hx hb dX14_named_62 ?_
                refine lv_topi (fun y_54 ey_54 => ?_)
                have ty_54 := add_bd ey_54 kb_1000 b_52 (by decide)
                have b_55 : bd 1000 1002 y_54 := add_rg ty_54 kb_1000 b_52 (by decide)
                refine lv_goto (tgt := 77) hx hb dX14_named_63 (by decide) ?_
                have hl_56 : nmd N_ V_ o_.toNatClampNeg x1_ x2_ := Or.inl ⟨(by rw [← hn_2]; have h9_0 := bo_; unfold bd at h9_0; have h9_1 := b_52; unfold bd at h9_1; have h9_2 := b_15; unfold bd at h9_2; have h9_3 := b_53; unfold bd at h9_3; have h9_4 := bx_19; unfold bd at h9_4; have h9_5 := b_35; unfold bd at h9_5; have h9_6 := b_55; unfold bd at h9_6; have h8_0 := kb_0; unfold bd at h8_0; have h8_1 := kb_1000; unfold bd at h8_1; omega), v10_5.toNatClampNeg, (by rw [tnZ b_52.1, ← hn_18, ← hn_20]; have h9_0 := bo_; unfold bd at h9_0; have h9_1 := b_52; unfold bd at h9_1; have h9_2 := b_15; unfold bd at h9_2; have h9_3 := b_53; unfold bd at h9_3; have h9_4 := bx_19; unfold bd at h9_4; have h9_5 := b_35; unfold bd at h9_5; have h9_6 := b_55; unfold bd at h9_6; have h8_0 := kb_0; unfold bd at h8_0; have h8_1 := kb_1000; unfold bd at h8_1; omega), ⟨(vx_37.symm.trans c_38), (vx_42.symm.trans c_43)⟩⟩
                subst hQ
                exact W.iret (v := y_54) hx hb hr (fun t ht hW => ⟨⟨_, _, rfl, ⟨(Or.inr ⟨(Or.inr (Or.inl ⟨(by have h9_0 := bo_; unfold bd at h9_0; have h9_1 := b_52; unfold bd at h9_1; have h9_2 := b_15; unfold bd at h9_2; have h9_3 := b_53; unfold bd at h9_3; have h9_4 := bx_19; unfold bd at h9_4; have h9_5 := b_35; unfold bd at h9_5; have h9_6 := b_55; unfold bd at h9_6; have h8_0 := kb_0; unfold bd at h8_0; have h8_1 := kb_1000; unfold bd at h8_1; omega), (by have h9_0 := bo_; unfold bd at h9_0; have h9_1 := b_52; unfold bd at h9_1; have h9_2 := b_15; unfold bd at h9_2; have h9_3 := b_53; unfold bd at h9_3; have h9_4 := bx_19; unfold bd at h9_4; have h9_5 := b_35; unfold bd at h9_5; have h9_6 := b_55; unfold bd at h9_6; have h8_0 := kb_0; unfold bd at h8_0; have h8_1 := kb_1000; unfold bd at h8_1; omega)⟩)), hl_56⟩), trivial⟩, q3_of g hK ht hW⟩, g.2.2.1.F ht⟩) g.2.2.1.2.2 dX14_named_77
    have hl9 := lv_sub hl [0, 1, 2, 3] (by rfl : lv_pick [(5, .int 0), (0, .ref a0_), (1, .long x1_), (3, .long x2_)] [0, 1, 2, 3] = [(5, .int 0), (0, .ref a0_), (1, .long x1_), (3, .long x2_)])
    have g9 := g.sub (fx' := [(14, 24, a0_, .int x_1), (14, 2, a0_, .ref q0_), (14, 16, a0_, .int o_)]) [0, 1, 2] rfl
    exact loop_16 (25) 0 (bd_sub kb_0 (by decide)) (by have h9_0 := kb_0; unfold bd at h9_0; omega) _ _ _ _ g9 hGNa0_ hGVq0_ (fun j h9 => absurd h9 (by have h8 : (0 : Int32).toInt = 0 := (by decide); omega)) hl9
set_option maxHeartbeats 4000000 in
set_option maxRecDepth 100000 in
theorem r_X14_sign_2 (l : Launch) (dC : Nat → ClassId) (dI : Nat → Nat → Nat) (L : List Nat) (kd : Nat → Nat) (tys : List (ClassId × FieldType)) (f0 : Nat → va_E) (sz : Nat) (hWT : WT L kd tys f0) (adK adV : Nat → Nat) (a0_ : Nat) (ma0_ : a0_ ∈ L) (ka0_ : kd a0_ = 14) (x1_ : Int32) (t_ : Int32) (bt_ : bd 0 1201 t_) (hfx : Fs L kd f0 [(14, 10, a0_, .int t_)]) : MetE l yX14_sign (.code yX14_sign cX14_sign 2 none :: lw_g) ({ frames := 7, cells := 0, slots := 0, locals := 155 }) (va_Pc [.ref a0_, .int x1_] (P3A (dC, dI) L tys f0 sz adK adV)) (q3E (dC, dI) L kd tys [(14, 6), (14, 7), (14, 8), (14, 9), (14, 10), (14, 11), (14, 12), (14, 13), (14, 14), (14, 15)] [] f0 sz (pRv (fun (f : Nat → va_E) => ((cF f0 a0_ + 1 ≤ cF f a0_) ∧ bd 0 1200 t_ ∧ ∃ z0_ : Int32, bd 0 1201 z0_ ∧ Fs L kd f [(14, 10, a0_, .int z0_)]))) (fun (f : Nat → va_E) => True)) 0 0 (pA L sz) := by
  refine MetE.ofW (cc := cX14_sign) (maxL := 2) (ret := none) (by decide) rfl ?_
  intro p e s m args below meth c s₁ B hml hempty hv
  obtain ⟨rfl, ⟨hsz, hP, hK, hD0⟩, hAm⟩ := hv
  have hx := B.exec
  have hb := B.bytes
  have hr := B.returns
  have hts := atoms_spec (ws := (.code yX14_sign cX14_sign 2 none :: lw_g)) B.pre
  have hown : s.vm.findClass RX14 = some m.cls := findClass_of_methodNamed B.named
  have hlocks := B.notSynchronized
  subst hsz
  have g : G3 (dC, dI) L kd tys s f0 [(14, 6), (14, 7), (14, 8), (14, 9), (14, 10), (14, 11), (14, 12), (14, 13), (14, 14), (14, 15)] [] f0 s.heap [] [(14, 10, a0_, .int t_)] := G3.start hP hD0 hWT hfx
  have hl := lv_entry ([.ref a0_, .int x1_]) (n := 2) (Nat.le_of_ble_eq_true rfl)
  rw [lg_entry_eq]
  generalize (lg_sl ([.ref a0_, .int x1_]) ++ List.replicate (2 - (lg_sl ([.ref a0_, .int x1_])).length) Slot.unset).toArray = ls at hl ⊢
  have hl : lv_has ls 2 [(0, .ref a0_), (1, .int x1_)] := hl
  refine W_q (fun Q hQ => ?_)
  refine lv_aload_n hx hb dX14_sign_0 rfl (lv_at hl 0 rfl) ?_
  refine lv_aload_n hx hb dX14_sign_1 rfl (lv_at hl 0 rfl) ?_
  refine lv_iload_n hx hb dX14_sign_2 rfl (lv_at hl 1 rfl) ?_
  have go_ := g
  refine g_calli (va_runV (As := [.int x1_]) (rest := [.ref a0_]) ⟨hx, hb, hml, hown, hts⟩ (r_X14_isSign l dC dI L kd tys f0 s.heap.size g.2.2.2.1 a0_ ma0_ ka0_ x1_) (cwV 1 hts (gV_ t_2435 t_2437 t_108 t_198 t_2438) rfl rfl rfl (by decide +kernel) ⟨(Nat.le_of_ble_eq_true rfl), (Nat.le_of_ble_eq_true rfl)⟩) (pre3V g hK ma0_ ka0_ (by decide) (q := (RX14, TX14, 67)) rfl) rfl rfl hl.1 rfl (lv_room (Nat.le_of_ble_eq_true rfl)) dX14_sign_3 ⟨(Nat.le_of_ble_eq_true rfl), (Nat.le_of_ble_eq_true rfl)⟩) g hK (by decide) (by decide) (fx' := [(14, 10, a0_, .int t_)]) rfl (fun r_1 fr_1 H locs hp hMr_1 g => ?_)
  rcases hp with ⟨h_2, -⟩ | ⟨h_3, x_4, h_5, hF_6⟩
  · have hG_7 := cEq.frame hMr_1 go_.2.2.2.1 ma0_ ka0_ (by decide) (by decide) (rfl : cEq f0 a0_ (cF f0 a0_))
    have hG_8 := tEq.frame hMr_1 go_.2.2.2.1 ma0_ ka0_ (by decide) (by decide) (rfl : tEq f0 a0_ (tk f0 a0_))
    obtain rfl : r_1 = 0 := h_2
    refine lv_iconst (v := 1) hx hb dX14_sign_6 (by decide) ?_
    refine lv_aload_n hx hb dX14_sign_7 rfl (lv_at hl 0 rfl) ?_
    refine g_geti (C := RX14) (T := TX14) (N := 67) hx hb hts (mc_ inX14) hown hK g ma0_ ka0_ (by decide) rfl 8 (by decide) rfl (hts _ (List.mem_cons_of_mem _ t_2154)) (fun _ h9 => h9) rfl dX14_sign_8 (fun x_9 bx_9 g => ?_)
    have kb_0 : bd 0 0 (0 : Int32) := ⟨by decide, by decide⟩
    have go_ := g
    refine g_callEv (As := [.int 0, .int 1, .int x_9]) (rest := []) ⟨hx, hb, hml, hown, hts⟩ (r_X14_need_2 l dC dI L kd tys fr_1 H.size g.2.2.2.1 a0_ ma0_ ka0_ 0 kb_0 1 x_9) (cwV 3 hts (gV_ t_2403 t_2405 t_100 t_198 t_2406) rfl rfl rfl (by decide +kernel) ⟨(Nat.le_of_ble_eq_true rfl), (Nat.le_of_ble_eq_true rfl)⟩) (pre3V g hK ma0_ ka0_ (by decide) (q := (RX14, TX14, 67)) rfl) rfl hl.1 rfl (lv_room (Nat.le_of_ble_eq_true rfl)) dX14_sign_11 ⟨(Nat.le_of_ble_eq_true rfl), (Nat.le_of_ble_eq_true rfl)⟩ g hK (by decide) (by decide) (fx' := [(14, 8, a0_, .int x_9), (14, 10, a0_, .int t_)]) rfl (fun xr_10 fr_10 H locs mxr_10 kxr_10 hp hMr_10 g => ?_) (fun fr_10 H locs hp hMr_10 g => ?_)
    · have hG_11 := cEq.frame hMr_10 go_.2.2.2.1 ma0_ ka0_ (by decide) (by decide) hG_7
      have hG_12 := tEq.frame hMr_10 go_.2.2.2.1 ma0_ ka0_ (by decide) (by decide) hG_8
      subst hQ
      exact WX.leaves hempty hlocks (fun t ht hW => g_thrE g hK mxr_10 kxr_10 trivial ht hW) g.2.2.1.2.2
    · exact hp.elim
  · have hG_13 := cEq.frame hMr_1 go_.2.2.2.1 ma0_ ka0_ (by decide) (by decide) (rfl : cEq f0 a0_ (cF f0 a0_))
    have hG_14 := tEq.frame hMr_1 go_.2.2.2.1 ma0_ ka0_ (by decide) (by decide) (rfl : tEq f0 a0_ (tk f0 a0_))
    obtain rfl : r_1 = 1 := h_3
    have g := g.more hF_6
    refine lv_iconst (v := 1) hx hb dX14_sign_6 (by decide) ?_
    refine lv_aload_n hx hb dX14_sign_7 rfl (lv_at hl 0 rfl) ?_
    refine g_geti (C := RX14) (T := TX14) (N := 67) hx hb hts (mc_ inX14) hown hK g ma0_ ka0_ (by decide) rfl 8 (by decide) rfl (hts _ (List.mem_cons_of_mem _ t_2154)) (fun _ h9 => h9) rfl dX14_sign_8 (fun x_15 bx_15 g => ?_)
    have hs_16 := sE_1 g 1 rfl (by have h9_0 := bt_; unfold bd at h9_0; have h9_1 := bx_15; unfold bd at h9_1; have h9_2 := h_5; unfold bd at h9_2; omega)
    have kb_1 : bd 1 1 (1 : Int32) := ⟨by decide, by decide⟩
    have go_ := g
    refine g_callEv (As := [.int 1, .int 1, .int x_15]) (rest := []) ⟨hx, hb, hml, hown, hts⟩ (r_X14_need_3 l dC dI L kd tys fr_1 H.size g.2.2.2.1 a0_ ma0_ ka0_ 1 kb_1 1 x_15) (cwV 3 hts (gV_ t_2403 t_2405 t_100 t_198 t_2406) rfl rfl rfl (by decide +kernel) ⟨(Nat.le_of_ble_eq_true rfl), (Nat.le_of_ble_eq_true rfl)⟩) (pre3V g hK ma0_ ka0_ (by decide) (q := (RX14, TX14, 67)) rfl) rfl hl.1 rfl (lv_room (Nat.le_of_ble_eq_true rfl)) dX14_sign_11 ⟨(Nat.le_of_ble_eq_true rfl), (Nat.le_of_ble_eq_true rfl)⟩ g hK (by decide) (by decide) (fx' := [(14, 8, a0_, .int x_15), (14, 6, a0_, .int x_4), (14, 10, a0_, .int t_)]) rfl (fun xr_17 fr_17 H locs mxr_17 kxr_17 hp hMr_17 g => ?_) (fun fr_17 H locs hp hMr_17 g => ?_)
    · have hG_18 := cEq.frame hMr_17 go_.2.2.2.1 ma0_ ka0_ (by decide) (by decide) hG_13
      have hG_19 := tEq.frame hMr_17 go_.2.2.2.1 ma0_ ka0_ (by decide) (by decide) hG_14
      exact hp.elim
    · have hG_20 := cEq.frame hMr_17 go_.2.2.2.1 ma0_ ka0_ (by decide) (by decide) hG_13
      have hG_21 := tEq.frame hMr_17 go_.2.2.2.1 ma0_ ka0_ (by decide) (by decide) hG_14
      refine lv_aload_n hx hb dX14_sign_14 rfl (lv_at hl 0 rfl) ?_
      have hs_22 := sE_1 g 1 rfl (by have h9_0 := bt_; unfold bd at h9_0; have h9_1 := bx_15; unfold bd at h9_1; have h9_2 := h_5; unfold bd at h9_2; have h8_0 := kb_1; unfold bd at h8_0; omega)
      have go_ := g
      refine g_callEv (As := []) (rest := []) ⟨hx, hb, hml, hown, hts⟩ (r_X14_next_2 l dC dI L kd tys fr_17 H.size g.2.2.2.1 adK adV a0_ ma0_ ka0_ t_ bt_ (g.fcts [2] rfl)) (cwV 0 hts (gV_ t_2411 t_2413 t_102 t_198 t_2414) rfl rfl rfl (by decide +kernel) ⟨(Nat.le_of_ble_eq_true rfl), (Nat.le_of_ble_eq_true rfl)⟩) (pre3VA g hK hAm ma0_ ka0_ (by decide) (q := (RX14, TX14, 67)) rfl) rfl hl.1 rfl (lv_room (Nat.le_of_ble_eq_true rfl)) dX14_sign_15 ⟨(Nat.le_of_ble_eq_true rfl), (Nat.le_of_ble_eq_true rfl)⟩ g hK (by decide) (by decide) (fx' := []) rfl (fun xr_23 fr_23 H locs mxr_23 kxr_23 hp hMr_23 g => ?_) (fun fr_23 H locs hp hMr_23 g => ?_)
      · subst hQ
        exact WX.leaves hempty hlocks (fun t ht hW => g_thrE g hK mxr_23 kxr_23 trivial ht hW) g.2.2.1.2.2
      · obtain ⟨hx_24, h_25, x_26, h_27, hF_28⟩ := hp
        obtain ⟨E_29, hE_29⟩ : ∃ E : Int, cEq fr_23 a0_ E := ⟨_, rfl⟩
        have lE_29 : (cF f0 a0_) + 1 ≤ E_29 := by have h9 := hx_24; have h8 : cF _ _ = _ := hE_29; have h7 : cF _ _ = _ := hG_20; have h6 := hs_22; have h5 := tk_c (f := fr_17) (t := a0_); omega
        have b_30 : bd 0 1200 t_ := eqX rfl bt_ h_25 (by decide)
        have g := g.more hF_28
        subst hQ
        exact W.thenQ (W.vret hx hb hr (fun t ht hW => g_retE g hK ⟨rfl, ⟨(by have h9 : cF _ _ = _ := hE_29; omega), b_30, x_26, h_27, (g.fcts [0] rfl)⟩⟩ ht hW) g.2.2.1.2.2 dX14_sign_18) (fun _ => MQ.toE)
set_option maxHeartbeats 4000000 in
set_option maxRecDepth 100000 in
theorem r_X14_closing (l : Launch) (dC : Nat → ClassId) (dI : Nat → Nat → Nat) (L : List Nat) (kd : Nat → Nat) (tys : List (ClassId × FieldType)) (f0 : Nat → va_E) (sz : Nat) (hWT : WT L kd tys f0) (adK adV : Nat → Nat) (a0_ : Nat) (ma0_ : a0_ ∈ L) (ka0_ : kd a0_ = 14) (x1_ : Int32) (t_ : Int32) (bt_ : bd 0 1201 t_) (op_ : Int32) (bop_ : bd 1 40 op_) (hfx : Fs L kd f0 [(14, 10, a0_, .int t_), (14, 25, a0_, .int op_)]) : MetE l yX14_closing (.code yX14_closing cX14_closing 2 none :: lw_g) ({ frames := 8, cells := 0, slots := 0, locals := 176 }) (va_Pc [.ref a0_, .int x1_] (P3A (dC, dI) L tys f0 sz adK adV)) (q3E (dC, dI) L kd tys [(14, 6), (14, 7), (14, 8), (14, 9), (14, 10), (14, 11), (14, 12), (14, 13), (14, 14), (14, 15), (14, 25)] [] f0 sz (pRv (fun (f : Nat → va_E) => ((cF f0 a0_ + 1 ≤ cF f a0_) ∧ bd 0 1200 t_ ∧ ∃ z0_ : Int32, bd 0 1201 z0_ ∧ ∃ z1_ : Int32, (bd 0 39 z1_ ∧ z1_.toInt = op_.toInt - 1) ∧ Fs L kd f [(14, 10, a0_, .int z0_), (14, 25, a0_, .int z1_)]))) (fun (f : Nat → va_E) => True)) 0 0 (pA L sz) := by
  refine MetE.ofW (cc := cX14_closing) (maxL := 2) (ret := none) (by decide) rfl ?_
  intro p e s m args below meth c s₁ B hml hempty hv
  obtain ⟨rfl, ⟨hsz, hP, hK, hD0⟩, hAm⟩ := hv
  have hx := B.exec
  have hb := B.bytes
  have hr := B.returns
  have hts := atoms_spec (ws := (.code yX14_closing cX14_closing 2 none :: lw_g)) B.pre
  have hown : s.vm.findClass RX14 = some m.cls := findClass_of_methodNamed B.named
  have hlocks := B.notSynchronized
  subst hsz
  have g : G3 (dC, dI) L kd tys s f0 [(14, 6), (14, 7), (14, 8), (14, 9), (14, 10), (14, 11), (14, 12), (14, 13), (14, 14), (14, 15), (14, 25)] [] f0 s.heap [] [(14, 10, a0_, .int t_), (14, 25, a0_, .int op_)] := G3.start hP hD0 hWT hfx
  have hl := lv_entry ([.ref a0_, .int x1_]) (n := 2) (Nat.le_of_ble_eq_true rfl)
  rw [lg_entry_eq]
  generalize (lg_sl ([.ref a0_, .int x1_]) ++ List.replicate (2 - (lg_sl ([.ref a0_, .int x1_])).length) Slot.unset).toArray = ls at hl ⊢
  have hl : lv_has ls 2 [(0, .ref a0_), (1, .int x1_)] := hl
  refine W_q (fun Q hQ => ?_)
  refine lv_aload_n hx hb dX14_closing_0 rfl (lv_at hl 0 rfl) ?_
  refine lv_iload_n hx hb dX14_closing_1 rfl (lv_at hl 1 rfl) ?_
  have go_ := g
  refine g_callEv (As := [.int x1_]) (rest := []) ⟨hx, hb, hml, hown, hts⟩ (r_X14_sign_2 l dC dI L kd tys f0 s.heap.size g.2.2.2.1 adK adV a0_ ma0_ ka0_ x1_ t_ bt_ (g.fcts [0] rfl)) (cwV 1 hts (gV_ t_2431 t_2433 t_107 t_198 t_2434) rfl rfl rfl (by decide +kernel) ⟨(Nat.le_of_ble_eq_true rfl), (Nat.le_of_ble_eq_true rfl)⟩) (pre3VA g hK hAm ma0_ ka0_ (by decide) (q := (RX14, TX14, 67)) rfl) rfl hl.1 rfl (lv_room (Nat.le_of_ble_eq_true rfl)) dX14_closing_2 ⟨(Nat.le_of_ble_eq_true rfl), (Nat.le_of_ble_eq_true rfl)⟩ g hK (by decide) (by decide) (fx' := [(14, 25, a0_, .int op_)]) rfl (fun xr_1 fr_1 H locs mxr_1 kxr_1 hp hMr_1 g => ?_) (fun fr_1 H locs hp hMr_1 g => ?_)
  · subst hQ
    exact WX.leaves hempty hlocks (fun t ht hW => g_thrE g hK mxr_1 kxr_1 trivial ht hW) g.2.2.1.2.2
  · obtain ⟨hx_2, h_3, x_4, h_5, hF_6⟩ := hp
    obtain ⟨E_7, hE_7⟩ : ∃ E : Int, cEq fr_1 a0_ E := ⟨_, rfl⟩
    have lE_7 : (cF f0 a0_) + 1 ≤ E_7 := by have h9 := hx_2; have h8 : cF _ _ = _ := hE_7; have h7 : cF _ _ = _ := (rfl : cEq f0 a0_ (cF f0 a0_)); omega
    have b_8 : bd 0 1200 t_ := eqX rfl bt_ h_3 (by decide)
    have g := g.more hF_6
    refine lv_aload_n hx hb dX14_closing_5 rfl (lv_at hl 0 rfl) ?_
    refine lv_dup hx hb dX14_closing_6 rfl ?_
    refine g_getk (C := RX14) (T := TX14) (N := 67) hx hb hts (mc_ inX14) hown hK g rfl 25 (by decide) rfl (hts _ (List.mem_cons_of_mem _ t_2171)) (fun _ h9 => h9) 1 rfl dX14_closing_7 ?_
    refine lv_iconst (v := 1) hx hb dX14_closing_10 (by decide) ?_
    have kb_1 : bd 1 1 (1 : Int32) := ⟨by decide, by decide⟩
    refine lv_isub hx hb dX14_closing_11 ?_
    refine lv_topi (fun y_9 ey_9 => ?_)
    have ty_9 := sub_bd ey_9 bop_ kb_1 (by decide)
    have b_10 : bd 0 39 y_9 := sub_rg ty_9 bop_ kb_1 (by decide)
    have go_ := g
    refine g_put (C := RX14) (T := TX14) (N := 67) hx hb hts (mc_ inX14) tyX14 tyX14_ok nmX14 hown hK g ma0_ ka0_ (by decide) rfl 25 (by decide) (hts _ (List.mem_cons_of_mem _ t_2171)) (fun _ h9 => h9) rfl rfl (okV_i (bd_sub b_10 (by decide))) rfl rfl (by decide) (Or.inr (Or.inl (by decide))) (fx' := [(14, 10, a0_, .int x_4)]) rfl dX14_closing_12 (fun f H locs hM_11 g => ?_)
    have hG_12 := cEq.frame hM_11 go_.2.2.2.1 ma0_ ka0_ (by decide) (by decide) hE_7
    subst hQ
    exact W.thenQ (W.vret hx hb hr (fun t ht hW => g_retE g hK ⟨rfl, ⟨(by have h9 : cF _ _ = _ := hG_12; omega), b_8, x_4, h_5, y_9, ⟨b_10, (by have h9_0 := bop_; unfold bd at h9_0; have h9_1 := b_8; unfold bd at h9_1; have h9_2 := h_5; unfold bd at h9_2; have h9_3 := b_10; unfold bd at h9_3; have h8_0 := kb_1; unfold bd at h8_0; omega)⟩, (g.fcts [1, 0] rfl)⟩⟩ ht hW) g.2.2.1.2.2 dX14_closing_15) (fun _ => MQ.toE)
set_option maxHeartbeats 4000000 in
set_option maxRecDepth 100000 in
theorem r_X14_need_4 (l : Launch) (dC : Nat → ClassId) (dI : Nat → Nat → Nat) (L : List Nat) (kd : Nat → Nat) (tys : List (ClassId × FieldType)) (f0 : Nat → va_E) (sz : Nat) (hWT : WT L kd tys f0) (a0_ : Nat) (ma0_ : a0_ ∈ L) (ka0_ : kd a0_ = 14) (x1_ : Int32) (bx1_ : bd 0 1 x1_) (x2_ : Int32) (x3_ : Int32) : MetE l yX14_need (.code yX14_need cX14_need 4 none :: lw_g) ({ frames := 1, cells := 0, slots := 0, locals := 22 }) (va_Pc [.ref a0_, .int x1_, .int x2_, .int x3_] (P3 (dC, dI) L tys f0 sz)) (q3E (dC, dI) L kd tys [(14, 14), (14, 15)] [] f0 sz (pRv (fun (f : Nat → va_E) => (bd 1 1 x1_ ∧ True))) (fun (f : Nat → va_E) => True)) 0 0 (pA L sz) := by
  refine MetE.ofW (cc := cX14_need) (maxL := 4) (ret := none) (by decide) rfl ?_
  intro p e s m args below meth c s₁ B hml hempty hv
  obtain ⟨rfl, hsz, hP, hK, hD0⟩ := hv
  have hx := B.exec
  have hb := B.bytes
  have hr := B.returns
  have hts := atoms_spec (ws := (.code yX14_need cX14_need 4 none :: lw_g)) B.pre
  have hown : s.vm.findClass RX14 = some m.cls := findClass_of_methodNamed B.named
  have hlocks := B.notSynchronized
  subst hsz
  have g : G3 (dC, dI) L kd tys s f0 [(14, 14), (14, 15)] [] f0 s.heap [] [] := G3.start hP hD0 hWT Fs.nil
  have hl := lv_entry ([.ref a0_, .int x1_, .int x2_, .int x3_]) (n := 4) (Nat.le_of_ble_eq_true rfl)
  rw [lg_entry_eq]
  generalize (lg_sl ([.ref a0_, .int x1_, .int x2_, .int x3_]) ++ List.replicate (4 - (lg_sl ([.ref a0_, .int x1_, .int x2_, .int x3_])).length) Slot.unset).toArray = ls at hl ⊢
  have hl : lv_has ls 4 [(0, .ref a0_), (1, .int x1_), (2, .int x2_), (3, .int x3_)] := hl
  refine W_q (fun Q hQ => ?_)
  refine lv_iload_n hx hb dX14_need_0 rfl (lv_at hl 1 rfl) ?_
  have kb_0 : bd 0 0 (0 : Int32) := ⟨by decide, by decide⟩
  refine lv_if_ne (tgt := 10) hx hb dX14_need_1 (by decide) (fun c_1 => ?_) (fun c_1 => ?_)
  · have fc_1 := neq_f c_1
    have b_2 : bd 1 1 x1_ := neX fc_1 bx1_ kb_0 (by decide)
    subst hQ
    exact W.thenQ (W.vret hx hb hr (fun t ht hW => g_retE g hK ⟨rfl, ⟨b_2, trivial⟩⟩ ht hW) g.2.2.1.2.2 dX14_need_10) (fun _ => MQ.toE)
  · have fc_1 := eq_f c_1
    have b_3 : bd 0 0 x1_ := eqX fc_1 bx1_ kb_0 (by decide)
    refine lv_aload_n hx hb dX14_need_4 rfl (lv_at hl 0 rfl) ?_
    refine lv_iload_n hx hb dX14_need_5 rfl (lv_at hl 2 rfl) ?_
    refine lv_iload_n hx hb dX14_need_6 rfl (lv_at hl 3 rfl) ?_
    refine g_callEv (As := [.int x2_, .int x3_]) (rest := []) ⟨hx, hb, hml, hown, hts⟩ (r_X14_wrong l dC dI L kd tys f0 s.heap.size g.2.2.2.1 a0_ ma0_ ka0_ x2_ x3_) (cwV 2 hts (gV_ t_2407 t_2409 t_101 t_198 t_2410) rfl rfl rfl (by decide +kernel) ⟨(Nat.le_of_ble_eq_true rfl), (Nat.le_of_ble_eq_true rfl)⟩) (pre3V g hK ma0_ ka0_ (by decide) (q := (RX14, TX14, 67)) rfl) rfl hl.1 rfl (lv_room (Nat.le_of_ble_eq_true rfl)) dX14_need_7 ⟨(Nat.le_of_ble_eq_true rfl), (Nat.le_of_ble_eq_true rfl)⟩ g hK (by decide) (by decide) (fx' := []) rfl (fun xr_4 fr_4 H locs mxr_4 kxr_4 hp hMr_4 g => ?_) (fun fr_4 H locs hp hMr_4 g => ?_)
    · subst hQ
      exact WX.leaves hempty hlocks (fun t ht hW => g_thrE g hK mxr_4 kxr_4 trivial ht hW) g.2.2.1.2.2
    · exact hp.elim
set_option maxHeartbeats 4000000 in
set_option maxRecDepth 100000 in
theorem r_X14_takes_2 (l : Launch) (dC : Nat → ClassId) (dI : Nat → Nat → Nat) (L : List Nat) (kd : Nat → Nat) (tys : List (ClassId × FieldType)) (f0 : Nat → va_E) (sz : Nat) (hWT : WT L kd tys f0) (adK adV : Nat → Nat) (a0_ : Nat) (ma0_ : a0_ ∈ L) (ka0_ : kd a0_ = 14) (x1_ : Int32) (t_ : Int32) (bt_ : bd 0 1201 t_) (hfx : Fs L kd f0 [(14, 10, a0_, .int t_)]) : MetE l yX14_takes (.code yX14_takes cX14_takes 3 (some .boolean) :: lw_g) ({ frames := 7, cells := 0, slots := 0, locals := 155 }) (va_Pc [.ref a0_, .int x1_] (P3A (dC, dI) L tys f0 sz adK adV)) (q3E (dC, dI) L kd tys [(14, 6), (14, 7), (14, 8), (14, 9), (14, 10), (14, 11), (14, 12), (14, 13), (14, 14), (14, 15)] [] f0 sz (pRi (fun (r : Int32) (f : Nat → va_E) => ((cF f a0_ = cF f0 a0_) ∧ r = 0 ∧ Fs L kd f [(14, 10, a0_, .int t_)]) ∨ ((cF f0 a0_ + 1 ≤ cF f a0_) ∧ r = 1 ∧ bd 0 1200 t_ ∧ ∃ z0_ : Int32, bd 0 1201 z0_ ∧ Fs L kd f [(14, 10, a0_, .int z0_)]))) (fun (f : Nat → va_E) => True)) 0 0 (pA L sz) := by
  refine MetE.ofW (cc := cX14_takes) (maxL := 3) (ret := (some .boolean)) (by decide) rfl ?_
  intro p e s m args below meth c s₁ B hml hempty hv
  obtain ⟨rfl, ⟨hsz, hP, hK, hD0⟩, hAm⟩ := hv
  have hx := B.exec
  have hb := B.bytes
  have hr := B.returns
  have hts := atoms_spec (ws := (.code yX14_takes cX14_takes 3 (some .boolean) :: lw_g)) B.pre
  have hown : s.vm.findClass RX14 = some m.cls := findClass_of_methodNamed B.named
  have hlocks := B.notSynchronized
  subst hsz
  have g : G3 (dC, dI) L kd tys s f0 [(14, 6), (14, 7), (14, 8), (14, 9), (14, 10), (14, 11), (14, 12), (14, 13), (14, 14), (14, 15)] [] f0 s.heap [] [(14, 10, a0_, .int t_)] := G3.start hP hD0 hWT hfx
  have hl := lv_entry ([.ref a0_, .int x1_]) (n := 3) (Nat.le_of_ble_eq_true rfl)
  rw [lg_entry_eq]
  generalize (lg_sl ([.ref a0_, .int x1_]) ++ List.replicate (3 - (lg_sl ([.ref a0_, .int x1_])).length) Slot.unset).toArray = ls at hl ⊢
  have hl : lv_has ls 3 [(0, .ref a0_), (1, .int x1_)] := hl
  refine W_q (fun Q hQ => ?_)
  refine lv_aload_n hx hb dX14_takes_0 rfl (lv_at hl 0 rfl) ?_
  refine lv_iload_n hx hb dX14_takes_1 rfl (lv_at hl 1 rfl) ?_
  have go_ := g
  refine g_calli (va_runV (As := [.int x1_]) (rest := []) ⟨hx, hb, hml, hown, hts⟩ (r_X14_isWord l dC dI L kd tys f0 s.heap.size g.2.2.2.1 a0_ ma0_ ka0_ x1_) (cwV 1 hts (gV_ t_2399 t_2401 t_99 t_198 t_2402) rfl rfl rfl (by decide +kernel) ⟨(Nat.le_of_ble_eq_true rfl), (Nat.le_of_ble_eq_true rfl)⟩) (pre3V g hK ma0_ ka0_ (by decide) (q := (RX14, TX14, 67)) rfl) rfl rfl hl.1 rfl (lv_room (Nat.le_of_ble_eq_true rfl)) dX14_takes_2 ⟨(Nat.le_of_ble_eq_true rfl), (Nat.le_of_ble_eq_true rfl)⟩) g hK (by decide) (by decide) (fx' := [(14, 10, a0_, .int t_)]) rfl (fun r_1 fr_1 H locs hp hMr_1 g => ?_)
  rcases hp with ⟨h_2, -⟩ | ⟨h_3, x_4, h_5, hF_6⟩
  · have hG_7 := cEq.frame hMr_1 go_.2.2.2.1 ma0_ ka0_ (by decide) (by decide) (rfl : cEq f0 a0_ (cF f0 a0_))
    have hG_8 := tEq.frame hMr_1 go_.2.2.2.1 ma0_ ka0_ (by decide) (by decide) (rfl : tEq f0 a0_ (tk f0 a0_))
    obtain rfl : r_1 = 0 := h_2
    refine lv_istore_n (lv' := [(2, .int 0), (0, .ref a0_), (1, .int x1_)]) hx hb dX14_takes_5 rfl hl (by decide) rfl (fun ls hl => ?_)
    refine lv_iload_n hx hb dX14_takes_6 rfl (lv_at hl 0 rfl) ?_
    refine lv_if_eq (tgt := 14) hx hb dX14_takes_7 (by decide) (fun c_ => ?_) (fun c_ => absurd (by decide) c_)
    refine lv_iload_n hx hb dX14_takes_14 rfl (lv_at hl 0 rfl) ?_
    subst hQ
    have kb_0 : bd 0 0 (0 : Int32) := ⟨by decide, by decide⟩
    exact W.thenQ (W.zret (v := 0) hx hb hr (nar_z (bd_sub kb_0 (by decide) : bd 0 1 _).1 (bd_sub kb_0 (by decide) : bd 0 1 _).2) (fun t ht hW => g_retE g hK ⟨_, rfl, Or.inl ⟨(by have h9 : cF _ _ = _ := hG_7; omega), rfl, (g.fcts [0] rfl)⟩⟩ ht hW) g.2.2.1.2.2 dX14_takes_15) (fun _ => MQ.toE)
  · have hG_9 := cEq.frame hMr_1 go_.2.2.2.1 ma0_ ka0_ (by decide) (by decide) (rfl : cEq f0 a0_ (cF f0 a0_))
    have hG_10 := tEq.frame hMr_1 go_.2.2.2.1 ma0_ ka0_ (by decide) (by decide) (rfl : tEq f0 a0_ (tk f0 a0_))
    obtain rfl : r_1 = 1 := h_3
    have g := g.more hF_6
    refine lv_istore_n (lv' := [(2, .int 1), (0, .ref a0_), (1, .int x1_)]) hx hb dX14_takes_5 rfl hl (by decide) rfl (fun ls hl => ?_)
    refine lv_iload_n hx hb dX14_takes_6 rfl (lv_at hl 0 rfl) ?_
    refine lv_if_eq (tgt := 14) hx hb dX14_takes_7 (by decide) (fun c_ => absurd c_ (by decide)) (fun c_ => ?_)
    refine lv_aload_n hx hb dX14_takes_10 rfl (lv_at hl 1 rfl) ?_
    have hs_11 := sE_1 g 0 rfl (by have h9_0 := bt_; unfold bd at h9_0; have h9_1 := h_5; unfold bd at h9_1; omega)
    have go_ := g
    refine g_callEv (As := []) (rest := []) ⟨hx, hb, hml, hown, hts⟩ (r_X14_next_2 l dC dI L kd tys fr_1 H.size g.2.2.2.1 adK adV a0_ ma0_ ka0_ t_ bt_ (g.fcts [1] rfl)) (cwV 0 hts (gV_ t_2411 t_2413 t_102 t_198 t_2414) rfl rfl rfl (by decide +kernel) ⟨(Nat.le_of_ble_eq_true rfl), (Nat.le_of_ble_eq_true rfl)⟩) (pre3VA g hK hAm ma0_ ka0_ (by decide) (q := (RX14, TX14, 67)) rfl) rfl hl.1 rfl (lv_room (Nat.le_of_ble_eq_true rfl)) dX14_takes_11 ⟨(Nat.le_of_ble_eq_true rfl), (Nat.le_of_ble_eq_true rfl)⟩ g hK (by decide) (by decide) (fx' := []) rfl (fun xr_12 fr_12 H locs mxr_12 kxr_12 hp hMr_12 g => ?_) (fun fr_12 H locs hp hMr_12 g => ?_)
    · subst hQ
      exact WX.leaves hempty hlocks (fun t ht hW => g_thrE g hK mxr_12 kxr_12 trivial ht hW) g.2.2.1.2.2
    · obtain ⟨hx_13, h_14, x_15, h_16, hF_17⟩ := hp
      obtain ⟨E_18, hE_18⟩ : ∃ E : Int, cEq fr_12 a0_ E := ⟨_, rfl⟩
      have lE_18 : (cF f0 a0_) + 1 ≤ E_18 := by have h9 := hx_13; have h8 : cF _ _ = _ := hE_18; have h7 : cF _ _ = _ := hG_9; have h6 := hs_11; have h5 := tk_c (f := fr_1) (t := a0_); omega
      have b_19 : bd 0 1200 t_ := eqX rfl bt_ h_14 (by decide)
      have g := g.more hF_17
      refine lv_iload_n hx hb dX14_takes_14 rfl (lv_at hl 0 rfl) ?_
      subst hQ
      have kb_1 : bd 1 1 (1 : Int32) := ⟨by decide, by decide⟩
      exact W.thenQ (W.zret (v := 1) hx hb hr (nar_z (bd_sub kb_1 (by decide) : bd 0 1 _).1 (bd_sub kb_1 (by decide) : bd 0 1 _).2) (fun t ht hW => g_retE g hK ⟨_, rfl, Or.inr (⟨(by have h9 : cF _ _ = _ := hE_18; omega), rfl, b_19, x_15, h_16, (g.fcts [0] rfl)⟩)⟩ ht hW) g.2.2.1.2.2 dX14_takes_15) (fun _ => MQ.toE)
