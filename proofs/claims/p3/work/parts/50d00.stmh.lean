set_option maxHeartbeats 4000000 in
set_option maxRecDepth 100000 in
theorem r_X14_statement (l : Launch) (dC : Nat → ClassId) (dI : Nat → Nat → Nat) (L : List Nat) (kd : Nat → Nat) (tys : List (ClassId × FieldType)) (f0 : Nat → va_E) (sz : Nat) (hWT : WT L kd tys f0) (a0_ : Nat) (ma0_ : a0_ ∈ L) (ka0_ : kd a0_ = 14) (x1_ : Int32) (q0_ : Nat) (mq0_ : q0_ ∈ L) (kq0_ : kd q0_ = 12) (me_ : Int32) (bme_ : bd 0 109 me_) (V_ : PV) (hGVq0_ : isV f0 q0_ V_) (hsb : (V_.n 46).toInt ≤ 699) (hfx : Fs L kd f0 [(14, 2, a0_, .ref q0_), (14, 17, a0_, .int me_)]) : Met l yX14_statement (.code yX14_statement cX14_statement 3 (some .int) :: lw_g) ({ frames := 0, cells := 0, slots := 0, locals := 0 }) (va_Pc [.ref a0_, .int x1_] (P3 (dC, dI) L tys f0 sz)) (va_Qi (fun (r : Int32) (f : Nat → va_E) => ((∃ V1 : PV, isV f q0_ V1 ∧ SN V_ V1 r x1_ me_) ∧ (FR L kd f0 f q0_) ∧ bd 0 699 r ∧ ∃ z0_ : Int32, bd 1 700 z0_ ∧ Fs L kd f [(12, 46, q0_, .int z0_)])) (Q3 (dC, dI) L kd tys [(12, 46)] [189, 190, 191, 192, 193, 194, 195, 196, 197, 200] f0 sz) (pA L sz)) 0 0 (pA L sz) := by
  refine Met.ofW (cc := cX14_statement) (maxL := 3) (ret := (some .int)) (by decide) rfl ?_
  intro p e s m args below meth c s₁ B hml hv
  obtain ⟨rfl, hsz, hP, hK, hD0⟩ := hv
  have hx := B.exec
  have hb := B.bytes
  have hr := B.returns
  have hts := atoms_spec (ws := (.code yX14_statement cX14_statement 3 (some .int) :: lw_g)) B.pre
  have hown : s.vm.findClass RX14 = some m.cls := findClass_of_methodNamed B.named
  have hlocks := B.notSynchronized
  subst hsz
  have g : G3 (dC, dI) L kd tys s f0 [(12, 46)] [189, 190, 191, 192, 193, 194, 195, 196, 197, 200] f0 s.heap [] [(14, 2, a0_, .ref q0_), (14, 17, a0_, .int me_)] := G3.start hP hD0 hWT hfx
  have hl := lv_entry ([.ref a0_, .int x1_]) (n := 3) (Nat.le_of_ble_eq_true rfl)
  rw [lg_entry_eq]
  generalize (lg_sl ([.ref a0_, .int x1_]) ++ List.replicate (3 - (lg_sl ([.ref a0_, .int x1_])).length) Slot.unset).toArray = ls at hl ⊢
  have hl : lv_has ls 3 [(0, .ref a0_), (1, .int x1_)] := hl
  refine W_q (fun Q hQ => ?_)
  refine lv_aload_n hx hb dX14_statement_0 rfl (lv_at hl 0 rfl) ?_
  refine g_getk (C := RX14) (T := TX14) (N := 67) hx hb hts (mc_ inX14) hown hK g rfl 2 (by decide) rfl (hts _ (List.mem_cons_of_mem _ t_2148)) (fun _ h9 => h9) 0 rfl dX14_statement_1 ?_
  refine g_geti (C := RX12) (T := TX12) (N := 60) hx hb hts (mc_ inX12) hown hK g mq0_ kq0_ (by decide) rfl 46 (by decide) rfl (hts _ (List.mem_cons_of_mem _ t_1996)) (fun _ h9 => h9) rfl dX14_statement_4 (fun x_1 bx_1 g => ?_)
  have hn_2 := hGVq0_.nn g 0 rfl rfl
  have b_3 : bd 0 699 x_1 := ⟨bx_1.1, (by rw [hn_2]; exact hsb)⟩
  refine lv_istore_n (lv' := [(2, .int x_1), (0, .ref a0_), (1, .int x1_)]) hx hb dX14_statement_7 rfl hl (by decide) rfl (fun ls hl => ?_)
  refine lv_aload_n hx hb dX14_statement_8 rfl (lv_at hl 1 rfl) ?_
  refine g_getk (C := RX14) (T := TX14) (N := 67) hx hb hts (mc_ inX14) hown hK g rfl 2 (by decide) rfl (hts _ (List.mem_cons_of_mem _ t_2148)) (fun _ h9 => h9) 1 rfl dX14_statement_9 ?_
  refine g_getr (K := 189) (C := RX12) (T := TX12) (N := 60) hx hb hts (mc_ inX12) hown hK g mq0_ kq0_ (by decide) rfl 34 (by decide) rfl (hts _ (List.mem_cons_of_mem _ t_1973)) (fun _ h9 => h9) rfl dX14_statement_12 (fun a_4 ma_4 ka_4 g => ?_)
  refine lv_iload_n hx hb dX14_statement_15 rfl (lv_at hl 0 rfl) ?_
  refine lv_iload_n hx hb dX14_statement_16 rfl (lv_at hl 2 rfl) ?_
  have gp_5 := g
  have go_ := g
  refine g_iastX hx hb hK g ma_4 ka_4 (by decide) rfl (in_bd b_3 (by decide)) (bdT x1_) (by decide) dX14_statement_17 (fun f H locs hM_6 u_7 g => ?_)
  have hV_8 := isV.ui hGVq0_ gp_5 0 rfl mq0_ kq0_ rfl u_7
  have hF_9 := FR.arr FR.refl gp_5 0 rfl mq0_ kq0_ rfl rfl u_7.1
  refine lv_aload_n hx hb dX14_statement_18 rfl (lv_at hl 1 rfl) ?_
  refine g_getk (C := RX14) (T := TX14) (N := 67) hx hb hts (mc_ inX14) hown hK g rfl 2 (by decide) rfl (hts _ (List.mem_cons_of_mem _ t_2148)) (fun _ h9 => h9) 2 rfl dX14_statement_19 ?_
  refine g_getr (K := 190) (C := RX12) (T := TX12) (N := 60) hx hb hts (mc_ inX12) hown hK g mq0_ kq0_ (by decide) rfl 35 (by decide) rfl (hts _ (List.mem_cons_of_mem _ t_1975)) (fun _ h9 => h9) rfl dX14_statement_22 (fun a_10 ma_10 ka_10 g => ?_)
  refine lv_iload_n hx hb dX14_statement_25 rfl (lv_at hl 0 rfl) ?_
  refine lv_iconst (v := (-1)) hx hb dX14_statement_26 (by decide) ?_
  have gp_11 := g
  have kb_m1 : bd (-1) (-1) ((-1) : Int32) := ⟨by decide, by decide⟩
  have go_ := g
  refine g_iastX hx hb hK g ma_10 ka_10 (by decide) rfl (in_bd b_3 (by decide)) (bd_sub kb_m1 (by decide)) (by decide) dX14_statement_27 (fun f H locs hM_12 u_13 g => ?_)
  have hV_14 := isV.ui hV_8 gp_11 0 rfl mq0_ kq0_ rfl u_13
  have hF_15 := FR.arr hF_9 gp_11 0 rfl mq0_ kq0_ rfl rfl u_13.1
  refine lv_aload_n hx hb dX14_statement_28 rfl (lv_at hl 1 rfl) ?_
  refine g_getk (C := RX14) (T := TX14) (N := 67) hx hb hts (mc_ inX14) hown hK g rfl 2 (by decide) rfl (hts _ (List.mem_cons_of_mem _ t_2148)) (fun _ h9 => h9) 3 rfl dX14_statement_29 ?_
  refine g_getr (K := 191) (C := RX12) (T := TX12) (N := 60) hx hb hts (mc_ inX12) hown hK g mq0_ kq0_ (by decide) rfl 36 (by decide) rfl (hts _ (List.mem_cons_of_mem _ t_1977)) (fun _ h9 => h9) rfl dX14_statement_32 (fun a_16 ma_16 ka_16 g => ?_)
  refine lv_iload_n hx hb dX14_statement_35 rfl (lv_at hl 0 rfl) ?_
  refine lv_iconst (v := (-1)) hx hb dX14_statement_36 (by decide) ?_
  have gp_17 := g
  have go_ := g
  refine g_iastX hx hb hK g ma_16 ka_16 (by decide) rfl (in_bd b_3 (by decide)) (bd_sub kb_m1 (by decide)) (by decide) dX14_statement_37 (fun f H locs hM_18 u_19 g => ?_)
  have hV_20 := isV.ui hV_14 gp_17 0 rfl mq0_ kq0_ rfl u_19
  have hF_21 := FR.arr hF_15 gp_17 0 rfl mq0_ kq0_ rfl rfl u_19.1
  refine lv_aload_n hx hb dX14_statement_38 rfl (lv_at hl 1 rfl) ?_
  refine g_getk (C := RX14) (T := TX14) (N := 67) hx hb hts (mc_ inX14) hown hK g rfl 2 (by decide) rfl (hts _ (List.mem_cons_of_mem _ t_2148)) (fun _ h9 => h9) 4 rfl dX14_statement_39 ?_
  refine g_getr (K := 192) (C := RX12) (T := TX12) (N := 60) hx hb hts (mc_ inX12) hown hK g mq0_ kq0_ (by decide) rfl 37 (by decide) rfl (hts _ (List.mem_cons_of_mem _ t_1979)) (fun _ h9 => h9) rfl dX14_statement_42 (fun a_22 ma_22 ka_22 g => ?_)
  refine lv_iload_n hx hb dX14_statement_45 rfl (lv_at hl 0 rfl) ?_
  refine lv_iconst (v := (-1)) hx hb dX14_statement_46 (by decide) ?_
  have gp_23 := g
  have go_ := g
  refine g_iastX hx hb hK g ma_22 ka_22 (by decide) rfl (in_bd b_3 (by decide)) (bd_sub kb_m1 (by decide)) (by decide) dX14_statement_47 (fun f H locs hM_24 u_25 g => ?_)
  have hV_26 := isV.ui hV_20 gp_23 0 rfl mq0_ kq0_ rfl u_25
  have hF_27 := FR.arr hF_21 gp_23 0 rfl mq0_ kq0_ rfl rfl u_25.1
  refine lv_aload_n hx hb dX14_statement_48 rfl (lv_at hl 1 rfl) ?_
  refine g_getk (C := RX14) (T := TX14) (N := 67) hx hb hts (mc_ inX14) hown hK g rfl 2 (by decide) rfl (hts _ (List.mem_cons_of_mem _ t_2148)) (fun _ h9 => h9) 5 rfl dX14_statement_49 ?_
  refine g_getr (K := 193) (C := RX12) (T := TX12) (N := 60) hx hb hts (mc_ inX12) hown hK g mq0_ kq0_ (by decide) rfl 38 (by decide) rfl (hts _ (List.mem_cons_of_mem _ t_1981)) (fun _ h9 => h9) rfl dX14_statement_52 (fun a_28 ma_28 ka_28 g => ?_)
  refine lv_iload_n hx hb dX14_statement_55 rfl (lv_at hl 0 rfl) ?_
  refine lv_iconst (v := (-1)) hx hb dX14_statement_56 (by decide) ?_
  have gp_29 := g
  have go_ := g
  refine g_iastX hx hb hK g ma_28 ka_28 (by decide) rfl (in_bd b_3 (by decide)) (bd_sub kb_m1 (by decide)) (by decide) dX14_statement_57 (fun f H locs hM_30 u_31 g => ?_)
  have hV_32 := isV.ui hV_26 gp_29 0 rfl mq0_ kq0_ rfl u_31
  have hF_33 := FR.arr hF_27 gp_29 0 rfl mq0_ kq0_ rfl rfl u_31.1
  refine lv_aload_n hx hb dX14_statement_58 rfl (lv_at hl 1 rfl) ?_
  refine g_getk (C := RX14) (T := TX14) (N := 67) hx hb hts (mc_ inX14) hown hK g rfl 2 (by decide) rfl (hts _ (List.mem_cons_of_mem _ t_2148)) (fun _ h9 => h9) 6 rfl dX14_statement_59 ?_
  refine g_getr (K := 194) (C := RX12) (T := TX12) (N := 60) hx hb hts (mc_ inX12) hown hK g mq0_ kq0_ (by decide) rfl 39 (by decide) rfl (hts _ (List.mem_cons_of_mem _ t_1983)) (fun _ h9 => h9) rfl dX14_statement_62 (fun a_34 ma_34 ka_34 g => ?_)
  refine lv_iload_n hx hb dX14_statement_65 rfl (lv_at hl 0 rfl) ?_
  refine lv_iconst (v := (-1)) hx hb dX14_statement_66 (by decide) ?_
  have gp_35 := g
  have go_ := g
  refine g_iastX hx hb hK g ma_34 ka_34 (by decide) rfl (in_bd b_3 (by decide)) (bd_sub kb_m1 (by decide)) (by decide) dX14_statement_67 (fun f H locs hM_36 u_37 g => ?_)
  have hV_38 := isV.ui hV_32 gp_35 0 rfl mq0_ kq0_ rfl u_37
  have hF_39 := FR.arr hF_33 gp_35 0 rfl mq0_ kq0_ rfl rfl u_37.1
  refine lv_aload_n hx hb dX14_statement_68 rfl (lv_at hl 1 rfl) ?_
  refine g_getk (C := RX14) (T := TX14) (N := 67) hx hb hts (mc_ inX14) hown hK g rfl 2 (by decide) rfl (hts _ (List.mem_cons_of_mem _ t_2148)) (fun _ h9 => h9) 7 rfl dX14_statement_69 ?_
  refine g_getr (K := 195) (C := RX12) (T := TX12) (N := 60) hx hb hts (mc_ inX12) hown hK g mq0_ kq0_ (by decide) rfl 40 (by decide) rfl (hts _ (List.mem_cons_of_mem _ t_1985)) (fun _ h9 => h9) rfl dX14_statement_72 (fun a_40 ma_40 ka_40 g => ?_)
  refine lv_iload_n hx hb dX14_statement_75 rfl (lv_at hl 0 rfl) ?_
  refine lv_iconst (v := (-1)) hx hb dX14_statement_76 (by decide) ?_
  have gp_41 := g
  have go_ := g
  refine g_iastX hx hb hK g ma_40 ka_40 (by decide) rfl (in_bd b_3 (by decide)) (bd_sub kb_m1 (by decide)) (by decide) dX14_statement_77 (fun f H locs hM_42 u_43 g => ?_)
  have hV_44 := isV.ui hV_38 gp_41 0 rfl mq0_ kq0_ rfl u_43
  have hF_45 := FR.arr hF_39 gp_41 0 rfl mq0_ kq0_ rfl rfl u_43.1
  refine lv_aload_n hx hb dX14_statement_78 rfl (lv_at hl 1 rfl) ?_
  refine g_getk (C := RX14) (T := TX14) (N := 67) hx hb hts (mc_ inX14) hown hK g rfl 2 (by decide) rfl (hts _ (List.mem_cons_of_mem _ t_2148)) (fun _ h9 => h9) 8 rfl dX14_statement_79 ?_
  refine g_getr (K := 196) (C := RX12) (T := TX12) (N := 60) hx hb hts (mc_ inX12) hown hK g mq0_ kq0_ (by decide) rfl 41 (by decide) rfl (hts _ (List.mem_cons_of_mem _ t_1987)) (fun _ h9 => h9) rfl dX14_statement_82 (fun a_46 ma_46 ka_46 g => ?_)
  refine lv_iload_n hx hb dX14_statement_85 rfl (lv_at hl 0 rfl) ?_
  refine lv_iconst (v := (-1)) hx hb dX14_statement_86 (by decide) ?_
  have gp_47 := g
  have go_ := g
  refine g_iastX hx hb hK g ma_46 ka_46 (by decide) rfl (in_bd b_3 (by decide)) (bd_sub kb_m1 (by decide)) (by decide) dX14_statement_87 (fun f H locs hM_48 u_49 g => ?_)
  have hV_50 := isV.ui hV_44 gp_47 0 rfl mq0_ kq0_ rfl u_49
  have hF_51 := FR.arr hF_45 gp_47 0 rfl mq0_ kq0_ rfl rfl u_49.1
  refine lv_aload_n hx hb dX14_statement_88 rfl (lv_at hl 1 rfl) ?_
  refine g_getk (C := RX14) (T := TX14) (N := 67) hx hb hts (mc_ inX14) hown hK g rfl 2 (by decide) rfl (hts _ (List.mem_cons_of_mem _ t_2148)) (fun _ h9 => h9) 9 rfl dX14_statement_89 ?_
  refine g_getr (K := 197) (C := RX12) (T := TX12) (N := 60) hx hb hts (mc_ inX12) hown hK g mq0_ kq0_ (by decide) rfl 42 (by decide) rfl (hts _ (List.mem_cons_of_mem _ t_1989)) (fun _ h9 => h9) rfl dX14_statement_92 (fun a_52 ma_52 ka_52 g => ?_)
  refine lv_iload_n hx hb dX14_statement_95 rfl (lv_at hl 0 rfl) ?_
  refine lv_aload_n hx hb dX14_statement_96 rfl (lv_at hl 1 rfl) ?_
  refine g_getk (C := RX14) (T := TX14) (N := 67) hx hb hts (mc_ inX14) hown hK g rfl 17 (by decide) rfl (hts _ (List.mem_cons_of_mem _ t_2163)) (fun _ h9 => h9) 11 rfl dX14_statement_97 ?_
  have gp_53 := g
  have go_ := g
  refine g_iastX hx hb hK g ma_52 ka_52 (by decide) rfl (in_bd b_3 (by decide)) bme_ (by decide) dX14_statement_100 (fun f H locs hM_54 u_55 g => ?_)
  have hV_56 := isV.ui hV_50 gp_53 0 rfl mq0_ kq0_ rfl u_55
  have hF_57 := FR.arr hF_51 gp_53 0 rfl mq0_ kq0_ rfl rfl u_55.1
  refine lv_aload_n hx hb dX14_statement_101 rfl (lv_at hl 1 rfl) ?_
  refine g_getk (C := RX14) (T := TX14) (N := 67) hx hb hts (mc_ inX14) hown hK g rfl 2 (by decide) rfl (hts _ (List.mem_cons_of_mem _ t_2148)) (fun _ h9 => h9) 10 rfl dX14_statement_102 ?_
  refine g_getr (K := 200) (C := RX12) (T := TX12) (N := 60) hx hb hts (mc_ inX12) hown hK g mq0_ kq0_ (by decide) rfl 45 (by decide) rfl (hts _ (List.mem_cons_of_mem _ t_1995)) (fun _ h9 => h9) rfl dX14_statement_105 (fun a_58 ma_58 ka_58 g => ?_)
  refine lv_iload_n hx hb dX14_statement_108 rfl (lv_at hl 0 rfl) ?_
  refine lv_iconst (v := 0) hx hb dX14_statement_109 (by decide) ?_
  have gp_59 := g
  have kb_0 : bd 0 0 (0 : Int32) := ⟨by decide, by decide⟩
  have go_ := g
  refine g_zastX hx hb hK g ma_58 ka_58 (by decide) rfl (in_bd b_3 (by decide)) (bd_sub kb_0 (by decide)) (by decide) dX14_statement_110 (fun f H locs hM_60 u_62 g => ?_)
  have hG_61 := isV.frame hM_60 go_.2.2.2.1 mq0_ kq0_ (by decide) (by decide) hV_56
  have hV_63 := isV.uo hV_56 gp_59 0 rfl mq0_ kq0_ rfl rfl u_62.1
  have hF_64 := FR.arr hF_57 gp_59 0 rfl mq0_ kq0_ rfl rfl u_62.1
  refine lv_aload_n hx hb dX14_statement_111 rfl (lv_at hl 1 rfl) ?_
  refine g_getk (C := RX14) (T := TX14) (N := 67) hx hb hts (mc_ inX14) hown hK g rfl 2 (by decide) rfl (hts _ (List.mem_cons_of_mem _ t_2148)) (fun _ h9 => h9) 11 rfl dX14_statement_112 ?_
  refine lv_dup hx hb dX14_statement_115 rfl ?_
  refine g_getk (C := RX12) (T := TX12) (N := 60) hx hb hts (mc_ inX12) hown hK g rfl 46 (by decide) rfl (hts _ (List.mem_cons_of_mem _ t_1996)) (fun _ h9 => h9) 10 rfl dX14_statement_116 ?_
  refine lv_iconst (v := 1) hx hb dX14_statement_119 (by decide) ?_
  have kb_1 : bd 1 1 (1 : Int32) := ⟨by decide, by decide⟩
  refine lv_iadd hx hb dX14_statement_120 ?_
  refine lv_topi (fun y_65 ey_65 => ?_)
  have ty_65 := add_bd ey_65 b_3 kb_1 (by decide)
  have b_66 : bd 1 700 y_65 := add_rg ty_65 b_3 kb_1 (by decide)
  have gp_67 := g
  have go_ := g
  refine g_putX (C := RX12) (T := TX12) (N := 60) hx hb hts (mc_ inX12) tyX12 tyX12_ok nmX12 hown hK g mq0_ kq0_ (by decide) rfl 46 (by decide) (hts _ (List.mem_cons_of_mem _ t_1996)) (fun _ h9 => h9) rfl rfl (okV_i (bd_sub b_66 (by decide))) rfl rfl (by decide) (Or.inr (Or.inl (by decide))) (fx' := [(12, 45, q0_, .ref a_58), (12, 42, q0_, .ref a_52), (12, 41, q0_, .ref a_46), (12, 40, q0_, .ref a_40), (12, 39, q0_, .ref a_34), (12, 38, q0_, .ref a_28), (12, 37, q0_, .ref a_22), (12, 36, q0_, .ref a_16), (12, 35, q0_, .ref a_10), (12, 34, q0_, .ref a_4), (14, 2, a0_, .ref q0_), (14, 17, a0_, .int me_)]) rfl dX14_statement_121 (fun f H locs hM_68 u_69 g => ?_)
  have hV_70 := isV.un hV_63 gp_67.2.2.2.1 mq0_ kq0_ rfl u_69
  have hF_71 := FR.fld hF_64 u_69
  refine lv_iload_n hx hb dX14_statement_124 rfl (lv_at hl 0 rfl) ?_
  subst hQ
  exact W.iret (v := x_1) hx hb hr (fun t ht hW => ⟨⟨_, _, rfl, ⟨⟨_, hV_70, sd_SN hn_2 b_3.1 (by have h9_0 := bme_; unfold bd at h9_0; have h9_1 := b_3; unfold bd at h9_1; have h9_2 := b_66; unfold bd at h9_2; have h8_0 := kb_0; unfold bd at h8_0; have h8_1 := kb_1; unfold bd at h8_1; have h8_2 := kb_m1; unfold bd at h8_2; omega)⟩, hF_71, b_3, y_65, b_66, (g.fcts [0] rfl)⟩, q3_of g hK ht hW⟩, g.2.2.1.F ht⟩) g.2.2.1.2.2 dX14_statement_125
set_option maxHeartbeats 4000000 in
set_option maxRecDepth 100000 in
theorem r_X14_readDoing (l : Launch) (dC : Nat → ClassId) (dI : Nat → Nat → Nat) (L : List Nat) (kd : Nat → Nat) (tys : List (ClassId × FieldType)) (f0 : Nat → va_E) (sz : Nat) (hWT : WT L kd tys f0) (adK adV : Nat → Nat) (a0_ : Nat) (ma0_ : a0_ ∈ L) (ka0_ : kd a0_ = 14) (q0_ : Nat) (mq0_ : q0_ ∈ L) (kq0_ : kd q0_ = 12) (V_ : PV) (δ_ : Nat → Nat) (U_ : Nat → Prop) (o_ : Int32) (bo_ : bd 0 7 o_) (op_ : Int32) (bop_ : bd 0 40 op_) (t_ : Int32) (bt_ : bd 0 1201 t_) (me_ : Int32) (bme_ : bd 0 109 me_) (br_ : Int32) (bbr_ : bd 1 8 br_) (so_ : Int32) (bso_ : bd 1 4 so_) (hV : isV f0 q0_ V_) (hSI : SI V_ δ_ V_ δ_ U_) (hU : ∀ s : Nat, U_ s → (s : Int) < (V_.n 46).toInt) (ho : (o_.toNatClampNeg : Int) < (V_.n 0).toInt) (hm27 : (me_.toNatClampNeg : Int) < (V_.n 27).toInt) (hm18 : (V_.i 18 me_.toNatClampNeg).toNatClampNeg = o_.toNatClampNeg) (hnn : (V_.n 57).toInt ≤ cF f0 a0_) (hns : 2 * (V_.n 46).toInt ≤ cF f0 a0_) (hn0 : 0 ≤ (V_.n 46).toInt) (K_ : Nat) (hK_ : 1204 ≤ 2 * (K_ : Int) + cF f0 a0_) (hfx : Fs L kd f0 [(14, 2, a0_, .ref q0_), (14, 16, a0_, .int o_), (14, 25, a0_, .int op_), (14, 10, a0_, .int t_), (14, 17, a0_, .int me_), (14, 26, a0_, .int br_), (14, 6, a0_, .int so_)]) : MetX l yX14_readDoing (.code yX14_readDoing cX14_readDoing 4 (some .int) :: lw_g) ({ frames := 487, cells := K_, slots := 3 * K_, locals := 28408 }) (va_Pc [.ref a0_] (P3A (dC, dI) L tys f0 sz adK adV)) (q3Z (dC, dI) L kd tys [(12, 46), (12, 57), (12, 58), (14, 6), (14, 7), (14, 8), (14, 9), (14, 10), (14, 11), (14, 12), (14, 13), (14, 14), (14, 15), (14, 21), (14, 25), (14, 26)] [180, 189, 190, 191, 192, 193, 194, 195, 196, 197, 198, 199, 200, 201, 202, 203, 204, 205, 206, 207, 208, 209, 210, 213, 214] f0 sz (pXi (fun (r : Int32) (f : Nat → va_E) (k : Nat) => (rdS L kd f0 a0_ q0_ V_ δ_ U_ f k (isS V_ r br_.toNatClampNeg me_.toNatClampNeg)) ∧ ∃ z2_ : Int32, bd 0 1201 z2_ ∧ Fs L kd f [(14, 25, a0_, .int op_), (14, 26, a0_, .int br_), (14, 10, a0_, .int z2_)])) (fun (f : Nat → va_E) (k : Nat) => FR L kd f0 f q0_ ∧ 2 * (k : Int) + cF f0 a0_ ≤ 1203)) (pA L sz) := by
  refine MetX.ofW (cc := cX14_readDoing) (maxL := 4) (ret := (some .int)) (by decide) rfl ?_
  intro p e s m args below meth c s₁ B hml hempty hv
  obtain ⟨rfl, ⟨hsz, hP, hK, hD0⟩, hAm⟩ := hv
  have hx := B.exec
  have hb := B.bytes
  have hr := B.returns
  have hts := atoms_spec (ws := (.code yX14_readDoing cX14_readDoing 4 (some .int) :: lw_g)) B.pre
  have hown : s.vm.findClass RX14 = some m.cls := findClass_of_methodNamed B.named
  have hlocks := B.notSynchronized
  subst hsz
  have g : G3 (dC, dI) L kd tys s f0 [(12, 46), (12, 57), (12, 58), (14, 6), (14, 7), (14, 8), (14, 9), (14, 10), (14, 11), (14, 12), (14, 13), (14, 14), (14, 15), (14, 21), (14, 25), (14, 26)] [180, 189, 190, 191, 192, 193, 194, 195, 196, 197, 198, 199, 200, 201, 202, 203, 204, 205, 206, 207, 208, 209, 210, 213, 214] f0 s.heap [] [(14, 2, a0_, .ref q0_), (14, 16, a0_, .int o_), (14, 25, a0_, .int op_), (14, 10, a0_, .int t_), (14, 17, a0_, .int me_), (14, 26, a0_, .int br_), (14, 6, a0_, .int so_)] := G3.start hP hD0 hWT hfx
  have hl := lv_entry ([.ref a0_]) (n := 4) (Nat.le_of_ble_eq_true rfl)
  rw [lg_entry_eq]
  generalize (lg_sl ([.ref a0_]) ++ List.replicate (4 - (lg_sl ([.ref a0_])).length) Slot.unset).toArray = ls at hl ⊢
  have hl : lv_has ls 4 [(0, .ref a0_)] := hl
  refine W_q (fun Q hQ => ?_)
  refine W_c0 (fun cl_0 hc_0 => ?_)
  have hck_0 : cl_0 ≤ K_ := by omega
  have hC_0 : cEq f0 a0_ (cF f0 a0_) := rfl
  have hm_0 : cF f0 a0_ ≤ 1202 := cF_le g ma0_ ka0_
  have hm_1 : -1 ≤ cF f0 a0_ := cF_ge g ma0_ ka0_
  have hsi_0 : SI V_ δ_ V_ δ_ U_ := hSI
  refine lv_aload_n hx hb dX14_readDoing_0 rfl (lv_at hl 0 rfl) ?_
  refine g_getk (C := RX14) (T := TX14) (N := 67) hx hb hts (mc_ inX14) hown hK g rfl 25 (by decide) rfl (hts _ (List.mem_cons_of_mem _ t_2171)) (fun _ h9 => h9) 2 rfl dX14_readDoing_1 ?_
  refine lv_istore_n (lv' := [(1, .int op_), (0, .ref a0_)]) hx hb dX14_readDoing_4 rfl hl (by decide) rfl (fun ls hl => ?_)
  refine lv_aload_n hx hb dX14_readDoing_5 rfl (lv_at hl 1 rfl) ?_
  refine lv_iconst (v := 0) hx hb dX14_readDoing_6 (by decide) ?_
  have kb_0 : bd 0 0 (0 : Int32) := ⟨by decide, by decide⟩
  have go_ := g
  refine g_put (C := RX14) (T := TX14) (N := 67) hx hb hts (mc_ inX14) tyX14 tyX14_ok nmX14 hown hK g ma0_ ka0_ (by decide) rfl 25 (by decide) (hts _ (List.mem_cons_of_mem _ t_2171)) (fun _ h9 => h9) rfl rfl (okV_i (bd_sub kb_0 (by decide))) rfl rfl (by decide) (Or.inr (Or.inl (by decide))) (fx' := [(14, 2, a0_, .ref q0_), (14, 16, a0_, .int o_), (14, 10, a0_, .int t_), (14, 17, a0_, .int me_), (14, 26, a0_, .int br_), (14, 6, a0_, .int so_)]) rfl dX14_readDoing_7 (fun f H locs hM_1 g => ?_)
  have hG_2 := isV.frame hM_1 go_.2.2.2.1 mq0_ kq0_ (by decide) (by decide) hV
  have hG_3 := FR.frame hM_1 go_.2.2.2.1 mq0_ kq0_ (by decide) (by decide) FR.refl
  have hG_4 := cEq.frame hM_1 go_.2.2.2.1 ma0_ ka0_ (by decide) (by decide) hC_0
  refine lv_aload_n hx hb dX14_readDoing_10 rfl (lv_at hl 1 rfl) ?_
  refine lv_bipush (v := 7) hx hb dX14_readDoing_11 (by decide) ?_
  have hs_5 := sE_1 g 6 rfl (by have h9_0 := bbr_; unfold bd at h9_0; have h9_1 := bme_; unfold bd at h9_1; have h9_2 := bo_; unfold bd at h9_2; have h9_3 := bop_; unfold bd at h9_3; have h9_4 := bso_; unfold bd at h9_4; have h9_5 := bt_; unfold bd at h9_5; have h8_0 := kb_0; unfold bd at h8_0; omega)
  have go_ := g
  refine g_calli (va_runV (As := [.int 7]) (rest := []) ⟨hx, hb, hml, hown, hts⟩ (r_X14_statement l dC dI L kd tys f H.size g.2.2.2.1 a0_ ma0_ ka0_ 7 q0_ mq0_ kq0_ me_ bme_ V_ hG_2 (by omega) (g.fcts [1, 4] rfl)) (cwV 1 hts (gV_ t_2554 t_2556 t_134 t_198 t_2557) rfl rfl rfl (by decide +kernel) ⟨(Nat.le_of_ble_eq_true rfl), (Nat.le_of_ble_eq_true rfl)⟩) (pre3V g hK ma0_ ka0_ (by decide) (q := (RX14, TX14, 67)) rfl) rfl rfl hl.1 rfl (lv_room (Nat.le_of_ble_eq_true rfl)) dX14_readDoing_13 (cl_f hck_0)) g hK (by decide) (by decide) (fx' := [(14, 25, a0_, .int 0), (14, 2, a0_, .ref q0_), (14, 16, a0_, .int o_), (14, 10, a0_, .int t_), (14, 17, a0_, .int me_), (14, 26, a0_, .int br_), (14, 6, a0_, .int so_)]) rfl (fun r_6 fr_6 H locs hp hMr_6 g => ?_)
  obtain ⟨hx_7, hx_8, h_9, x_10, h_11, hF_12⟩ := hp
  have hG_13 := cEq.frame hMr_6 go_.2.2.2.1 ma0_ ka0_ (by decide) (by decide) hG_4
  have hF_14 := FR.call (mds := []) (mas := []) hG_3 go_ mq0_ kq0_ rfl hx_8
  obtain ⟨V_15, hV_16, hN_17⟩ := hx_7
  obtain ⟨D_18, hd_19, hsi_20⟩ := SI.newE (b := br_.toNatClampNeg) hsi_0 hN_17 h_9.1
  have hsi_20e : (V_15.n 57).toInt = (V_.n 57).toInt := by rw [(hN_17).2.2.2.1]
  have hsi_20f : r_6.toInt = (V_.n 46).toInt := by rw [← (hN_17).2.1]
  have hsi_20g := (hN_17).2.2.1
  have hlt_22 : ((r_6.toNatClampNeg : Nat) : Int) < (V_15.n 46).toInt := by rw [tnZ h_9.1]; omega
  have g := g.more hF_12
  refine lv_istore_n (lv' := [(2, .int r_6), (1, .int op_), (0, .ref a0_)]) hx hb dX14_readDoing_16 rfl hl (by decide) rfl (fun ls hl => ?_)
  refine lv_aload_n hx hb dX14_readDoing_17 rfl (lv_at hl 2 rfl) ?_
  refine lv_iconst (v := 1) hx hb dX14_readDoing_18 (by decide) ?_
  have hs_23 := sE_1 g 7 rfl (by have h9_0 := bbr_; unfold bd at h9_0; have h9_1 := bme_; unfold bd at h9_1; have h9_2 := bo_; unfold bd at h9_2; have h9_3 := bop_; unfold bd at h9_3; have h9_4 := h_9; unfold bd at h9_4; have h9_5 := bso_; unfold bd at h9_5; have h9_6 := bt_; unfold bd at h9_6; have h9_7 := h_11; unfold bd at h9_7; have h8_0 := kb_0; unfold bd at h8_0; omega)
  have go_ := g
  refine g_calli (va_runV (As := [.int 1]) (rest := []) ⟨hx, hb, hml, hown, hts⟩ (r_X14_isWord l dC dI L kd tys fr_6 H.size g.2.2.2.1 a0_ ma0_ ka0_ 1) (cwV 1 hts (gV_ t_2399 t_2401 t_99 t_198 t_2402) rfl rfl rfl (by decide +kernel) ⟨(Nat.le_of_ble_eq_true rfl), (Nat.le_of_ble_eq_true rfl)⟩) (pre3V g hK ma0_ ka0_ (by decide) (q := (RX14, TX14, 67)) rfl) rfl rfl hl.1 rfl (lv_room (Nat.le_of_ble_eq_true rfl)) dX14_readDoing_19 (cl_f hck_0)) g hK (by decide) (by decide) (fx' := [(12, 46, q0_, .int x_10), (14, 25, a0_, .int 0), (14, 2, a0_, .ref q0_), (14, 16, a0_, .int o_), (14, 10, a0_, .int t_), (14, 17, a0_, .int me_), (14, 26, a0_, .int br_), (14, 6, a0_, .int so_)]) rfl (fun r_24 fr_24 H locs hp hMr_24 g => ?_)
  rcases hp with ⟨h_25, -⟩ | ⟨h_26, x_27, h_28, hF_29⟩
  · have hG_30 := cEq.frame hMr_24 go_.2.2.2.1 ma0_ ka0_ (by decide) (by decide) hG_13
    have hG_31 := FR.frame hMr_24 go_.2.2.2.1 mq0_ kq0_ (by decide) (by decide) hF_14
    have hG_32 := isV.frame hMr_24 go_.2.2.2.1 mq0_ kq0_ (by decide) (by decide) hV_16
    obtain rfl : r_24 = 0 := h_25
    refine lv_if_eq (tgt := 33) hx hb dX14_readDoing_22 (by decide) (fun c_ => ?_) (fun c_ => absurd (by decide) c_)
    refine lv_aload_n hx hb dX14_readDoing_33 rfl (lv_at hl 2 rfl) ?_
    refine lv_iconst (v := 0) hx hb dX14_readDoing_34 (by decide) ?_
    refine lv_iconst (v := 0) hx hb dX14_readDoing_35 (by decide) ?_
    have qc__33 : cF fr_24 a0_ = _ := hG_30
    have hs_34 := sE_1 g 7 rfl (by have h9_0 := bbr_; unfold bd at h9_0; have h9_1 := bme_; unfold bd at h9_1; have h9_2 := bo_; unfold bd at h9_2; have h9_3 := bop_; unfold bd at h9_3; have h9_4 := h_9; unfold bd at h9_4; have h9_5 := bso_; unfold bd at h9_5; have h9_6 := bt_; unfold bd at h9_6; have h9_7 := h_11; unfold bd at h9_7; have h8_0 := kb_0; unfold bd at h8_0; omega)
    have go_ := g
    refine g_callZi (As := [.int 0, .int 0]) (rest := []) ⟨hx, hb, hml, hown, hts⟩ ((recR 461).2.2.2.2.1 l dC dI L kd tys fr_24 H.size g.2.2.2.1 adK adV a0_ ma0_ ka0_ (0 : Int32) (bd_sub kb_0 (by decide)) (0 : Int32) (bd_sub kb_0 (by decide)) q0_ mq0_ kq0_ V_15 o_ bo_ (0 : Int32) (bd_sub kb_0 (by decide)) t_ bt_ so_ bso_ hG_32 hsi_20.2.2.1 (by rw [hsi_20.1.2.2.1 0 (by decide) (by decide)]; exact ho) (by omega) 13 ⟨(by decide), (by decide), (fun _ => rfl)⟩ (K_ - cl_0) (by omega) (by have h9_0 := bbr_; unfold bd at h9_0; have h9_1 := bme_; unfold bd at h9_1; have h9_2 := bo_; unfold bd at h9_2; have h9_3 := bop_; unfold bd at h9_3; have h9_4 := h_9; unfold bd at h9_4; have h9_5 := bso_; unfold bd at h9_5; have h9_6 := bt_; unfold bd at h9_6; have h9_7 := h_11; unfold bd at h9_7; have h8_0 := kb_0; unfold bd at h8_0; omega) (g.fcts [2, 3, 1, 4, 7] rfl)) (cwV 2 hts (gV_ t_2496 t_2498 t_121 t_198 t_2499) rfl rfl rfl (by decide +kernel) ⟨(Nat.le_of_ble_eq_true rfl), (Nat.le_of_ble_eq_true rfl)⟩) (pre3VA g hK hAm ma0_ ka0_ (by decide) (q := (RX14, TX14, 67)) rfl) rfl hl.1 rfl (lv_room (Nat.le_of_ble_eq_true rfl)) dX14_readDoing_36 (cl_k (K := K_) (k := K_ - cl_0) (show cl_0 + (K_ - cl_0) ≤ K_ by omega)) g hK (by decide) (by decide) (fx' := [(12, 46, q0_, .int x_10), (14, 2, a0_, .ref q0_), (14, 16, a0_, .int o_), (14, 17, a0_, .int me_), (14, 26, a0_, .int br_)]) rfl (fun xr_35 fr_35 H locs kr_35 cr_35 ecr_35 mxr_35 kxr_35 hp hMr_35 g => ?_) (fun r_35 fr_35 H locs kr_35 cr_35 ecr_35 hp hMr_35 g => ?_)
    · have hF_36 := FR.call (mds := []) (mas := []) hG_31 go_ mq0_ kq0_ rfl hp.1
      have hpk := hp.2
      subst hQ
      exact leavesX hempty hlocks (fun t ht hW => g_thrZ g hK mxr_35 kxr_35 ⟨hF_36, (by omega)⟩ ht hW) g.2.2.1.2.2
    · obtain ⟨hx_37, x_38, h_39, hF_40⟩ := hp
      obtain ⟨V_41, E_42, hV_43, hF_44, hE_45, hX_46, hw_47, hv_48, hP_49, hn_50, hk_51, hc_52⟩ := rd_use hx_37 hG_30
      have hF_53 := FR.call (mds := []) (mas := []) hG_31 go_ mq0_ kq0_ rfl hF_44
      have mxE_42 : E_42 ≤ 1202 := by have h9 := cF_le g ma0_ ka0_; have h8 : cF _ _ = _ := hE_45; omega
      have hsi_54 := SI.nodes hsi_20 hX_46 hw_47
      have hsi_54n : (V_41.n 46).toInt = (V_15.n 46).toInt := by rw [exN.n46 hX_46]
      have hst_55 := ST.ex_ (hN_17).2.2.2.2.1 (exN.toS hX_46) hlt_22
      have hd_56 := ((fun _ _ => rfl) _ hlt_22).trans hd_19
      have hlt_57 := Int.lt_of_lt_of_le hlt_22 ((exN.toS hX_46)).2.2.2.2.1
      have hck_58 : cr_35 ≤ K_ := by omega
      have b_59 : bd 0 2499 r_35 := ⟨hv_48.1, (by have h9 := hv_48.2.1; omega)⟩
      have g := g.more hF_40
      refine lv_istore_n (lv' := [(3, .int r_35), (2, .int r_6), (1, .int op_), (0, .ref a0_)]) hx hb dX14_readDoing_39 rfl hl (by decide) rfl (fun ls hl => ?_)
      refine lv_aload_n hx hb dX14_readDoing_40 rfl (lv_at hl 3 rfl) ?_
      refine lv_iload_n hx hb dX14_readDoing_41 rfl (lv_at hl 2 rfl) ?_
      have go_ := g
      refine g_put (C := RX14) (T := TX14) (N := 67) hx hb hts (mc_ inX14) tyX14 tyX14_ok nmX14 hown hK g ma0_ ka0_ (by decide) rfl 25 (by decide) (hts _ (List.mem_cons_of_mem _ t_2171)) (fun _ h9 => h9) rfl rfl (okV_i bop_) rfl rfl (by decide) (Or.inr (Or.inl (by decide))) (fx' := [(14, 10, a0_, .int x_38), (12, 46, q0_, .int x_10), (14, 2, a0_, .ref q0_), (14, 16, a0_, .int o_), (14, 17, a0_, .int me_), (14, 26, a0_, .int br_)]) rfl dX14_readDoing_42 (fun f H locs hM_60 g => ?_)
      have hG_61 := isV.frame hM_60 go_.2.2.2.1 mq0_ kq0_ (by decide) (by decide) hV_43
      have hG_62 := FR.frame hM_60 go_.2.2.2.1 mq0_ kq0_ (by decide) (by decide) hF_53
      have hG_63 := cEq.frame hM_60 go_.2.2.2.1 ma0_ ka0_ (by decide) (by decide) hE_45
      refine lv_aload_n hx hb dX14_readDoing_45 rfl (lv_at hl 3 rfl) ?_
      refine g_getk (C := RX14) (T := TX14) (N := 67) hx hb hts (mc_ inX14) hown hK g rfl 2 (by decide) rfl (hts _ (List.mem_cons_of_mem _ t_2148)) (fun _ h9 => h9) 3 rfl dX14_readDoing_46 ?_
      refine g_getr (K := 201) (C := RX12) (T := TX12) (N := 60) hx hb hts (mc_ inX12) hown hK g mq0_ kq0_ (by decide) rfl 47 (by decide) rfl (hts _ (List.mem_cons_of_mem _ t_1998)) (fun _ h9 => h9) rfl dX14_readDoing_49 (fun a_64 ma_64 ka_64 g => ?_)
      refine lv_iload_n hx hb dX14_readDoing_52 rfl (lv_at hl 0 rfl) ?_
      refine g_iald hx hb hK g ma_64 ka_64 (by decide) rfl (in_bd b_59 (by decide)) dX14_readDoing_53 (fun x_65 bx_65 cx_65 => ?_)
      have vx_65 : x_65 = V_41.i 47 r_35.toNatClampNeg := hG_61.at g 0 rfl rfl cx_65
      refine lv_iconst (v := 2) hx hb dX14_readDoing_54 (by decide) ?_
      have kb_2 : bd 2 2 (2 : Int32) := ⟨by decide, by decide⟩
      refine lv_icmp_ne (tgt := 126) hx hb dX14_readDoing_55 (by decide) (fun c_66 => ?_) (fun c_66 => ?_)
      · have fc_66 := neq_f c_66
        refine lv_aload_n hx hb dX14_readDoing_126 rfl (lv_at hl 3 rfl) ?_
        refine g_getk (C := RX14) (T := TX14) (N := 67) hx hb hts (mc_ inX14) hown hK g rfl 2 (by decide) rfl (hts _ (List.mem_cons_of_mem _ t_2148)) (fun _ h9 => h9) 4 rfl dX14_readDoing_127 ?_
        refine g_getr (K := 191) (C := RX12) (T := TX12) (N := 60) hx hb hts (mc_ inX12) hown hK g mq0_ kq0_ (by decide) rfl 36 (by decide) rfl (hts _ (List.mem_cons_of_mem _ t_1977)) (fun _ h9 => h9) rfl dX14_readDoing_130 (fun a_67 ma_67 ka_67 g => ?_)
        refine lv_iload_n hx hb dX14_readDoing_133 rfl (lv_at hl 1 rfl) ?_
        refine lv_iload_n hx hb dX14_readDoing_134 rfl (lv_at hl 0 rfl) ?_
        have hc_68 : (V_41.i 47 r_35.toNatClampNeg).toInt = 3 ∨ (V_41.i 47 r_35.toNatClampNeg).toInt = 9 := by have h9 := hP_49; have h8 := congrArg Int32.toInt vx_65; have h7 := fc_66; simp only [Int32.toInt_ofNat] at h9 h7; have h9_0 := bbr_; unfold bd at h9_0; have h9_1 := bme_; unfold bd at h9_1; have h9_2 := bo_; unfold bd at h9_2; have h9_3 := bop_; unfold bd at h9_3; have h9_4 := b_59; unfold bd at h9_4; have h9_5 := h_9; unfold bd at h9_5; have h9_6 := bso_; unfold bd at h9_6; have h9_7 := bt_; unfold bd at h9_7; have h9_8 := h_11; unfold bd at h9_8; have h9_9 := h_39; unfold bd at h9_9; have h8_0 := kb_0; unfold bd at h8_0; have h8_1 := kb_2; unfold bd at h8_1; omega
        have gp_69 := g
        have go_ := g
        refine g_iastX hx hb hK g ma_67 ka_67 (by decide) rfl (in_bd h_9 (by decide)) (bd_sub b_59 (by decide)) (by decide) dX14_readDoing_135 (fun f H locs hM_70 u_72 g => ?_)
        have hG_71 := cEq.frame hM_70 go_.2.2.2.1 ma0_ ka0_ (by decide) (by decide) hG_63
        have hV_73 := isV.ui hG_61 gp_69 0 rfl mq0_ kq0_ rfl u_72
        have hF_74 := FR.arr hG_62 gp_69 0 rfl mq0_ kq0_ rfl rfl u_72.1
        obtain ⟨V_75, hV_76, hsi_77, hst_78, hne_80, hne_80b, hl_81, hl_82⟩ : ∃ V1 : PV, isV f q0_ V1 ∧ SI V_ δ_ V1 D_18 (fun k => U_ k ∨ k = r_6.toNatClampNeg) ∧ ST V1 r_6.toNatClampNeg (7 : Int32) ((-1) : Int32) r_35 ((-1) : Int32) ((-1) : Int32) ((-1) : Int32) ((-1) : Int32) (-1) me_ ∧ (V1.n 57).toInt = (V_41.n 57).toInt ∧ (V1.n 46).toInt = (V_41.n 46).toInt ∧ EV V1 r_35 13 o_.toNatClampNeg ∧ ((V1.i 47 r_35.toNatClampNeg).toInt = 3 ∨ (V1.i 47 r_35.toNatClampNeg).toInt = 9) := ⟨_, hV_73, SI.upd hsi_54 (by decide) (by rw [tnZ h_9.1]; omega) (Or.inr rfl), ST.s36 hst_55, rfl, rfl, (EV.ui_ (j := 36) (by decide)).mpr hv_48, op_ui (by decide) hc_68⟩
        have hlt_79 : ((r_6.toNatClampNeg : Nat) : Int) < (V_75.n 46).toInt := by rw [hne_80b]; exact hlt_57
        refine lv_aload_n hx hb dX14_readDoing_136 rfl (lv_at hl 3 rfl) ?_
        refine lv_bipush (v := 59) hx hb dX14_readDoing_137 (by decide) ?_
        have go_ := g
        refine g_callEv (As := [.int 59]) (rest := []) ⟨hx, hb, hml, hown, hts⟩ (r_X14_sign_2 l dC dI L kd tys f H.size g.2.2.2.1 adK adV a0_ ma0_ ka0_ 59 x_38 h_39 (g.fcts [3] rfl)) (cwV 1 hts (gV_ t_2431 t_2433 t_107 t_198 t_2434) rfl rfl rfl (by decide +kernel) ⟨(Nat.le_of_ble_eq_true rfl), (Nat.le_of_ble_eq_true rfl)⟩) (pre3VA g hK hAm ma0_ ka0_ (by decide) (q := (RX14, TX14, 67)) rfl) rfl hl.1 rfl (lv_room (Nat.le_of_ble_eq_true rfl)) dX14_readDoing_139 (cl_f hck_58) g hK (by decide) (by decide) (fx' := [(12, 36, q0_, .ref a_67), (12, 47, q0_, .ref a_64), (14, 25, a0_, .int op_), (12, 46, q0_, .int x_10), (14, 2, a0_, .ref q0_), (14, 16, a0_, .int o_), (14, 17, a0_, .int me_), (14, 26, a0_, .int br_)]) rfl (fun xr_83 fr_83 H locs mxr_83 kxr_83 hp hMr_83 g => ?_) (fun fr_83 H locs hp hMr_83 g => ?_)
        · have hG_84 := isV.frame hMr_83 go_.2.2.2.1 mq0_ kq0_ (by decide) (by decide) hV_76
          have hG_85 := FR.frame hMr_83 go_.2.2.2.1 mq0_ kq0_ (by decide) (by decide) hF_74
          subst hQ
          exact leavesX hempty hlocks (fun t ht hW => g_thrZ g hK mxr_83 kxr_83 ⟨hG_85, (by omega)⟩ ht hW) g.2.2.1.2.2
        · obtain ⟨hx_86, h_87, x_88, h_89, hF_90⟩ := hp
          have hG_91 := isV.frame hMr_83 go_.2.2.2.1 mq0_ kq0_ (by decide) (by decide) hV_76
          have hG_92 := FR.frame hMr_83 go_.2.2.2.1 mq0_ kq0_ (by decide) (by decide) hF_74
          obtain ⟨E_93, hE_93⟩ : ∃ E : Int, cEq fr_83 a0_ E := ⟨_, rfl⟩
          have mxE_93 : E_93 ≤ 1202 := by have h9 := cF_le g ma0_ ka0_; have h8 : cF _ _ = _ := hE_93; omega
          have lE_93 : E_42 + 1 ≤ E_93 := by have h9 := hx_86; have h8 : cF _ _ = _ := hE_93; have h7 : cF _ _ = _ := hG_71; omega
          have b_94 : bd 0 1200 x_38 := eqX rfl h_39 h_87 (by decide)
          have g := g.more hF_90
          refine lv_iload_n hx hb dX14_readDoing_142 rfl (lv_at hl 1 rfl) ?_
          have hok_95 := st_ok (d := o_.toNatClampNeg) hst_78 hd_56 (lv_bd bbr_) rfl (by rw [hsi_77.1.2.2.1 27 (by decide) (by decide)]; exact hm27) (by rw [hsi_77.1.1 18 (by decide) (by decide)]; exact hm18) (Or.inl (by decide)) (fun h9 => absurd h9 (by decide)) (fun h9 => absurd h9 (by decide)) (fun h9 => absurd h9 (by decide)) (fun h9 => absurd h9 (by decide)) (fun h9 => absurd h9 (by decide)) (fun _ => ⟨(hl_81.up (by decide)), hl_82⟩)
          have hsi_96 := SI.close hsi_77 hok_95
          have h9c : cF fr_83 a0_ = _ := hE_93
          subst hQ
          exact iretX (v := r_6) hx hb hr (fun t ht hW => g_retZ g hK ⟨_, rfl, ⟨⟨_, _, hG_91, hG_92, hsi_96, ⟨(by omega), (by have h9 := hlt_79; rw [tnZ h_9.1] at h9; exact h9), hd_56, (by rw [hst_78.2.2.2.2.2.2.2.2])⟩, (by omega), (by omega), (by omega), (by omega)⟩, x_88, h_89, (g.fcts [3, 8, 0] rfl)⟩⟩ ht hW) g.2.2.1.2.2 dX14_readDoing_143 hlocks
      · have fc_66 := eq_f c_66
        have b_97 : bd 2 2 x_65 := eqX fc_66 (bdT x_65) kb_2 (by decide)
        refine lv_aload_n hx hb dX14_readDoing_58 rfl (lv_at hl 3 rfl) ?_
        refine g_getk (C := RX14) (T := TX14) (N := 67) hx hb hts (mc_ inX14) hown hK g rfl 2 (by decide) rfl (hts _ (List.mem_cons_of_mem _ t_2148)) (fun _ h9 => h9) 4 rfl dX14_readDoing_59 ?_
        refine g_getr (K := 189) (C := RX12) (T := TX12) (N := 60) hx hb hts (mc_ inX12) hown hK g mq0_ kq0_ (by decide) rfl 34 (by decide) rfl (hts _ (List.mem_cons_of_mem _ t_1973)) (fun _ h9 => h9) rfl dX14_readDoing_62 (fun a_98 ma_98 ka_98 g => ?_)
        refine lv_iload_n hx hb dX14_readDoing_65 rfl (lv_at hl 1 rfl) ?_
        refine lv_iconst (v := 2) hx hb dX14_readDoing_66 (by decide) ?_
        have ho_99 : (V_41.i 47 r_35.toNatClampNeg).toInt = 2 := by rw [← vx_65]; have h9 := b_97; unfold bd at h9; omega
        have gp_100 := g
        have go_ := g
        refine g_iastX hx hb hK g ma_98 ka_98 (by decide) rfl (in_bd h_9 (by decide)) (bd_sub kb_2 (by decide)) (by decide) dX14_readDoing_67 (fun f H locs hM_101 u_103 g => ?_)
        have hG_102 := cEq.frame hM_101 go_.2.2.2.1 ma0_ ka0_ (by decide) (by decide) hG_63
        have hV_104 := isV.ui hG_61 gp_100 0 rfl mq0_ kq0_ rfl u_103
        have hF_105 := FR.arr hG_62 gp_100 0 rfl mq0_ kq0_ rfl rfl u_103.1
        obtain ⟨V_106, hV_107, hsi_108, hst_109, hne_111, hne_111b, hl_112, hl_113⟩ : ∃ V1 : PV, isV f q0_ V1 ∧ SI V_ δ_ V1 D_18 (fun k => U_ k ∨ k = r_6.toNatClampNeg) ∧ ST V1 r_6.toNatClampNeg (2 : Int32) ((-1) : Int32) ((-1) : Int32) ((-1) : Int32) ((-1) : Int32) ((-1) : Int32) ((-1) : Int32) (-1) me_ ∧ (V1.n 57).toInt = (V_41.n 57).toInt ∧ (V1.n 46).toInt = (V_41.n 46).toInt ∧ EV V1 r_35 13 o_.toNatClampNeg ∧ (V1.i 47 r_35.toNatClampNeg).toInt = 2 := ⟨_, hV_104, SI.upd hsi_54 (by decide) (by rw [tnZ h_9.1]; omega) (Or.inr rfl), ST.s34 hst_55, rfl, rfl, (EV.ui_ (j := 34) (by decide)).mpr hv_48, op2_ui (by decide) ho_99⟩
        have hlt_110 : ((r_6.toNatClampNeg : Nat) : Int) < (V_106.n 46).toInt := by rw [hne_111b]; exact hlt_57
        refine lv_aload_n hx hb dX14_readDoing_68 rfl (lv_at hl 3 rfl) ?_
        refine g_getk (C := RX14) (T := TX14) (N := 67) hx hb hts (mc_ inX14) hown hK g rfl 2 (by decide) rfl (hts _ (List.mem_cons_of_mem _ t_2148)) (fun _ h9 => h9) 5 rfl dX14_readDoing_69 ?_
        refine g_getr (K := 190) (C := RX12) (T := TX12) (N := 60) hx hb hts (mc_ inX12) hown hK g mq0_ kq0_ (by decide) rfl 35 (by decide) rfl (hts _ (List.mem_cons_of_mem _ t_1975)) (fun _ h9 => h9) rfl dX14_readDoing_72 (fun a_114 ma_114 ka_114 g => ?_)
        refine lv_iload_n hx hb dX14_readDoing_75 rfl (lv_at hl 1 rfl) ?_
        refine lv_aload_n hx hb dX14_readDoing_76 rfl (lv_at hl 3 rfl) ?_
        refine g_getk (C := RX14) (T := TX14) (N := 67) hx hb hts (mc_ inX14) hown hK g rfl 2 (by decide) rfl (hts _ (List.mem_cons_of_mem _ t_2148)) (fun _ h9 => h9) 6 rfl dX14_readDoing_77 ?_
        refine g_getr (K := 204) (C := RX12) (T := TX12) (N := 60) hx hb hts (mc_ inX12) hown hK g mq0_ kq0_ (by decide) rfl 50 (by decide) rfl (hts _ (List.mem_cons_of_mem _ t_2004)) (fun _ h9 => h9) rfl dX14_readDoing_80 (fun a_115 ma_115 ka_115 g => ?_)
        refine lv_iload_n hx hb dX14_readDoing_83 rfl (lv_at hl 0 rfl) ?_
        refine g_iald hx hb hK g ma_115 ka_115 (by decide) rfl (in_bd b_59 (by decide)) dX14_readDoing_84 (fun x_116 bx_116 cx_116 => ?_)
        have vx_116 : x_116 = V_106.i 50 r_35.toNatClampNeg := hV_107.at g 0 rfl rfl cx_116
        have hv_117 : varOK V_106 x_116 o_.toNatClampNeg := nd_var hsi_108.2.2.1 hl_112 hl_113 vx_116
        have gp_118 := g
        have go_ := g
        refine g_iastX hx hb hK g ma_114 ka_114 (by decide) rfl (in_bd h_9 (by decide)) (bdT x_116) (by decide) dX14_readDoing_85 (fun f H locs hM_119 u_121 g => ?_)
        have hG_120 := cEq.frame hM_119 go_.2.2.2.1 ma0_ ka0_ (by decide) (by decide) hG_102
        have hV_122 := isV.ui hV_107 gp_118 1 rfl mq0_ kq0_ rfl u_121
        have hF_123 := FR.arr hF_105 gp_118 1 rfl mq0_ kq0_ rfl rfl u_121.1
        obtain ⟨V_124, hV_125, hsi_126, hst_127, hne_129, hne_129b, hl_130, hl_131, hl_132⟩ : ∃ V1 : PV, isV f q0_ V1 ∧ SI V_ δ_ V1 D_18 (fun k => U_ k ∨ k = r_6.toNatClampNeg) ∧ ST V1 r_6.toNatClampNeg (2 : Int32) x_116 ((-1) : Int32) ((-1) : Int32) ((-1) : Int32) ((-1) : Int32) ((-1) : Int32) (-1) me_ ∧ (V1.n 57).toInt = (V_106.n 57).toInt ∧ (V1.n 46).toInt = (V_106.n 46).toInt ∧ EV V1 r_35 13 o_.toNatClampNeg ∧ varOK V1 x_116 o_.toNatClampNeg ∧ (V1.i 47 r_35.toNatClampNeg).toInt = 2 := ⟨_, hV_122, SI.upd hsi_108 (by decide) (by rw [tnZ h_9.1]; omega) (Or.inr rfl), ST.s35 hst_109, rfl, rfl, (EV.ui_ (j := 35) (by decide)).mpr hl_112, var_ui (by decide) hv_117, op2_ui (by decide) hl_113⟩
        have hlt_128 : ((r_6.toNatClampNeg : Nat) : Int) < (V_124.n 46).toInt := by rw [hne_129b]; exact hlt_110
        refine lv_aload_n hx hb dX14_readDoing_86 rfl (lv_at hl 3 rfl) ?_
        refine g_getk (C := RX14) (T := TX14) (N := 67) hx hb hts (mc_ inX14) hown hK g rfl 2 (by decide) rfl (hts _ (List.mem_cons_of_mem _ t_2148)) (fun _ h9 => h9) 7 rfl dX14_readDoing_87 ?_
        refine g_getr (K := 192) (C := RX12) (T := TX12) (N := 60) hx hb hts (mc_ inX12) hown hK g mq0_ kq0_ (by decide) rfl 37 (by decide) rfl (hts _ (List.mem_cons_of_mem _ t_1979)) (fun _ h9 => h9) rfl dX14_readDoing_90 (fun a_133 ma_133 ka_133 g => ?_)
        refine lv_iload_n hx hb dX14_readDoing_93 rfl (lv_at hl 1 rfl) ?_
        refine lv_aload_n hx hb dX14_readDoing_94 rfl (lv_at hl 3 rfl) ?_
        refine g_getk (C := RX14) (T := TX14) (N := 67) hx hb hts (mc_ inX14) hown hK g rfl 2 (by decide) rfl (hts _ (List.mem_cons_of_mem _ t_2148)) (fun _ h9 => h9) 8 rfl dX14_readDoing_95 ?_
        refine g_getr (K := 202) (C := RX12) (T := TX12) (N := 60) hx hb hts (mc_ inX12) hown hK g mq0_ kq0_ (by decide) rfl 48 (by decide) rfl (hts _ (List.mem_cons_of_mem _ t_2000)) (fun _ h9 => h9) rfl dX14_readDoing_98 (fun a_134 ma_134 ka_134 g => ?_)
        refine lv_iload_n hx hb dX14_readDoing_101 rfl (lv_at hl 0 rfl) ?_
        refine g_iald hx hb hK g ma_134 ka_134 (by decide) rfl (in_bd b_59 (by decide)) dX14_readDoing_102 (fun x_135 bx_135 cx_135 => ?_)
        have vx_135 : x_135 = V_124.i 48 r_35.toNatClampNeg := hV_125.at g 0 rfl rfl cx_135
        have hv_136 := nd_idx hsi_126.2.2.1 hl_130 (by decide) hl_132 vx_135
        rcases hv_136 with hv_136 | hv_136
        · have gp_137 := g
          have go_ := g
          refine g_iastX hx hb hK g ma_133 ka_133 (by decide) rfl (in_bd h_9 (by decide)) (bdT x_135) (by decide) dX14_readDoing_103 (fun f H locs hM_138 u_140 g => ?_)
          have hG_139 := cEq.frame hM_138 go_.2.2.2.1 ma0_ ka0_ (by decide) (by decide) hG_120
          have hV_141 := isV.ui hV_125 gp_137 1 rfl mq0_ kq0_ rfl u_140
          have hF_142 := FR.arr hF_123 gp_137 1 rfl mq0_ kq0_ rfl rfl u_140.1
          obtain ⟨V_143, hV_144, hsi_145, hst_146, hne_148, hne_148b, hl_149, hl_150, hl_151⟩ : ∃ V1 : PV, isV f q0_ V1 ∧ SI V_ δ_ V1 D_18 (fun k => U_ k ∨ k = r_6.toNatClampNeg) ∧ ST V1 r_6.toNatClampNeg (2 : Int32) x_116 ((-1) : Int32) x_135 ((-1) : Int32) ((-1) : Int32) ((-1) : Int32) (-1) me_ ∧ (V1.n 57).toInt = (V_124.n 57).toInt ∧ (V1.n 46).toInt = (V_124.n 46).toInt ∧ EV V1 r_35 13 o_.toNatClampNeg ∧ varOK V1 x_116 o_.toNatClampNeg ∧ (V1.i 47 r_35.toNatClampNeg).toInt = 2 := ⟨_, hV_141, SI.upd hsi_126 (by decide) (by rw [tnZ h_9.1]; omega) (Or.inr rfl), ST.s37 hst_127, rfl, rfl, (EV.ui_ (j := 37) (by decide)).mpr hl_130, var_ui (by decide) hl_131, op2_ui (by decide) hl_132⟩
          have hlt_147 : ((r_6.toNatClampNeg : Nat) : Int) < (V_143.n 46).toInt := by rw [hne_148b]; exact hlt_128
          refine lv_aload_n hx hb dX14_readDoing_104 rfl (lv_at hl 3 rfl) ?_
          refine lv_bipush (v := 61) hx hb dX14_readDoing_105 (by decide) ?_
          have go_ := g
          refine g_callEv (As := [.int 61]) (rest := []) ⟨hx, hb, hml, hown, hts⟩ (r_X14_sign_2 l dC dI L kd tys f H.size g.2.2.2.1 adK adV a0_ ma0_ ka0_ 61 x_38 h_39 (g.fcts [7] rfl)) (cwV 1 hts (gV_ t_2431 t_2433 t_107 t_198 t_2434) rfl rfl rfl (by decide +kernel) ⟨(Nat.le_of_ble_eq_true rfl), (Nat.le_of_ble_eq_true rfl)⟩) (pre3VA g hK hAm ma0_ ka0_ (by decide) (q := (RX14, TX14, 67)) rfl) rfl hl.1 rfl (lv_room (Nat.le_of_ble_eq_true rfl)) dX14_readDoing_107 (cl_f hck_58) g hK (by decide) (by decide) (fx' := [(12, 48, q0_, .ref a_134), (12, 37, q0_, .ref a_133), (12, 50, q0_, .ref a_115), (12, 35, q0_, .ref a_114), (12, 34, q0_, .ref a_98), (12, 47, q0_, .ref a_64), (14, 25, a0_, .int op_), (12, 46, q0_, .int x_10), (14, 2, a0_, .ref q0_), (14, 16, a0_, .int o_), (14, 17, a0_, .int me_), (14, 26, a0_, .int br_)]) rfl (fun xr_152 fr_152 H locs mxr_152 kxr_152 hp hMr_152 g => ?_) (fun fr_152 H locs hp hMr_152 g => ?_)
          · have hG_153 := isV.frame hMr_152 go_.2.2.2.1 mq0_ kq0_ (by decide) (by decide) hV_144
            have hG_154 := FR.frame hMr_152 go_.2.2.2.1 mq0_ kq0_ (by decide) (by decide) hF_142
            subst hQ
            exact leavesX hempty hlocks (fun t ht hW => g_thrZ g hK mxr_152 kxr_152 ⟨hG_154, (by omega)⟩ ht hW) g.2.2.1.2.2
          · obtain ⟨hx_155, h_156, x_157, h_158, hF_159⟩ := hp
            have hG_160 := isV.frame hMr_152 go_.2.2.2.1 mq0_ kq0_ (by decide) (by decide) hV_144
            have hG_161 := FR.frame hMr_152 go_.2.2.2.1 mq0_ kq0_ (by decide) (by decide) hF_142
            obtain ⟨E_162, hE_162⟩ : ∃ E : Int, cEq fr_152 a0_ E := ⟨_, rfl⟩
            have mxE_162 : E_162 ≤ 1202 := by have h9 := cF_le g ma0_ ka0_; have h8 : cF _ _ = _ := hE_162; omega
            have lE_162 : E_42 + 1 ≤ E_162 := by have h9 := hx_155; have h8 : cF _ _ = _ := hE_162; have h7 : cF _ _ = _ := hG_139; omega
            have b_163 : bd 0 1200 x_38 := eqX rfl h_39 h_156 (by decide)
            have g := g.more hF_159
            refine lv_aload_n hx hb dX14_readDoing_110 rfl (lv_at hl 3 rfl) ?_
            refine g_getk (C := RX14) (T := TX14) (N := 67) hx hb hts (mc_ inX14) hown hK g rfl 2 (by decide) rfl (hts _ (List.mem_cons_of_mem _ t_2148)) (fun _ h9 => h9) 9 rfl dX14_readDoing_111 ?_
            refine g_getr (K := 193) (C := RX12) (T := TX12) (N := 60) hx hb hts (mc_ inX12) hown hK g mq0_ kq0_ (by decide) rfl 38 (by decide) rfl (hts _ (List.mem_cons_of_mem _ t_1981)) (fun _ h9 => h9) rfl dX14_readDoing_114 (fun a_164 ma_164 ka_164 g => ?_)
            refine lv_iload_n hx hb dX14_readDoing_117 rfl (lv_at hl 1 rfl) ?_
            refine lv_aload_n hx hb dX14_readDoing_118 rfl (lv_at hl 3 rfl) ?_
            have qc__165 : cF fr_152 a0_ = _ := hE_162
            have qc__166 : cF fr_152 a0_ = _ := hE_162
            have go_ := g
            refine g_callZi (As := []) (rest := [.int r_6, .ref a_164]) ⟨hx, hb, hml, hown, hts⟩ (r_X14_readEx l dC dI L kd tys fr_152 H.size g.2.2.2.1 adK adV a0_ ma0_ ka0_ q0_ mq0_ kq0_ V_143 o_ bo_ op_ bop_ x_157 h_158 hG_160 hsi_145.2.2.1 (by rw [hsi_145.1.2.2.1 0 (by decide) (by decide)]; exact ho) (by omega) (K_ - cr_35) (by omega) (g.fcts [10, 11, 8, 1] rfl)) (cwV 0 hts (gV_ t_2460 t_2462 t_112 t_198 t_2463) rfl rfl rfl (by decide +kernel) ⟨(Nat.le_of_ble_eq_true rfl), (Nat.le_of_ble_eq_true rfl)⟩) (pre3VA g hK hAm ma0_ ka0_ (by decide) (q := (RX14, TX14, 67)) rfl) rfl hl.1 rfl (lv_room (Nat.le_of_ble_eq_true rfl)) dX14_readDoing_119 (cl_k (K := K_) (k := K_ - cr_35) (show cr_35 + (K_ - cr_35) ≤ K_ by omega)) g hK (by decide) (by decide) (fx' := [(12, 38, q0_, .ref a_164), (12, 48, q0_, .ref a_134), (12, 37, q0_, .ref a_133), (12, 50, q0_, .ref a_115), (12, 35, q0_, .ref a_114), (12, 34, q0_, .ref a_98), (12, 47, q0_, .ref a_64), (12, 46, q0_, .int x_10), (14, 2, a0_, .ref q0_), (14, 16, a0_, .int o_), (14, 17, a0_, .int me_), (14, 26, a0_, .int br_)]) rfl (fun xr_167 fr_167 H locs kr_167 cr_167 ecr_167 mxr_167 kxr_167 hp hMr_167 g => ?_) (fun r_167 fr_167 H locs kr_167 cr_167 ecr_167 hp hMr_167 g => ?_)
            · have hF_168 := FR.call (mds := []) (mas := []) hG_161 go_ mq0_ kq0_ rfl hp.1
              have hpk := hp.2
              subst hQ
              exact leavesX hempty hlocks (fun t ht hW => g_thrZ g hK mxr_167 kxr_167 ⟨hF_168, (by omega)⟩ ht hW) g.2.2.1.2.2
            · obtain ⟨hx_169, x_170, h_171, hF_172⟩ := hp
              obtain ⟨V_173, E_174, hV_175, hF_176, hE_177, hX_178, hw_179, hv_180, hP_181, hn_182, hk_183, hc_184⟩ := rd_use hx_169 hE_162
              have hF_185 := FR.call (mds := []) (mas := []) hG_161 go_ mq0_ kq0_ rfl hF_176
              have mxE_174 : E_174 ≤ 1202 := by have h9 := cF_le g ma0_ ka0_; have h8 : cF _ _ = _ := hE_177; omega
              have hsi_186 := SI.nodes hsi_145 hX_178 hw_179
              have hsi_186n : (V_173.n 46).toInt = (V_143.n 46).toInt := by rw [exN.n46 hX_178]
              have hl_187 := exS.ev (exN.toS hX_178) hl_149
              have hl_188 := exS.var (exN.toS hX_178) hl_150
              have hst_189 := ST.ex_ hst_146 (exN.toS hX_178) hlt_147
              have hd_190 := ((fun _ _ => rfl) _ hlt_147).trans hd_56
              have hlt_191 := Int.lt_of_lt_of_le hlt_147 ((exN.toS hX_178)).2.2.2.2.1
              have hck_192 : cr_167 ≤ K_ := by omega
              have b_193 : bd 0 2499 r_167 := ⟨hv_180.1, (by have h9 := hv_180.2.1; omega)⟩
              have he_194 := EV.up hv_180 (h' := 13) (by decide)
              have g := g.more hF_172
              have gp_195 := g
              have go_ := g
              refine g_iastX hx hb hK g ma_164 ka_164 (by decide) rfl (in_bd h_9 (by decide)) (bd_sub b_193 (by decide)) (by decide) dX14_readDoing_122 (fun f H locs hM_196 u_198 g => ?_)
              have hG_197 := cEq.frame hM_196 go_.2.2.2.1 ma0_ ka0_ (by decide) (by decide) hE_177
              have hV_199 := isV.ui hV_175 gp_195 2 rfl mq0_ kq0_ rfl u_198
              have hF_200 := FR.arr hF_185 gp_195 2 rfl mq0_ kq0_ rfl rfl u_198.1
              obtain ⟨V_201, hV_202, hsi_203, hst_204, hne_206, hne_206b, hl_207, hl_208, hl_209⟩ : ∃ V1 : PV, isV f q0_ V1 ∧ SI V_ δ_ V1 D_18 (fun k => U_ k ∨ k = r_6.toNatClampNeg) ∧ ST V1 r_6.toNatClampNeg (2 : Int32) x_116 ((-1) : Int32) x_135 r_167 ((-1) : Int32) ((-1) : Int32) (-1) me_ ∧ (V1.n 57).toInt = (V_173.n 57).toInt ∧ (V1.n 46).toInt = (V_173.n 46).toInt ∧ EV V1 r_35 13 o_.toNatClampNeg ∧ EV V1 r_167 13 o_.toNatClampNeg ∧ varOK V1 x_116 o_.toNatClampNeg := ⟨_, hV_199, SI.upd hsi_186 (by decide) (by rw [tnZ h_9.1]; omega) (Or.inr rfl), ST.s38 hst_189, rfl, rfl, (EV.ui_ (j := 38) (by decide)).mpr hl_187, (EV.ui_ (j := 38) (by decide)).mpr he_194, var_ui (by decide) hl_188⟩
              have hlt_205 : ((r_6.toNatClampNeg : Nat) : Int) < (V_201.n 46).toInt := by rw [hne_206b]; exact hlt_191
              refine lv_goto (tgt := 136) hx hb dX14_readDoing_123 (by decide) ?_
              refine lv_aload_n hx hb dX14_readDoing_136 rfl (lv_at hl 3 rfl) ?_
              refine lv_bipush (v := 59) hx hb dX14_readDoing_137 (by decide) ?_
              have go_ := g
              refine g_callEv (As := [.int 59]) (rest := []) ⟨hx, hb, hml, hown, hts⟩ (r_X14_sign_2 l dC dI L kd tys f H.size g.2.2.2.1 adK adV a0_ ma0_ ka0_ 59 x_170 h_171 (g.fcts [1] rfl)) (cwV 1 hts (gV_ t_2431 t_2433 t_107 t_198 t_2434) rfl rfl rfl (by decide +kernel) ⟨(Nat.le_of_ble_eq_true rfl), (Nat.le_of_ble_eq_true rfl)⟩) (pre3VA g hK hAm ma0_ ka0_ (by decide) (q := (RX14, TX14, 67)) rfl) rfl hl.1 rfl (lv_room (Nat.le_of_ble_eq_true rfl)) dX14_readDoing_139 (cl_f hck_192) g hK (by decide) (by decide) (fx' := [(14, 25, a0_, .int op_), (12, 38, q0_, .ref a_164), (12, 48, q0_, .ref a_134), (12, 37, q0_, .ref a_133), (12, 50, q0_, .ref a_115), (12, 35, q0_, .ref a_114), (12, 34, q0_, .ref a_98), (12, 47, q0_, .ref a_64), (12, 46, q0_, .int x_10), (14, 2, a0_, .ref q0_), (14, 16, a0_, .int o_), (14, 17, a0_, .int me_), (14, 26, a0_, .int br_)]) rfl (fun xr_210 fr_210 H locs mxr_210 kxr_210 hp hMr_210 g => ?_) (fun fr_210 H locs hp hMr_210 g => ?_)
              · have hG_211 := isV.frame hMr_210 go_.2.2.2.1 mq0_ kq0_ (by decide) (by decide) hV_202
                have hG_212 := FR.frame hMr_210 go_.2.2.2.1 mq0_ kq0_ (by decide) (by decide) hF_200
                subst hQ
                exact leavesX hempty hlocks (fun t ht hW => g_thrZ g hK mxr_210 kxr_210 ⟨hG_212, (by omega)⟩ ht hW) g.2.2.1.2.2
              · obtain ⟨hx_213, h_214, x_215, h_216, hF_217⟩ := hp
                have hG_218 := isV.frame hMr_210 go_.2.2.2.1 mq0_ kq0_ (by decide) (by decide) hV_202
                have hG_219 := FR.frame hMr_210 go_.2.2.2.1 mq0_ kq0_ (by decide) (by decide) hF_200
                obtain ⟨E_220, hE_220⟩ : ∃ E : Int, cEq fr_210 a0_ E := ⟨_, rfl⟩
                have mxE_220 : E_220 ≤ 1202 := by have h9 := cF_le g ma0_ ka0_; have h8 : cF _ _ = _ := hE_220; omega
                have lE_220 : E_174 + 1 ≤ E_220 := by have h9 := hx_213; have h8 : cF _ _ = _ := hE_220; have h7 : cF _ _ = _ := hG_197; omega
                have b_221 : bd 0 1200 x_170 := eqX rfl h_171 h_214 (by decide)
                have g := g.more hF_217
                refine lv_iload_n hx hb dX14_readDoing_142 rfl (lv_at hl 1 rfl) ?_
                have hok_222 := st_ok (d := o_.toNatClampNeg) hst_204 hd_190 (lv_bd bbr_) rfl (by rw [hsi_203.1.2.2.1 27 (by decide) (by decide)]; exact hm27) (by rw [hsi_203.1.1 18 (by decide) (by decide)]; exact hm18) (Or.inl (by decide)) (fun h9 => absurd h9 (by decide)) (fun _ => ⟨hl_209, (Or.inl hv_136)⟩) (fun _ => (hl_208.up (by decide))) (fun h9 => absurd h9 (by decide)) (fun h9 => absurd h9 (by decide)) (fun h9 => absurd h9 (by decide))
                have hsi_223 := SI.close hsi_203 hok_222
                have h9c : cF fr_210 a0_ = _ := hE_220
                subst hQ
                exact iretX (v := r_6) hx hb hr (fun t ht hW => g_retZ g hK ⟨_, rfl, ⟨⟨_, _, hG_218, hG_219, hsi_223, ⟨(by omega), (by have h9 := hlt_205; rw [tnZ h_9.1] at h9; exact h9), hd_190, (by rw [hst_204.2.2.2.2.2.2.2.2])⟩, (by omega), (by omega), (by omega), (by omega)⟩, x_215, h_216, (g.fcts [1, 13, 0] rfl)⟩⟩ ht hW) g.2.2.1.2.2 dX14_readDoing_143 hlocks
        · have gp_224 := g
          have go_ := g
          refine g_iastX hx hb hK g ma_133 ka_133 (by decide) rfl (in_bd h_9 (by decide)) (bdT x_135) (by decide) dX14_readDoing_103 (fun f H locs hM_225 u_227 g => ?_)
          have hG_226 := cEq.frame hM_225 go_.2.2.2.1 ma0_ ka0_ (by decide) (by decide) hG_120
          have hV_228 := isV.ui hV_125 gp_224 1 rfl mq0_ kq0_ rfl u_227
          have hF_229 := FR.arr hF_123 gp_224 1 rfl mq0_ kq0_ rfl rfl u_227.1
          obtain ⟨V_230, hV_231, hsi_232, hst_233, hne_235, hne_235b, hl_236, hl_237, hl_238, hl_239⟩ : ∃ V1 : PV, isV f q0_ V1 ∧ SI V_ δ_ V1 D_18 (fun k => U_ k ∨ k = r_6.toNatClampNeg) ∧ ST V1 r_6.toNatClampNeg (2 : Int32) x_116 ((-1) : Int32) x_135 ((-1) : Int32) ((-1) : Int32) ((-1) : Int32) (-1) me_ ∧ (V1.n 57).toInt = (V_124.n 57).toInt ∧ (V1.n 46).toInt = (V_124.n 46).toInt ∧ EV V1 r_35 13 o_.toNatClampNeg ∧ EV V1 x_135 13 o_.toNatClampNeg ∧ varOK V1 x_116 o_.toNatClampNeg ∧ (V1.i 47 r_35.toNatClampNeg).toInt = 2 := ⟨_, hV_228, SI.upd hsi_126 (by decide) (by rw [tnZ h_9.1]; omega) (Or.inr rfl), ST.s37 hst_127, rfl, rfl, (EV.ui_ (j := 37) (by decide)).mpr hl_130, (EV.ui_ (j := 37) (by decide)).mpr hv_136, var_ui (by decide) hl_131, op2_ui (by decide) hl_132⟩
          have hlt_234 : ((r_6.toNatClampNeg : Nat) : Int) < (V_230.n 46).toInt := by rw [hne_235b]; exact hlt_128
          refine lv_aload_n hx hb dX14_readDoing_104 rfl (lv_at hl 3 rfl) ?_
          refine lv_bipush (v := 61) hx hb dX14_readDoing_105 (by decide) ?_
          have go_ := g
          refine g_callEv (As := [.int 61]) (rest := []) ⟨hx, hb, hml, hown, hts⟩ (r_X14_sign_2 l dC dI L kd tys f H.size g.2.2.2.1 adK adV a0_ ma0_ ka0_ 61 x_38 h_39 (g.fcts [7] rfl)) (cwV 1 hts (gV_ t_2431 t_2433 t_107 t_198 t_2434) rfl rfl rfl (by decide +kernel) ⟨(Nat.le_of_ble_eq_true rfl), (Nat.le_of_ble_eq_true rfl)⟩) (pre3VA g hK hAm ma0_ ka0_ (by decide) (q := (RX14, TX14, 67)) rfl) rfl hl.1 rfl (lv_room (Nat.le_of_ble_eq_true rfl)) dX14_readDoing_107 (cl_f hck_58) g hK (by decide) (by decide) (fx' := [(12, 48, q0_, .ref a_134), (12, 37, q0_, .ref a_133), (12, 50, q0_, .ref a_115), (12, 35, q0_, .ref a_114), (12, 34, q0_, .ref a_98), (12, 47, q0_, .ref a_64), (14, 25, a0_, .int op_), (12, 46, q0_, .int x_10), (14, 2, a0_, .ref q0_), (14, 16, a0_, .int o_), (14, 17, a0_, .int me_), (14, 26, a0_, .int br_)]) rfl (fun xr_240 fr_240 H locs mxr_240 kxr_240 hp hMr_240 g => ?_) (fun fr_240 H locs hp hMr_240 g => ?_)
          · have hG_241 := isV.frame hMr_240 go_.2.2.2.1 mq0_ kq0_ (by decide) (by decide) hV_231
            have hG_242 := FR.frame hMr_240 go_.2.2.2.1 mq0_ kq0_ (by decide) (by decide) hF_229
            subst hQ
            exact leavesX hempty hlocks (fun t ht hW => g_thrZ g hK mxr_240 kxr_240 ⟨hG_242, (by omega)⟩ ht hW) g.2.2.1.2.2
          · obtain ⟨hx_243, h_244, x_245, h_246, hF_247⟩ := hp
            have hG_248 := isV.frame hMr_240 go_.2.2.2.1 mq0_ kq0_ (by decide) (by decide) hV_231
            have hG_249 := FR.frame hMr_240 go_.2.2.2.1 mq0_ kq0_ (by decide) (by decide) hF_229
            obtain ⟨E_250, hE_250⟩ : ∃ E : Int, cEq fr_240 a0_ E := ⟨_, rfl⟩
            have mxE_250 : E_250 ≤ 1202 := by have h9 := cF_le g ma0_ ka0_; have h8 : cF _ _ = _ := hE_250; omega
            have lE_250 : E_42 + 1 ≤ E_250 := by have h9 := hx_243; have h8 : cF _ _ = _ := hE_250; have h7 : cF _ _ = _ := hG_226; omega
            have b_251 : bd 0 1200 x_38 := eqX rfl h_39 h_244 (by decide)
            have g := g.more hF_247
            refine lv_aload_n hx hb dX14_readDoing_110 rfl (lv_at hl 3 rfl) ?_
            refine g_getk (C := RX14) (T := TX14) (N := 67) hx hb hts (mc_ inX14) hown hK g rfl 2 (by decide) rfl (hts _ (List.mem_cons_of_mem _ t_2148)) (fun _ h9 => h9) 9 rfl dX14_readDoing_111 ?_
            refine g_getr (K := 193) (C := RX12) (T := TX12) (N := 60) hx hb hts (mc_ inX12) hown hK g mq0_ kq0_ (by decide) rfl 38 (by decide) rfl (hts _ (List.mem_cons_of_mem _ t_1981)) (fun _ h9 => h9) rfl dX14_readDoing_114 (fun a_252 ma_252 ka_252 g => ?_)
            refine lv_iload_n hx hb dX14_readDoing_117 rfl (lv_at hl 1 rfl) ?_
            refine lv_aload_n hx hb dX14_readDoing_118 rfl (lv_at hl 3 rfl) ?_
            have qc__253 : cF fr_240 a0_ = _ := hE_250
            have qc__254 : cF fr_240 a0_ = _ := hE_250
            have go_ := g
            refine g_callZi (As := []) (rest := [.int r_6, .ref a_252]) ⟨hx, hb, hml, hown, hts⟩ (r_X14_readEx l dC dI L kd tys fr_240 H.size g.2.2.2.1 adK adV a0_ ma0_ ka0_ q0_ mq0_ kq0_ V_230 o_ bo_ op_ bop_ x_245 h_246 hG_248 hsi_232.2.2.1 (by rw [hsi_232.1.2.2.1 0 (by decide) (by decide)]; exact ho) (by omega) (K_ - cr_35) (by omega) (g.fcts [10, 11, 8, 1] rfl)) (cwV 0 hts (gV_ t_2460 t_2462 t_112 t_198 t_2463) rfl rfl rfl (by decide +kernel) ⟨(Nat.le_of_ble_eq_true rfl), (Nat.le_of_ble_eq_true rfl)⟩) (pre3VA g hK hAm ma0_ ka0_ (by decide) (q := (RX14, TX14, 67)) rfl) rfl hl.1 rfl (lv_room (Nat.le_of_ble_eq_true rfl)) dX14_readDoing_119 (cl_k (K := K_) (k := K_ - cr_35) (show cr_35 + (K_ - cr_35) ≤ K_ by omega)) g hK (by decide) (by decide) (fx' := [(12, 38, q0_, .ref a_252), (12, 48, q0_, .ref a_134), (12, 37, q0_, .ref a_133), (12, 50, q0_, .ref a_115), (12, 35, q0_, .ref a_114), (12, 34, q0_, .ref a_98), (12, 47, q0_, .ref a_64), (12, 46, q0_, .int x_10), (14, 2, a0_, .ref q0_), (14, 16, a0_, .int o_), (14, 17, a0_, .int me_), (14, 26, a0_, .int br_)]) rfl (fun xr_255 fr_255 H locs kr_255 cr_255 ecr_255 mxr_255 kxr_255 hp hMr_255 g => ?_) (fun r_255 fr_255 H locs kr_255 cr_255 ecr_255 hp hMr_255 g => ?_)
            · have hF_256 := FR.call (mds := []) (mas := []) hG_249 go_ mq0_ kq0_ rfl hp.1
              have hpk := hp.2
              subst hQ
              exact leavesX hempty hlocks (fun t ht hW => g_thrZ g hK mxr_255 kxr_255 ⟨hF_256, (by omega)⟩ ht hW) g.2.2.1.2.2
            · obtain ⟨hx_257, x_258, h_259, hF_260⟩ := hp
              obtain ⟨V_261, E_262, hV_263, hF_264, hE_265, hX_266, hw_267, hv_268, hP_269, hn_270, hk_271, hc_272⟩ := rd_use hx_257 hE_250
              have hF_273 := FR.call (mds := []) (mas := []) hG_249 go_ mq0_ kq0_ rfl hF_264
              have mxE_262 : E_262 ≤ 1202 := by have h9 := cF_le g ma0_ ka0_; have h8 : cF _ _ = _ := hE_265; omega
              have hsi_274 := SI.nodes hsi_232 hX_266 hw_267
              have hsi_274n : (V_261.n 46).toInt = (V_230.n 46).toInt := by rw [exN.n46 hX_266]
              have hl_275 := exS.ev (exN.toS hX_266) hl_236
              have hl_276 := exS.ev (exN.toS hX_266) hl_237
              have hl_277 := exS.var (exN.toS hX_266) hl_238
              have hst_278 := ST.ex_ hst_233 (exN.toS hX_266) hlt_234
              have hd_279 := ((fun _ _ => rfl) _ hlt_234).trans hd_56
              have hlt_280 := Int.lt_of_lt_of_le hlt_234 ((exN.toS hX_266)).2.2.2.2.1
              have hck_281 : cr_255 ≤ K_ := by omega
              have b_282 : bd 0 2499 r_255 := ⟨hv_268.1, (by have h9 := hv_268.2.1; omega)⟩
              have he_283 := EV.up hv_268 (h' := 13) (by decide)
              have g := g.more hF_260
              have gp_284 := g
              have go_ := g
              refine g_iastX hx hb hK g ma_252 ka_252 (by decide) rfl (in_bd h_9 (by decide)) (bd_sub b_282 (by decide)) (by decide) dX14_readDoing_122 (fun f H locs hM_285 u_287 g => ?_)
              have hG_286 := cEq.frame hM_285 go_.2.2.2.1 ma0_ ka0_ (by decide) (by decide) hE_265
              have hV_288 := isV.ui hV_263 gp_284 2 rfl mq0_ kq0_ rfl u_287
              have hF_289 := FR.arr hF_273 gp_284 2 rfl mq0_ kq0_ rfl rfl u_287.1
              obtain ⟨V_290, hV_291, hsi_292, hst_293, hne_295, hne_295b, hl_296, hl_297, hl_298, hl_299⟩ : ∃ V1 : PV, isV f q0_ V1 ∧ SI V_ δ_ V1 D_18 (fun k => U_ k ∨ k = r_6.toNatClampNeg) ∧ ST V1 r_6.toNatClampNeg (2 : Int32) x_116 ((-1) : Int32) x_135 r_255 ((-1) : Int32) ((-1) : Int32) (-1) me_ ∧ (V1.n 57).toInt = (V_261.n 57).toInt ∧ (V1.n 46).toInt = (V_261.n 46).toInt ∧ EV V1 r_35 13 o_.toNatClampNeg ∧ EV V1 x_135 13 o_.toNatClampNeg ∧ EV V1 r_255 13 o_.toNatClampNeg ∧ varOK V1 x_116 o_.toNatClampNeg := ⟨_, hV_288, SI.upd hsi_274 (by decide) (by rw [tnZ h_9.1]; omega) (Or.inr rfl), ST.s38 hst_278, rfl, rfl, (EV.ui_ (j := 38) (by decide)).mpr hl_275, (EV.ui_ (j := 38) (by decide)).mpr hl_276, (EV.ui_ (j := 38) (by decide)).mpr he_283, var_ui (by decide) hl_277⟩
              have hlt_294 : ((r_6.toNatClampNeg : Nat) : Int) < (V_290.n 46).toInt := by rw [hne_295b]; exact hlt_280
              refine lv_goto (tgt := 136) hx hb dX14_readDoing_123 (by decide) ?_
              refine lv_aload_n hx hb dX14_readDoing_136 rfl (lv_at hl 3 rfl) ?_
              refine lv_bipush (v := 59) hx hb dX14_readDoing_137 (by decide) ?_
              have go_ := g
              refine g_callEv (As := [.int 59]) (rest := []) ⟨hx, hb, hml, hown, hts⟩ (r_X14_sign_2 l dC dI L kd tys f H.size g.2.2.2.1 adK adV a0_ ma0_ ka0_ 59 x_258 h_259 (g.fcts [1] rfl)) (cwV 1 hts (gV_ t_2431 t_2433 t_107 t_198 t_2434) rfl rfl rfl (by decide +kernel) ⟨(Nat.le_of_ble_eq_true rfl), (Nat.le_of_ble_eq_true rfl)⟩) (pre3VA g hK hAm ma0_ ka0_ (by decide) (q := (RX14, TX14, 67)) rfl) rfl hl.1 rfl (lv_room (Nat.le_of_ble_eq_true rfl)) dX14_readDoing_139 (cl_f hck_281) g hK (by decide) (by decide) (fx' := [(14, 25, a0_, .int op_), (12, 38, q0_, .ref a_252), (12, 48, q0_, .ref a_134), (12, 37, q0_, .ref a_133), (12, 50, q0_, .ref a_115), (12, 35, q0_, .ref a_114), (12, 34, q0_, .ref a_98), (12, 47, q0_, .ref a_64), (12, 46, q0_, .int x_10), (14, 2, a0_, .ref q0_), (14, 16, a0_, .int o_), (14, 17, a0_, .int me_), (14, 26, a0_, .int br_)]) rfl (fun xr_300 fr_300 H locs mxr_300 kxr_300 hp hMr_300 g => ?_) (fun fr_300 H locs hp hMr_300 g => ?_)
              · have hG_301 := isV.frame hMr_300 go_.2.2.2.1 mq0_ kq0_ (by decide) (by decide) hV_291
                have hG_302 := FR.frame hMr_300 go_.2.2.2.1 mq0_ kq0_ (by decide) (by decide) hF_289
                subst hQ
                exact leavesX hempty hlocks (fun t ht hW => g_thrZ g hK mxr_300 kxr_300 ⟨hG_302, (by omega)⟩ ht hW) g.2.2.1.2.2
              · obtain ⟨hx_303, h_304, x_305, h_306, hF_307⟩ := hp
                have hG_308 := isV.frame hMr_300 go_.2.2.2.1 mq0_ kq0_ (by decide) (by decide) hV_291
                have hG_309 := FR.frame hMr_300 go_.2.2.2.1 mq0_ kq0_ (by decide) (by decide) hF_289
                obtain ⟨E_310, hE_310⟩ : ∃ E : Int, cEq fr_300 a0_ E := ⟨_, rfl⟩
                have mxE_310 : E_310 ≤ 1202 := by have h9 := cF_le g ma0_ ka0_; have h8 : cF _ _ = _ := hE_310; omega
                have lE_310 : E_262 + 1 ≤ E_310 := by have h9 := hx_303; have h8 : cF _ _ = _ := hE_310; have h7 : cF _ _ = _ := hG_286; omega
                have b_311 : bd 0 1200 x_258 := eqX rfl h_259 h_304 (by decide)
                have g := g.more hF_307
                refine lv_iload_n hx hb dX14_readDoing_142 rfl (lv_at hl 1 rfl) ?_
                have hok_312 := st_ok (d := o_.toNatClampNeg) hst_293 hd_279 (lv_bd bbr_) rfl (by rw [hsi_292.1.2.2.1 27 (by decide) (by decide)]; exact hm27) (by rw [hsi_292.1.1 18 (by decide) (by decide)]; exact hm18) (Or.inl (by decide)) (fun h9 => absurd h9 (by decide)) (fun _ => ⟨hl_299, (Or.inr hl_297)⟩) (fun _ => (hl_298.up (by decide))) (fun h9 => absurd h9 (by decide)) (fun h9 => absurd h9 (by decide)) (fun h9 => absurd h9 (by decide))
                have hsi_313 := SI.close hsi_292 hok_312
                have h9c : cF fr_300 a0_ = _ := hE_310
                subst hQ
                exact iretX (v := r_6) hx hb hr (fun t ht hW => g_retZ g hK ⟨_, rfl, ⟨⟨_, _, hG_308, hG_309, hsi_313, ⟨(by omega), (by have h9 := hlt_294; rw [tnZ h_9.1] at h9; exact h9), hd_279, (by rw [hst_293.2.2.2.2.2.2.2.2])⟩, (by omega), (by omega), (by omega), (by omega)⟩, x_305, h_306, (g.fcts [1, 13, 0] rfl)⟩⟩ ht hW) g.2.2.1.2.2 dX14_readDoing_143 hlocks
  · have hG_314 := cEq.frame hMr_24 go_.2.2.2.1 ma0_ ka0_ (by decide) (by decide) hG_13
    have hG_315 := FR.frame hMr_24 go_.2.2.2.1 mq0_ kq0_ (by decide) (by decide) hF_14
    have hG_316 := isV.frame hMr_24 go_.2.2.2.1 mq0_ kq0_ (by decide) (by decide) hV_16
    obtain rfl : r_24 = 1 := h_26
    have g := g.more hF_29
    have e_317 := fx_same g 8 0 rfl rfl
    have b_318 : bd 2 2 so_ := eqX (eq_f e_317.symm) bso_ h_28 (by decide)
    have g := g.sub (fx' := [(12, 46, q0_, .int x_10), (14, 25, a0_, .int 0), (14, 2, a0_, .ref q0_), (14, 16, a0_, .int o_), (14, 10, a0_, .int t_), (14, 17, a0_, .int me_), (14, 26, a0_, .int br_), (14, 6, a0_, .int so_)]) [1, 2, 3, 4, 5, 6, 7, 8] rfl
    refine lv_if_eq (tgt := 33) hx hb dX14_readDoing_22 (by decide) (fun c_ => absurd c_ (by decide)) (fun c_ => ?_)
    refine lv_aload_n hx hb dX14_readDoing_25 rfl (lv_at hl 2 rfl) ?_
    refine lv_iconst (v := 0) hx hb dX14_readDoing_26 (by decide) ?_
    have qc__319 : cF fr_24 a0_ = _ := hG_314
    have hs_320 := sE_1 g 7 rfl (by have h9_0 := bbr_; unfold bd at h9_0; have h9_1 := bme_; unfold bd at h9_1; have h9_2 := bo_; unfold bd at h9_2; have h9_3 := bop_; unfold bd at h9_3; have h9_4 := h_9; unfold bd at h9_4; have h9_5 := b_318; unfold bd at h9_5; have h9_6 := bt_; unfold bd at h9_6; have h9_7 := h_11; unfold bd at h9_7; have h9_8 := h_28; unfold bd at h9_8; have h8_0 := kb_0; unfold bd at h8_0; omega)
    have go_ := g
    refine g_callZi (As := [.int 0]) (rest := []) ⟨hx, hb, hml, hown, hts⟩ ((recR 461).2.2.2.1 l dC dI L kd tys fr_24 H.size g.2.2.2.1 adK adV a0_ ma0_ ka0_ (0 : Int32) (bd_sub kb_0 (by decide)) q0_ mq0_ kq0_ V_15 o_ bo_ (0 : Int32) (bd_sub kb_0 (by decide)) t_ bt_ hG_316 hsi_20.2.2.1 (by rw [hsi_20.1.2.2.1 0 (by decide) (by decide)]; exact ho) (by omega) 13 ⟨(by decide), (by decide), (fun _ => rfl)⟩ (K_ - cl_0) (by omega) (by have h9_0 := bbr_; unfold bd at h9_0; have h9_1 := bme_; unfold bd at h9_1; have h9_2 := bo_; unfold bd at h9_2; have h9_3 := bop_; unfold bd at h9_3; have h9_4 := h_9; unfold bd at h9_4; have h9_5 := b_318; unfold bd at h9_5; have h9_6 := bt_; unfold bd at h9_6; have h9_7 := h_11; unfold bd at h9_7; have h9_8 := h_28; unfold bd at h9_8; have h8_0 := kb_0; unfold bd at h8_0; omega) (g.fcts [2, 3, 1, 4] rfl)) (cwV 1 hts (gV_ t_2516 t_2518 t_125 t_198 t_2519) rfl rfl rfl (by decide +kernel) ⟨(Nat.le_of_ble_eq_true rfl), (Nat.le_of_ble_eq_true rfl)⟩) (pre3VA g hK hAm ma0_ ka0_ (by decide) (q := (RX14, TX14, 67)) rfl) rfl hl.1 rfl (lv_room (Nat.le_of_ble_eq_true rfl)) dX14_readDoing_27 (cl_k (K := K_) (k := K_ - cl_0) (show cl_0 + (K_ - cl_0) ≤ K_ by omega)) g hK (by decide) (by decide) (fx' := [(12, 46, q0_, .int x_10), (14, 2, a0_, .ref q0_), (14, 16, a0_, .int o_), (14, 17, a0_, .int me_), (14, 26, a0_, .int br_)]) rfl (fun xr_321 fr_321 H locs kr_321 cr_321 ecr_321 mxr_321 kxr_321 hp hMr_321 g => ?_) (fun r_321 fr_321 H locs kr_321 cr_321 ecr_321 hp hMr_321 g => ?_)
    · have hF_322 := FR.call (mds := []) (mas := []) hG_315 go_ mq0_ kq0_ rfl hp.1
      have hpk := hp.2
      subst hQ
      exact leavesX hempty hlocks (fun t ht hW => g_thrZ g hK mxr_321 kxr_321 ⟨hF_322, (by omega)⟩ ht hW) g.2.2.1.2.2
    · obtain ⟨hx_323, x_324, h_325, hF_326⟩ := hp
      obtain ⟨V_327, E_328, hV_329, hF_330, hE_331, hX_332, hw_333, hv_334, hP_335, hn_336, hk_337, hc_338⟩ := rd_use hx_323 hG_314
      have hF_339 := FR.call (mds := []) (mas := []) hG_315 go_ mq0_ kq0_ rfl hF_330
      have mxE_328 : E_328 ≤ 1202 := by have h9 := cF_le g ma0_ ka0_; have h8 : cF _ _ = _ := hE_331; omega
      have hsi_340 := SI.nodes hsi_20 hX_332 hw_333
      have hsi_340n : (V_327.n 46).toInt = (V_15.n 46).toInt := by rw [exN.n46 hX_332]
      have hst_341 := ST.ex_ (hN_17).2.2.2.2.1 (exN.toS hX_332) hlt_22
      have hd_342 := ((fun _ _ => rfl) _ hlt_22).trans hd_19
      have hlt_343 := Int.lt_of_lt_of_le hlt_22 ((exN.toS hX_332)).2.2.2.2.1
      have hck_344 : cr_321 ≤ K_ := by omega
      have b_345 : bd 0 2499 r_321 := ⟨hv_334.1, (by have h9 := hv_334.2.1; omega)⟩
      have g := g.more hF_326
      refine lv_goto (tgt := 39) hx hb dX14_readDoing_30 (by decide) ?_
      refine lv_istore_n (lv' := [(3, .int r_321), (2, .int r_6), (1, .int op_), (0, .ref a0_)]) hx hb dX14_readDoing_39 rfl hl (by decide) rfl (fun ls hl => ?_)
      refine lv_aload_n hx hb dX14_readDoing_40 rfl (lv_at hl 3 rfl) ?_
      refine lv_iload_n hx hb dX14_readDoing_41 rfl (lv_at hl 2 rfl) ?_
      have go_ := g
      refine g_put (C := RX14) (T := TX14) (N := 67) hx hb hts (mc_ inX14) tyX14 tyX14_ok nmX14 hown hK g ma0_ ka0_ (by decide) rfl 25 (by decide) (hts _ (List.mem_cons_of_mem _ t_2171)) (fun _ h9 => h9) rfl rfl (okV_i bop_) rfl rfl (by decide) (Or.inr (Or.inl (by decide))) (fx' := [(14, 10, a0_, .int x_324), (12, 46, q0_, .int x_10), (14, 2, a0_, .ref q0_), (14, 16, a0_, .int o_), (14, 17, a0_, .int me_), (14, 26, a0_, .int br_)]) rfl dX14_readDoing_42 (fun f H locs hM_346 g => ?_)
      have hG_347 := isV.frame hM_346 go_.2.2.2.1 mq0_ kq0_ (by decide) (by decide) hV_329
      have hG_348 := FR.frame hM_346 go_.2.2.2.1 mq0_ kq0_ (by decide) (by decide) hF_339
      have hG_349 := cEq.frame hM_346 go_.2.2.2.1 ma0_ ka0_ (by decide) (by decide) hE_331
      refine lv_aload_n hx hb dX14_readDoing_45 rfl (lv_at hl 3 rfl) ?_
      refine g_getk (C := RX14) (T := TX14) (N := 67) hx hb hts (mc_ inX14) hown hK g rfl 2 (by decide) rfl (hts _ (List.mem_cons_of_mem _ t_2148)) (fun _ h9 => h9) 3 rfl dX14_readDoing_46 ?_
      refine g_getr (K := 201) (C := RX12) (T := TX12) (N := 60) hx hb hts (mc_ inX12) hown hK g mq0_ kq0_ (by decide) rfl 47 (by decide) rfl (hts _ (List.mem_cons_of_mem _ t_1998)) (fun _ h9 => h9) rfl dX14_readDoing_49 (fun a_350 ma_350 ka_350 g => ?_)
      refine lv_iload_n hx hb dX14_readDoing_52 rfl (lv_at hl 0 rfl) ?_
      refine g_iald hx hb hK g ma_350 ka_350 (by decide) rfl (in_bd b_345 (by decide)) dX14_readDoing_53 (fun x_351 bx_351 cx_351 => ?_)
      have vx_351 : x_351 = V_327.i 47 r_321.toNatClampNeg := hG_347.at g 0 rfl rfl cx_351
      refine lv_iconst (v := 2) hx hb dX14_readDoing_54 (by decide) ?_
      have kb_2 : bd 2 2 (2 : Int32) := ⟨by decide, by decide⟩
      refine lv_icmp_ne (tgt := 126) hx hb dX14_readDoing_55 (by decide) (fun c_352 => ?_) (fun c_352 => ?_)
      · have fc_352 := neq_f c_352
        refine lv_aload_n hx hb dX14_readDoing_126 rfl (lv_at hl 3 rfl) ?_
        refine g_getk (C := RX14) (T := TX14) (N := 67) hx hb hts (mc_ inX14) hown hK g rfl 2 (by decide) rfl (hts _ (List.mem_cons_of_mem _ t_2148)) (fun _ h9 => h9) 4 rfl dX14_readDoing_127 ?_
        refine g_getr (K := 191) (C := RX12) (T := TX12) (N := 60) hx hb hts (mc_ inX12) hown hK g mq0_ kq0_ (by decide) rfl 36 (by decide) rfl (hts _ (List.mem_cons_of_mem _ t_1977)) (fun _ h9 => h9) rfl dX14_readDoing_130 (fun a_353 ma_353 ka_353 g => ?_)
        refine lv_iload_n hx hb dX14_readDoing_133 rfl (lv_at hl 1 rfl) ?_
        refine lv_iload_n hx hb dX14_readDoing_134 rfl (lv_at hl 0 rfl) ?_
        have hc_354 : (V_327.i 47 r_321.toNatClampNeg).toInt = 3 ∨ (V_327.i 47 r_321.toNatClampNeg).toInt = 9 := by have h9 := hP_335; have h8 := congrArg Int32.toInt vx_351; have h7 := fc_352; simp only [Int32.toInt_ofNat] at h9 h7; have h9_0 := bbr_; unfold bd at h9_0; have h9_1 := bme_; unfold bd at h9_1; have h9_2 := bo_; unfold bd at h9_2; have h9_3 := bop_; unfold bd at h9_3; have h9_4 := b_345; unfold bd at h9_4; have h9_5 := h_9; unfold bd at h9_5; have h9_6 := b_318; unfold bd at h9_6; have h9_7 := bt_; unfold bd at h9_7; have h9_8 := h_11; unfold bd at h9_8; have h9_9 := h_28; unfold bd at h9_9; have h9_10 := h_325; unfold bd at h9_10; have h8_0 := kb_0; unfold bd at h8_0; have h8_1 := kb_2; unfold bd at h8_1; omega
        have gp_355 := g
        have go_ := g
        refine g_iastX hx hb hK g ma_353 ka_353 (by decide) rfl (in_bd h_9 (by decide)) (bd_sub b_345 (by decide)) (by decide) dX14_readDoing_135 (fun f H locs hM_356 u_358 g => ?_)
        have hG_357 := cEq.frame hM_356 go_.2.2.2.1 ma0_ ka0_ (by decide) (by decide) hG_349
        have hV_359 := isV.ui hG_347 gp_355 0 rfl mq0_ kq0_ rfl u_358
        have hF_360 := FR.arr hG_348 gp_355 0 rfl mq0_ kq0_ rfl rfl u_358.1
        obtain ⟨V_361, hV_362, hsi_363, hst_364, hne_366, hne_366b, hl_367, hl_368⟩ : ∃ V1 : PV, isV f q0_ V1 ∧ SI V_ δ_ V1 D_18 (fun k => U_ k ∨ k = r_6.toNatClampNeg) ∧ ST V1 r_6.toNatClampNeg (7 : Int32) ((-1) : Int32) r_321 ((-1) : Int32) ((-1) : Int32) ((-1) : Int32) ((-1) : Int32) (-1) me_ ∧ (V1.n 57).toInt = (V_327.n 57).toInt ∧ (V1.n 46).toInt = (V_327.n 46).toInt ∧ EV V1 r_321 13 o_.toNatClampNeg ∧ ((V1.i 47 r_321.toNatClampNeg).toInt = 3 ∨ (V1.i 47 r_321.toNatClampNeg).toInt = 9) := ⟨_, hV_359, SI.upd hsi_340 (by decide) (by rw [tnZ h_9.1]; omega) (Or.inr rfl), ST.s36 hst_341, rfl, rfl, (EV.ui_ (j := 36) (by decide)).mpr hv_334, op_ui (by decide) hc_354⟩
        have hlt_365 : ((r_6.toNatClampNeg : Nat) : Int) < (V_361.n 46).toInt := by rw [hne_366b]; exact hlt_343
        refine lv_aload_n hx hb dX14_readDoing_136 rfl (lv_at hl 3 rfl) ?_
        refine lv_bipush (v := 59) hx hb dX14_readDoing_137 (by decide) ?_
        have go_ := g
        refine g_callEv (As := [.int 59]) (rest := []) ⟨hx, hb, hml, hown, hts⟩ (r_X14_sign_2 l dC dI L kd tys f H.size g.2.2.2.1 adK adV a0_ ma0_ ka0_ 59 x_324 h_325 (g.fcts [3] rfl)) (cwV 1 hts (gV_ t_2431 t_2433 t_107 t_198 t_2434) rfl rfl rfl (by decide +kernel) ⟨(Nat.le_of_ble_eq_true rfl), (Nat.le_of_ble_eq_true rfl)⟩) (pre3VA g hK hAm ma0_ ka0_ (by decide) (q := (RX14, TX14, 67)) rfl) rfl hl.1 rfl (lv_room (Nat.le_of_ble_eq_true rfl)) dX14_readDoing_139 (cl_f hck_344) g hK (by decide) (by decide) (fx' := [(12, 36, q0_, .ref a_353), (12, 47, q0_, .ref a_350), (14, 25, a0_, .int op_), (12, 46, q0_, .int x_10), (14, 2, a0_, .ref q0_), (14, 16, a0_, .int o_), (14, 17, a0_, .int me_), (14, 26, a0_, .int br_)]) rfl (fun xr_369 fr_369 H locs mxr_369 kxr_369 hp hMr_369 g => ?_) (fun fr_369 H locs hp hMr_369 g => ?_)
        · have hG_370 := isV.frame hMr_369 go_.2.2.2.1 mq0_ kq0_ (by decide) (by decide) hV_362
          have hG_371 := FR.frame hMr_369 go_.2.2.2.1 mq0_ kq0_ (by decide) (by decide) hF_360
          subst hQ
          exact leavesX hempty hlocks (fun t ht hW => g_thrZ g hK mxr_369 kxr_369 ⟨hG_371, (by omega)⟩ ht hW) g.2.2.1.2.2
        · obtain ⟨hx_372, h_373, x_374, h_375, hF_376⟩ := hp
          have hG_377 := isV.frame hMr_369 go_.2.2.2.1 mq0_ kq0_ (by decide) (by decide) hV_362
          have hG_378 := FR.frame hMr_369 go_.2.2.2.1 mq0_ kq0_ (by decide) (by decide) hF_360
          obtain ⟨E_379, hE_379⟩ : ∃ E : Int, cEq fr_369 a0_ E := ⟨_, rfl⟩
          have mxE_379 : E_379 ≤ 1202 := by have h9 := cF_le g ma0_ ka0_; have h8 : cF _ _ = _ := hE_379; omega
          have lE_379 : E_328 + 1 ≤ E_379 := by have h9 := hx_372; have h8 : cF _ _ = _ := hE_379; have h7 : cF _ _ = _ := hG_357; omega
          have b_380 : bd 0 1200 x_324 := eqX rfl h_325 h_373 (by decide)
          have g := g.more hF_376
          refine lv_iload_n hx hb dX14_readDoing_142 rfl (lv_at hl 1 rfl) ?_
          have hok_381 := st_ok (d := o_.toNatClampNeg) hst_364 hd_342 (lv_bd bbr_) rfl (by rw [hsi_363.1.2.2.1 27 (by decide) (by decide)]; exact hm27) (by rw [hsi_363.1.1 18 (by decide) (by decide)]; exact hm18) (Or.inl (by decide)) (fun h9 => absurd h9 (by decide)) (fun h9 => absurd h9 (by decide)) (fun h9 => absurd h9 (by decide)) (fun h9 => absurd h9 (by decide)) (fun h9 => absurd h9 (by decide)) (fun _ => ⟨(hl_367.up (by decide)), hl_368⟩)
          have hsi_382 := SI.close hsi_363 hok_381
          have h9c : cF fr_369 a0_ = _ := hE_379
          subst hQ
          exact iretX (v := r_6) hx hb hr (fun t ht hW => g_retZ g hK ⟨_, rfl, ⟨⟨_, _, hG_377, hG_378, hsi_382, ⟨(by omega), (by have h9 := hlt_365; rw [tnZ h_9.1] at h9; exact h9), hd_342, (by rw [hst_364.2.2.2.2.2.2.2.2])⟩, (by omega), (by omega), (by omega), (by omega)⟩, x_374, h_375, (g.fcts [3, 8, 0] rfl)⟩⟩ ht hW) g.2.2.1.2.2 dX14_readDoing_143 hlocks
      · have fc_352 := eq_f c_352
        have b_383 : bd 2 2 x_351 := eqX fc_352 (bdT x_351) kb_2 (by decide)
        refine lv_aload_n hx hb dX14_readDoing_58 rfl (lv_at hl 3 rfl) ?_
        refine g_getk (C := RX14) (T := TX14) (N := 67) hx hb hts (mc_ inX14) hown hK g rfl 2 (by decide) rfl (hts _ (List.mem_cons_of_mem _ t_2148)) (fun _ h9 => h9) 4 rfl dX14_readDoing_59 ?_
        refine g_getr (K := 189) (C := RX12) (T := TX12) (N := 60) hx hb hts (mc_ inX12) hown hK g mq0_ kq0_ (by decide) rfl 34 (by decide) rfl (hts _ (List.mem_cons_of_mem _ t_1973)) (fun _ h9 => h9) rfl dX14_readDoing_62 (fun a_384 ma_384 ka_384 g => ?_)
        refine lv_iload_n hx hb dX14_readDoing_65 rfl (lv_at hl 1 rfl) ?_
        refine lv_iconst (v := 2) hx hb dX14_readDoing_66 (by decide) ?_
        have ho_385 : (V_327.i 47 r_321.toNatClampNeg).toInt = 2 := by rw [← vx_351]; have h9 := b_383; unfold bd at h9; omega
        have gp_386 := g
        have go_ := g
        refine g_iastX hx hb hK g ma_384 ka_384 (by decide) rfl (in_bd h_9 (by decide)) (bd_sub kb_2 (by decide)) (by decide) dX14_readDoing_67 (fun f H locs hM_387 u_389 g => ?_)
        have hG_388 := cEq.frame hM_387 go_.2.2.2.1 ma0_ ka0_ (by decide) (by decide) hG_349
        have hV_390 := isV.ui hG_347 gp_386 0 rfl mq0_ kq0_ rfl u_389
        have hF_391 := FR.arr hG_348 gp_386 0 rfl mq0_ kq0_ rfl rfl u_389.1
        obtain ⟨V_392, hV_393, hsi_394, hst_395, hne_397, hne_397b, hl_398, hl_399⟩ : ∃ V1 : PV, isV f q0_ V1 ∧ SI V_ δ_ V1 D_18 (fun k => U_ k ∨ k = r_6.toNatClampNeg) ∧ ST V1 r_6.toNatClampNeg (2 : Int32) ((-1) : Int32) ((-1) : Int32) ((-1) : Int32) ((-1) : Int32) ((-1) : Int32) ((-1) : Int32) (-1) me_ ∧ (V1.n 57).toInt = (V_327.n 57).toInt ∧ (V1.n 46).toInt = (V_327.n 46).toInt ∧ EV V1 r_321 13 o_.toNatClampNeg ∧ (V1.i 47 r_321.toNatClampNeg).toInt = 2 := ⟨_, hV_390, SI.upd hsi_340 (by decide) (by rw [tnZ h_9.1]; omega) (Or.inr rfl), ST.s34 hst_341, rfl, rfl, (EV.ui_ (j := 34) (by decide)).mpr hv_334, op2_ui (by decide) ho_385⟩
        have hlt_396 : ((r_6.toNatClampNeg : Nat) : Int) < (V_392.n 46).toInt := by rw [hne_397b]; exact hlt_343
        refine lv_aload_n hx hb dX14_readDoing_68 rfl (lv_at hl 3 rfl) ?_
        refine g_getk (C := RX14) (T := TX14) (N := 67) hx hb hts (mc_ inX14) hown hK g rfl 2 (by decide) rfl (hts _ (List.mem_cons_of_mem _ t_2148)) (fun _ h9 => h9) 5 rfl dX14_readDoing_69 ?_
        refine g_getr (K := 190) (C := RX12) (T := TX12) (N := 60) hx hb hts (mc_ inX12) hown hK g mq0_ kq0_ (by decide) rfl 35 (by decide) rfl (hts _ (List.mem_cons_of_mem _ t_1975)) (fun _ h9 => h9) rfl dX14_readDoing_72 (fun a_400 ma_400 ka_400 g => ?_)
        refine lv_iload_n hx hb dX14_readDoing_75 rfl (lv_at hl 1 rfl) ?_
        refine lv_aload_n hx hb dX14_readDoing_76 rfl (lv_at hl 3 rfl) ?_
        refine g_getk (C := RX14) (T := TX14) (N := 67) hx hb hts (mc_ inX14) hown hK g rfl 2 (by decide) rfl (hts _ (List.mem_cons_of_mem _ t_2148)) (fun _ h9 => h9) 6 rfl dX14_readDoing_77 ?_
        refine g_getr (K := 204) (C := RX12) (T := TX12) (N := 60) hx hb hts (mc_ inX12) hown hK g mq0_ kq0_ (by decide) rfl 50 (by decide) rfl (hts _ (List.mem_cons_of_mem _ t_2004)) (fun _ h9 => h9) rfl dX14_readDoing_80 (fun a_401 ma_401 ka_401 g => ?_)
        refine lv_iload_n hx hb dX14_readDoing_83 rfl (lv_at hl 0 rfl) ?_
        refine g_iald hx hb hK g ma_401 ka_401 (by decide) rfl (in_bd b_345 (by decide)) dX14_readDoing_84 (fun x_402 bx_402 cx_402 => ?_)
        have vx_402 : x_402 = V_392.i 50 r_321.toNatClampNeg := hV_393.at g 0 rfl rfl cx_402
        have hv_403 : varOK V_392 x_402 o_.toNatClampNeg := nd_var hsi_394.2.2.1 hl_398 hl_399 vx_402
        have gp_404 := g
        have go_ := g
        refine g_iastX hx hb hK g ma_400 ka_400 (by decide) rfl (in_bd h_9 (by decide)) (bdT x_402) (by decide) dX14_readDoing_85 (fun f H locs hM_405 u_407 g => ?_)
        have hG_406 := cEq.frame hM_405 go_.2.2.2.1 ma0_ ka0_ (by decide) (by decide) hG_388
        have hV_408 := isV.ui hV_393 gp_404 1 rfl mq0_ kq0_ rfl u_407
        have hF_409 := FR.arr hF_391 gp_404 1 rfl mq0_ kq0_ rfl rfl u_407.1
        obtain ⟨V_410, hV_411, hsi_412, hst_413, hne_415, hne_415b, hl_416, hl_417, hl_418⟩ : ∃ V1 : PV, isV f q0_ V1 ∧ SI V_ δ_ V1 D_18 (fun k => U_ k ∨ k = r_6.toNatClampNeg) ∧ ST V1 r_6.toNatClampNeg (2 : Int32) x_402 ((-1) : Int32) ((-1) : Int32) ((-1) : Int32) ((-1) : Int32) ((-1) : Int32) (-1) me_ ∧ (V1.n 57).toInt = (V_392.n 57).toInt ∧ (V1.n 46).toInt = (V_392.n 46).toInt ∧ EV V1 r_321 13 o_.toNatClampNeg ∧ varOK V1 x_402 o_.toNatClampNeg ∧ (V1.i 47 r_321.toNatClampNeg).toInt = 2 := ⟨_, hV_408, SI.upd hsi_394 (by decide) (by rw [tnZ h_9.1]; omega) (Or.inr rfl), ST.s35 hst_395, rfl, rfl, (EV.ui_ (j := 35) (by decide)).mpr hl_398, var_ui (by decide) hv_403, op2_ui (by decide) hl_399⟩
        have hlt_414 : ((r_6.toNatClampNeg : Nat) : Int) < (V_410.n 46).toInt := by rw [hne_415b]; exact hlt_396
        refine lv_aload_n hx hb dX14_readDoing_86 rfl (lv_at hl 3 rfl) ?_
        refine g_getk (C := RX14) (T := TX14) (N := 67) hx hb hts (mc_ inX14) hown hK g rfl 2 (by decide) rfl (hts _ (List.mem_cons_of_mem _ t_2148)) (fun _ h9 => h9) 7 rfl dX14_readDoing_87 ?_
        refine g_getr (K := 192) (C := RX12) (T := TX12) (N := 60) hx hb hts (mc_ inX12) hown hK g mq0_ kq0_ (by decide) rfl 37 (by decide) rfl (hts _ (List.mem_cons_of_mem _ t_1979)) (fun _ h9 => h9) rfl dX14_readDoing_90 (fun a_419 ma_419 ka_419 g => ?_)
        refine lv_iload_n hx hb dX14_readDoing_93 rfl (lv_at hl 1 rfl) ?_
        refine lv_aload_n hx hb dX14_readDoing_94 rfl (lv_at hl 3 rfl) ?_
        refine g_getk (C := RX14) (T := TX14) (N := 67) hx hb hts (mc_ inX14) hown hK g rfl 2 (by decide) rfl (hts _ (List.mem_cons_of_mem _ t_2148)) (fun _ h9 => h9) 8 rfl dX14_readDoing_95 ?_
        refine g_getr (K := 202) (C := RX12) (T := TX12) (N := 60) hx hb hts (mc_ inX12) hown hK g mq0_ kq0_ (by decide) rfl 48 (by decide) rfl (hts _ (List.mem_cons_of_mem _ t_2000)) (fun _ h9 => h9) rfl dX14_readDoing_98 (fun a_420 ma_420 ka_420 g => ?_)
        refine lv_iload_n hx hb dX14_readDoing_101 rfl (lv_at hl 0 rfl) ?_
        refine g_iald hx hb hK g ma_420 ka_420 (by decide) rfl (in_bd b_345 (by decide)) dX14_readDoing_102 (fun x_421 bx_421 cx_421 => ?_)
        have vx_421 : x_421 = V_410.i 48 r_321.toNatClampNeg := hV_411.at g 0 rfl rfl cx_421
        have hv_422 := nd_idx hsi_412.2.2.1 hl_416 (by decide) hl_418 vx_421
        rcases hv_422 with hv_422 | hv_422
        · have gp_423 := g
          have go_ := g
          refine g_iastX hx hb hK g ma_419 ka_419 (by decide) rfl (in_bd h_9 (by decide)) (bdT x_421) (by decide) dX14_readDoing_103 (fun f H locs hM_424 u_426 g => ?_)
          have hG_425 := cEq.frame hM_424 go_.2.2.2.1 ma0_ ka0_ (by decide) (by decide) hG_406
          have hV_427 := isV.ui hV_411 gp_423 1 rfl mq0_ kq0_ rfl u_426
          have hF_428 := FR.arr hF_409 gp_423 1 rfl mq0_ kq0_ rfl rfl u_426.1
          obtain ⟨V_429, hV_430, hsi_431, hst_432, hne_434, hne_434b, hl_435, hl_436, hl_437⟩ : ∃ V1 : PV, isV f q0_ V1 ∧ SI V_ δ_ V1 D_18 (fun k => U_ k ∨ k = r_6.toNatClampNeg) ∧ ST V1 r_6.toNatClampNeg (2 : Int32) x_402 ((-1) : Int32) x_421 ((-1) : Int32) ((-1) : Int32) ((-1) : Int32) (-1) me_ ∧ (V1.n 57).toInt = (V_410.n 57).toInt ∧ (V1.n 46).toInt = (V_410.n 46).toInt ∧ EV V1 r_321 13 o_.toNatClampNeg ∧ varOK V1 x_402 o_.toNatClampNeg ∧ (V1.i 47 r_321.toNatClampNeg).toInt = 2 := ⟨_, hV_427, SI.upd hsi_412 (by decide) (by rw [tnZ h_9.1]; omega) (Or.inr rfl), ST.s37 hst_413, rfl, rfl, (EV.ui_ (j := 37) (by decide)).mpr hl_416, var_ui (by decide) hl_417, op2_ui (by decide) hl_418⟩
          have hlt_433 : ((r_6.toNatClampNeg : Nat) : Int) < (V_429.n 46).toInt := by rw [hne_434b]; exact hlt_414
          refine lv_aload_n hx hb dX14_readDoing_104 rfl (lv_at hl 3 rfl) ?_
          refine lv_bipush (v := 61) hx hb dX14_readDoing_105 (by decide) ?_
          have go_ := g
          refine g_callEv (As := [.int 61]) (rest := []) ⟨hx, hb, hml, hown, hts⟩ (r_X14_sign_2 l dC dI L kd tys f H.size g.2.2.2.1 adK adV a0_ ma0_ ka0_ 61 x_324 h_325 (g.fcts [7] rfl)) (cwV 1 hts (gV_ t_2431 t_2433 t_107 t_198 t_2434) rfl rfl rfl (by decide +kernel) ⟨(Nat.le_of_ble_eq_true rfl), (Nat.le_of_ble_eq_true rfl)⟩) (pre3VA g hK hAm ma0_ ka0_ (by decide) (q := (RX14, TX14, 67)) rfl) rfl hl.1 rfl (lv_room (Nat.le_of_ble_eq_true rfl)) dX14_readDoing_107 (cl_f hck_344) g hK (by decide) (by decide) (fx' := [(12, 48, q0_, .ref a_420), (12, 37, q0_, .ref a_419), (12, 50, q0_, .ref a_401), (12, 35, q0_, .ref a_400), (12, 34, q0_, .ref a_384), (12, 47, q0_, .ref a_350), (14, 25, a0_, .int op_), (12, 46, q0_, .int x_10), (14, 2, a0_, .ref q0_), (14, 16, a0_, .int o_), (14, 17, a0_, .int me_), (14, 26, a0_, .int br_)]) rfl (fun xr_438 fr_438 H locs mxr_438 kxr_438 hp hMr_438 g => ?_) (fun fr_438 H locs hp hMr_438 g => ?_)
          · have hG_439 := isV.frame hMr_438 go_.2.2.2.1 mq0_ kq0_ (by decide) (by decide) hV_430
            have hG_440 := FR.frame hMr_438 go_.2.2.2.1 mq0_ kq0_ (by decide) (by decide) hF_428
            subst hQ
            exact leavesX hempty hlocks (fun t ht hW => g_thrZ g hK mxr_438 kxr_438 ⟨hG_440, (by omega)⟩ ht hW) g.2.2.1.2.2
          · obtain ⟨hx_441, h_442, x_443, h_444, hF_445⟩ := hp
            have hG_446 := isV.frame hMr_438 go_.2.2.2.1 mq0_ kq0_ (by decide) (by decide) hV_430
            have hG_447 := FR.frame hMr_438 go_.2.2.2.1 mq0_ kq0_ (by decide) (by decide) hF_428
            obtain ⟨E_448, hE_448⟩ : ∃ E : Int, cEq fr_438 a0_ E := ⟨_, rfl⟩
            have mxE_448 : E_448 ≤ 1202 := by have h9 := cF_le g ma0_ ka0_; have h8 : cF _ _ = _ := hE_448; omega
            have lE_448 : E_328 + 1 ≤ E_448 := by have h9 := hx_441; have h8 : cF _ _ = _ := hE_448; have h7 : cF _ _ = _ := hG_425; omega
            have b_449 : bd 0 1200 x_324 := eqX rfl h_325 h_442 (by decide)
            have g := g.more hF_445
            refine lv_aload_n hx hb dX14_readDoing_110 rfl (lv_at hl 3 rfl) ?_
            refine g_getk (C := RX14) (T := TX14) (N := 67) hx hb hts (mc_ inX14) hown hK g rfl 2 (by decide) rfl (hts _ (List.mem_cons_of_mem _ t_2148)) (fun _ h9 => h9) 9 rfl dX14_readDoing_111 ?_
            refine g_getr (K := 193) (C := RX12) (T := TX12) (N := 60) hx hb hts (mc_ inX12) hown hK g mq0_ kq0_ (by decide) rfl 38 (by decide) rfl (hts _ (List.mem_cons_of_mem _ t_1981)) (fun _ h9 => h9) rfl dX14_readDoing_114 (fun a_450 ma_450 ka_450 g => ?_)
            refine lv_iload_n hx hb dX14_readDoing_117 rfl (lv_at hl 1 rfl) ?_
            refine lv_aload_n hx hb dX14_readDoing_118 rfl (lv_at hl 3 rfl) ?_
            have qc__451 : cF fr_438 a0_ = _ := hE_448
            have qc__452 : cF fr_438 a0_ = _ := hE_448
            have go_ := g
            refine g_callZi (As := []) (rest := [.int r_6, .ref a_450]) ⟨hx, hb, hml, hown, hts⟩ (r_X14_readEx l dC dI L kd tys fr_438 H.size g.2.2.2.1 adK adV a0_ ma0_ ka0_ q0_ mq0_ kq0_ V_429 o_ bo_ op_ bop_ x_443 h_444 hG_446 hsi_431.2.2.1 (by rw [hsi_431.1.2.2.1 0 (by decide) (by decide)]; exact ho) (by omega) (K_ - cr_321) (by omega) (g.fcts [10, 11, 8, 1] rfl)) (cwV 0 hts (gV_ t_2460 t_2462 t_112 t_198 t_2463) rfl rfl rfl (by decide +kernel) ⟨(Nat.le_of_ble_eq_true rfl), (Nat.le_of_ble_eq_true rfl)⟩) (pre3VA g hK hAm ma0_ ka0_ (by decide) (q := (RX14, TX14, 67)) rfl) rfl hl.1 rfl (lv_room (Nat.le_of_ble_eq_true rfl)) dX14_readDoing_119 (cl_k (K := K_) (k := K_ - cr_321) (show cr_321 + (K_ - cr_321) ≤ K_ by omega)) g hK (by decide) (by decide) (fx' := [(12, 38, q0_, .ref a_450), (12, 48, q0_, .ref a_420), (12, 37, q0_, .ref a_419), (12, 50, q0_, .ref a_401), (12, 35, q0_, .ref a_400), (12, 34, q0_, .ref a_384), (12, 47, q0_, .ref a_350), (12, 46, q0_, .int x_10), (14, 2, a0_, .ref q0_), (14, 16, a0_, .int o_), (14, 17, a0_, .int me_), (14, 26, a0_, .int br_)]) rfl (fun xr_453 fr_453 H locs kr_453 cr_453 ecr_453 mxr_453 kxr_453 hp hMr_453 g => ?_) (fun r_453 fr_453 H locs kr_453 cr_453 ecr_453 hp hMr_453 g => ?_)
            · have hF_454 := FR.call (mds := []) (mas := []) hG_447 go_ mq0_ kq0_ rfl hp.1
              have hpk := hp.2
              subst hQ
              exact leavesX hempty hlocks (fun t ht hW => g_thrZ g hK mxr_453 kxr_453 ⟨hF_454, (by omega)⟩ ht hW) g.2.2.1.2.2
            · obtain ⟨hx_455, x_456, h_457, hF_458⟩ := hp
              obtain ⟨V_459, E_460, hV_461, hF_462, hE_463, hX_464, hw_465, hv_466, hP_467, hn_468, hk_469, hc_470⟩ := rd_use hx_455 hE_448
              have hF_471 := FR.call (mds := []) (mas := []) hG_447 go_ mq0_ kq0_ rfl hF_462
              have mxE_460 : E_460 ≤ 1202 := by have h9 := cF_le g ma0_ ka0_; have h8 : cF _ _ = _ := hE_463; omega
              have hsi_472 := SI.nodes hsi_431 hX_464 hw_465
              have hsi_472n : (V_459.n 46).toInt = (V_429.n 46).toInt := by rw [exN.n46 hX_464]
              have hl_473 := exS.ev (exN.toS hX_464) hl_435
              have hl_474 := exS.var (exN.toS hX_464) hl_436
              have hst_475 := ST.ex_ hst_432 (exN.toS hX_464) hlt_433
              have hd_476 := ((fun _ _ => rfl) _ hlt_433).trans hd_342
              have hlt_477 := Int.lt_of_lt_of_le hlt_433 ((exN.toS hX_464)).2.2.2.2.1
              have hck_478 : cr_453 ≤ K_ := by omega
              have b_479 : bd 0 2499 r_453 := ⟨hv_466.1, (by have h9 := hv_466.2.1; omega)⟩
              have he_480 := EV.up hv_466 (h' := 13) (by decide)
              have g := g.more hF_458
              have gp_481 := g
              have go_ := g
              refine g_iastX hx hb hK g ma_450 ka_450 (by decide) rfl (in_bd h_9 (by decide)) (bd_sub b_479 (by decide)) (by decide) dX14_readDoing_122 (fun f H locs hM_482 u_484 g => ?_)
              have hG_483 := cEq.frame hM_482 go_.2.2.2.1 ma0_ ka0_ (by decide) (by decide) hE_463
              have hV_485 := isV.ui hV_461 gp_481 2 rfl mq0_ kq0_ rfl u_484
              have hF_486 := FR.arr hF_471 gp_481 2 rfl mq0_ kq0_ rfl rfl u_484.1
              obtain ⟨V_487, hV_488, hsi_489, hst_490, hne_492, hne_492b, hl_493, hl_494, hl_495⟩ : ∃ V1 : PV, isV f q0_ V1 ∧ SI V_ δ_ V1 D_18 (fun k => U_ k ∨ k = r_6.toNatClampNeg) ∧ ST V1 r_6.toNatClampNeg (2 : Int32) x_402 ((-1) : Int32) x_421 r_453 ((-1) : Int32) ((-1) : Int32) (-1) me_ ∧ (V1.n 57).toInt = (V_459.n 57).toInt ∧ (V1.n 46).toInt = (V_459.n 46).toInt ∧ EV V1 r_321 13 o_.toNatClampNeg ∧ EV V1 r_453 13 o_.toNatClampNeg ∧ varOK V1 x_402 o_.toNatClampNeg := ⟨_, hV_485, SI.upd hsi_472 (by decide) (by rw [tnZ h_9.1]; omega) (Or.inr rfl), ST.s38 hst_475, rfl, rfl, (EV.ui_ (j := 38) (by decide)).mpr hl_473, (EV.ui_ (j := 38) (by decide)).mpr he_480, var_ui (by decide) hl_474⟩
              have hlt_491 : ((r_6.toNatClampNeg : Nat) : Int) < (V_487.n 46).toInt := by rw [hne_492b]; exact hlt_477
              refine lv_goto (tgt := 136) hx hb dX14_readDoing_123 (by decide) ?_
              refine lv_aload_n hx hb dX14_readDoing_136 rfl (lv_at hl 3 rfl) ?_
              refine lv_bipush (v := 59) hx hb dX14_readDoing_137 (by decide) ?_
              have go_ := g
              refine g_callEv (As := [.int 59]) (rest := []) ⟨hx, hb, hml, hown, hts⟩ (r_X14_sign_2 l dC dI L kd tys f H.size g.2.2.2.1 adK adV a0_ ma0_ ka0_ 59 x_456 h_457 (g.fcts [1] rfl)) (cwV 1 hts (gV_ t_2431 t_2433 t_107 t_198 t_2434) rfl rfl rfl (by decide +kernel) ⟨(Nat.le_of_ble_eq_true rfl), (Nat.le_of_ble_eq_true rfl)⟩) (pre3VA g hK hAm ma0_ ka0_ (by decide) (q := (RX14, TX14, 67)) rfl) rfl hl.1 rfl (lv_room (Nat.le_of_ble_eq_true rfl)) dX14_readDoing_139 (cl_f hck_478) g hK (by decide) (by decide) (fx' := [(14, 25, a0_, .int op_), (12, 38, q0_, .ref a_450), (12, 48, q0_, .ref a_420), (12, 37, q0_, .ref a_419), (12, 50, q0_, .ref a_401), (12, 35, q0_, .ref a_400), (12, 34, q0_, .ref a_384), (12, 47, q0_, .ref a_350), (12, 46, q0_, .int x_10), (14, 2, a0_, .ref q0_), (14, 16, a0_, .int o_), (14, 17, a0_, .int me_), (14, 26, a0_, .int br_)]) rfl (fun xr_496 fr_496 H locs mxr_496 kxr_496 hp hMr_496 g => ?_) (fun fr_496 H locs hp hMr_496 g => ?_)
              · have hG_497 := isV.frame hMr_496 go_.2.2.2.1 mq0_ kq0_ (by decide) (by decide) hV_488
                have hG_498 := FR.frame hMr_496 go_.2.2.2.1 mq0_ kq0_ (by decide) (by decide) hF_486
                subst hQ
                exact leavesX hempty hlocks (fun t ht hW => g_thrZ g hK mxr_496 kxr_496 ⟨hG_498, (by omega)⟩ ht hW) g.2.2.1.2.2
              · obtain ⟨hx_499, h_500, x_501, h_502, hF_503⟩ := hp
                have hG_504 := isV.frame hMr_496 go_.2.2.2.1 mq0_ kq0_ (by decide) (by decide) hV_488
                have hG_505 := FR.frame hMr_496 go_.2.2.2.1 mq0_ kq0_ (by decide) (by decide) hF_486
                obtain ⟨E_506, hE_506⟩ : ∃ E : Int, cEq fr_496 a0_ E := ⟨_, rfl⟩
                have mxE_506 : E_506 ≤ 1202 := by have h9 := cF_le g ma0_ ka0_; have h8 : cF _ _ = _ := hE_506; omega
                have lE_506 : E_460 + 1 ≤ E_506 := by have h9 := hx_499; have h8 : cF _ _ = _ := hE_506; have h7 : cF _ _ = _ := hG_483; omega
                have b_507 : bd 0 1200 x_456 := eqX rfl h_457 h_500 (by decide)
                have g := g.more hF_503
                refine lv_iload_n hx hb dX14_readDoing_142 rfl (lv_at hl 1 rfl) ?_
                have hok_508 := st_ok (d := o_.toNatClampNeg) hst_490 hd_476 (lv_bd bbr_) rfl (by rw [hsi_489.1.2.2.1 27 (by decide) (by decide)]; exact hm27) (by rw [hsi_489.1.1 18 (by decide) (by decide)]; exact hm18) (Or.inl (by decide)) (fun h9 => absurd h9 (by decide)) (fun _ => ⟨hl_495, (Or.inl hv_422)⟩) (fun _ => (hl_494.up (by decide))) (fun h9 => absurd h9 (by decide)) (fun h9 => absurd h9 (by decide)) (fun h9 => absurd h9 (by decide))
                have hsi_509 := SI.close hsi_489 hok_508
                have h9c : cF fr_496 a0_ = _ := hE_506
                subst hQ
                exact iretX (v := r_6) hx hb hr (fun t ht hW => g_retZ g hK ⟨_, rfl, ⟨⟨_, _, hG_504, hG_505, hsi_509, ⟨(by omega), (by have h9 := hlt_491; rw [tnZ h_9.1] at h9; exact h9), hd_476, (by rw [hst_490.2.2.2.2.2.2.2.2])⟩, (by omega), (by omega), (by omega), (by omega)⟩, x_501, h_502, (g.fcts [1, 13, 0] rfl)⟩⟩ ht hW) g.2.2.1.2.2 dX14_readDoing_143 hlocks
        · have gp_510 := g
          have go_ := g
          refine g_iastX hx hb hK g ma_419 ka_419 (by decide) rfl (in_bd h_9 (by decide)) (bdT x_421) (by decide) dX14_readDoing_103 (fun f H locs hM_511 u_513 g => ?_)
          have hG_512 := cEq.frame hM_511 go_.2.2.2.1 ma0_ ka0_ (by decide) (by decide) hG_406
          have hV_514 := isV.ui hV_411 gp_510 1 rfl mq0_ kq0_ rfl u_513
          have hF_515 := FR.arr hF_409 gp_510 1 rfl mq0_ kq0_ rfl rfl u_513.1
          obtain ⟨V_516, hV_517, hsi_518, hst_519, hne_521, hne_521b, hl_522, hl_523, hl_524, hl_525⟩ : ∃ V1 : PV, isV f q0_ V1 ∧ SI V_ δ_ V1 D_18 (fun k => U_ k ∨ k = r_6.toNatClampNeg) ∧ ST V1 r_6.toNatClampNeg (2 : Int32) x_402 ((-1) : Int32) x_421 ((-1) : Int32) ((-1) : Int32) ((-1) : Int32) (-1) me_ ∧ (V1.n 57).toInt = (V_410.n 57).toInt ∧ (V1.n 46).toInt = (V_410.n 46).toInt ∧ EV V1 r_321 13 o_.toNatClampNeg ∧ EV V1 x_421 13 o_.toNatClampNeg ∧ varOK V1 x_402 o_.toNatClampNeg ∧ (V1.i 47 r_321.toNatClampNeg).toInt = 2 := ⟨_, hV_514, SI.upd hsi_412 (by decide) (by rw [tnZ h_9.1]; omega) (Or.inr rfl), ST.s37 hst_413, rfl, rfl, (EV.ui_ (j := 37) (by decide)).mpr hl_416, (EV.ui_ (j := 37) (by decide)).mpr hv_422, var_ui (by decide) hl_417, op2_ui (by decide) hl_418⟩
          have hlt_520 : ((r_6.toNatClampNeg : Nat) : Int) < (V_516.n 46).toInt := by rw [hne_521b]; exact hlt_414
          refine lv_aload_n hx hb dX14_readDoing_104 rfl (lv_at hl 3 rfl) ?_
          refine lv_bipush (v := 61) hx hb dX14_readDoing_105 (by decide) ?_
          have go_ := g
          refine g_callEv (As := [.int 61]) (rest := []) ⟨hx, hb, hml, hown, hts⟩ (r_X14_sign_2 l dC dI L kd tys f H.size g.2.2.2.1 adK adV a0_ ma0_ ka0_ 61 x_324 h_325 (g.fcts [7] rfl)) (cwV 1 hts (gV_ t_2431 t_2433 t_107 t_198 t_2434) rfl rfl rfl (by decide +kernel) ⟨(Nat.le_of_ble_eq_true rfl), (Nat.le_of_ble_eq_true rfl)⟩) (pre3VA g hK hAm ma0_ ka0_ (by decide) (q := (RX14, TX14, 67)) rfl) rfl hl.1 rfl (lv_room (Nat.le_of_ble_eq_true rfl)) dX14_readDoing_107 (cl_f hck_344) g hK (by decide) (by decide) (fx' := [(12, 48, q0_, .ref a_420), (12, 37, q0_, .ref a_419), (12, 50, q0_, .ref a_401), (12, 35, q0_, .ref a_400), (12, 34, q0_, .ref a_384), (12, 47, q0_, .ref a_350), (14, 25, a0_, .int op_), (12, 46, q0_, .int x_10), (14, 2, a0_, .ref q0_), (14, 16, a0_, .int o_), (14, 17, a0_, .int me_), (14, 26, a0_, .int br_)]) rfl (fun xr_526 fr_526 H locs mxr_526 kxr_526 hp hMr_526 g => ?_) (fun fr_526 H locs hp hMr_526 g => ?_)
          · have hG_527 := isV.frame hMr_526 go_.2.2.2.1 mq0_ kq0_ (by decide) (by decide) hV_517
            have hG_528 := FR.frame hMr_526 go_.2.2.2.1 mq0_ kq0_ (by decide) (by decide) hF_515
            subst hQ
            exact leavesX hempty hlocks (fun t ht hW => g_thrZ g hK mxr_526 kxr_526 ⟨hG_528, (by omega)⟩ ht hW) g.2.2.1.2.2
          · obtain ⟨hx_529, h_530, x_531, h_532, hF_533⟩ := hp
            have hG_534 := isV.frame hMr_526 go_.2.2.2.1 mq0_ kq0_ (by decide) (by decide) hV_517
            have hG_535 := FR.frame hMr_526 go_.2.2.2.1 mq0_ kq0_ (by decide) (by decide) hF_515
            obtain ⟨E_536, hE_536⟩ : ∃ E : Int, cEq fr_526 a0_ E := ⟨_, rfl⟩
            have mxE_536 : E_536 ≤ 1202 := by have h9 := cF_le g ma0_ ka0_; have h8 : cF _ _ = _ := hE_536; omega
            have lE_536 : E_328 + 1 ≤ E_536 := by have h9 := hx_529; have h8 : cF _ _ = _ := hE_536; have h7 : cF _ _ = _ := hG_512; omega
            have b_537 : bd 0 1200 x_324 := eqX rfl h_325 h_530 (by decide)
            have g := g.more hF_533
            refine lv_aload_n hx hb dX14_readDoing_110 rfl (lv_at hl 3 rfl) ?_
            refine g_getk (C := RX14) (T := TX14) (N := 67) hx hb hts (mc_ inX14) hown hK g rfl 2 (by decide) rfl (hts _ (List.mem_cons_of_mem _ t_2148)) (fun _ h9 => h9) 9 rfl dX14_readDoing_111 ?_
            refine g_getr (K := 193) (C := RX12) (T := TX12) (N := 60) hx hb hts (mc_ inX12) hown hK g mq0_ kq0_ (by decide) rfl 38 (by decide) rfl (hts _ (List.mem_cons_of_mem _ t_1981)) (fun _ h9 => h9) rfl dX14_readDoing_114 (fun a_538 ma_538 ka_538 g => ?_)
            refine lv_iload_n hx hb dX14_readDoing_117 rfl (lv_at hl 1 rfl) ?_
            refine lv_aload_n hx hb dX14_readDoing_118 rfl (lv_at hl 3 rfl) ?_
            have qc__539 : cF fr_526 a0_ = _ := hE_536
            have qc__540 : cF fr_526 a0_ = _ := hE_536
            have go_ := g
            refine g_callZi (As := []) (rest := [.int r_6, .ref a_538]) ⟨hx, hb, hml, hown, hts⟩ (r_X14_readEx l dC dI L kd tys fr_526 H.size g.2.2.2.1 adK adV a0_ ma0_ ka0_ q0_ mq0_ kq0_ V_516 o_ bo_ op_ bop_ x_531 h_532 hG_534 hsi_518.2.2.1 (by rw [hsi_518.1.2.2.1 0 (by decide) (by decide)]; exact ho) (by omega) (K_ - cr_321) (by omega) (g.fcts [10, 11, 8, 1] rfl)) (cwV 0 hts (gV_ t_2460 t_2462 t_112 t_198 t_2463) rfl rfl rfl (by decide +kernel) ⟨(Nat.le_of_ble_eq_true rfl), (Nat.le_of_ble_eq_true rfl)⟩) (pre3VA g hK hAm ma0_ ka0_ (by decide) (q := (RX14, TX14, 67)) rfl) rfl hl.1 rfl (lv_room (Nat.le_of_ble_eq_true rfl)) dX14_readDoing_119 (cl_k (K := K_) (k := K_ - cr_321) (show cr_321 + (K_ - cr_321) ≤ K_ by omega)) g hK (by decide) (by decide) (fx' := [(12, 38, q0_, .ref a_538), (12, 48, q0_, .ref a_420), (12, 37, q0_, .ref a_419), (12, 50, q0_, .ref a_401), (12, 35, q0_, .ref a_400), (12, 34, q0_, .ref a_384), (12, 47, q0_, .ref a_350), (12, 46, q0_, .int x_10), (14, 2, a0_, .ref q0_), (14, 16, a0_, .int o_), (14, 17, a0_, .int me_), (14, 26, a0_, .int br_)]) rfl (fun xr_541 fr_541 H locs kr_541 cr_541 ecr_541 mxr_541 kxr_541 hp hMr_541 g => ?_) (fun r_541 fr_541 H locs kr_541 cr_541 ecr_541 hp hMr_541 g => ?_)
            · have hF_542 := FR.call (mds := []) (mas := []) hG_535 go_ mq0_ kq0_ rfl hp.1
              have hpk := hp.2
              subst hQ
              exact leavesX hempty hlocks (fun t ht hW => g_thrZ g hK mxr_541 kxr_541 ⟨hF_542, (by omega)⟩ ht hW) g.2.2.1.2.2
            · obtain ⟨hx_543, x_544, h_545, hF_546⟩ := hp
              obtain ⟨V_547, E_548, hV_549, hF_550, hE_551, hX_552, hw_553, hv_554, hP_555, hn_556, hk_557, hc_558⟩ := rd_use hx_543 hE_536
              have hF_559 := FR.call (mds := []) (mas := []) hG_535 go_ mq0_ kq0_ rfl hF_550
              have mxE_548 : E_548 ≤ 1202 := by have h9 := cF_le g ma0_ ka0_; have h8 : cF _ _ = _ := hE_551; omega
              have hsi_560 := SI.nodes hsi_518 hX_552 hw_553
              have hsi_560n : (V_547.n 46).toInt = (V_516.n 46).toInt := by rw [exN.n46 hX_552]
              have hl_561 := exS.ev (exN.toS hX_552) hl_522
              have hl_562 := exS.ev (exN.toS hX_552) hl_523
              have hl_563 := exS.var (exN.toS hX_552) hl_524
              have hst_564 := ST.ex_ hst_519 (exN.toS hX_552) hlt_520
              have hd_565 := ((fun _ _ => rfl) _ hlt_520).trans hd_342
              have hlt_566 := Int.lt_of_lt_of_le hlt_520 ((exN.toS hX_552)).2.2.2.2.1
              have hck_567 : cr_541 ≤ K_ := by omega
              have b_568 : bd 0 2499 r_541 := ⟨hv_554.1, (by have h9 := hv_554.2.1; omega)⟩
              have he_569 := EV.up hv_554 (h' := 13) (by decide)
              have g := g.more hF_546
              have gp_570 := g
              have go_ := g
              refine g_iastX hx hb hK g ma_538 ka_538 (by decide) rfl (in_bd h_9 (by decide)) (bd_sub b_568 (by decide)) (by decide) dX14_readDoing_122 (fun f H locs hM_571 u_573 g => ?_)
              have hG_572 := cEq.frame hM_571 go_.2.2.2.1 ma0_ ka0_ (by decide) (by decide) hE_551
              have hV_574 := isV.ui hV_549 gp_570 2 rfl mq0_ kq0_ rfl u_573
              have hF_575 := FR.arr hF_559 gp_570 2 rfl mq0_ kq0_ rfl rfl u_573.1
              obtain ⟨V_576, hV_577, hsi_578, hst_579, hne_581, hne_581b, hl_582, hl_583, hl_584, hl_585⟩ : ∃ V1 : PV, isV f q0_ V1 ∧ SI V_ δ_ V1 D_18 (fun k => U_ k ∨ k = r_6.toNatClampNeg) ∧ ST V1 r_6.toNatClampNeg (2 : Int32) x_402 ((-1) : Int32) x_421 r_541 ((-1) : Int32) ((-1) : Int32) (-1) me_ ∧ (V1.n 57).toInt = (V_547.n 57).toInt ∧ (V1.n 46).toInt = (V_547.n 46).toInt ∧ EV V1 r_321 13 o_.toNatClampNeg ∧ EV V1 x_421 13 o_.toNatClampNeg ∧ EV V1 r_541 13 o_.toNatClampNeg ∧ varOK V1 x_402 o_.toNatClampNeg := ⟨_, hV_574, SI.upd hsi_560 (by decide) (by rw [tnZ h_9.1]; omega) (Or.inr rfl), ST.s38 hst_564, rfl, rfl, (EV.ui_ (j := 38) (by decide)).mpr hl_561, (EV.ui_ (j := 38) (by decide)).mpr hl_562, (EV.ui_ (j := 38) (by decide)).mpr he_569, var_ui (by decide) hl_563⟩
              have hlt_580 : ((r_6.toNatClampNeg : Nat) : Int) < (V_576.n 46).toInt := by rw [hne_581b]; exact hlt_566
              refine lv_goto (tgt := 136) hx hb dX14_readDoing_123 (by decide) ?_
              refine lv_aload_n hx hb dX14_readDoing_136 rfl (lv_at hl 3 rfl) ?_
              refine lv_bipush (v := 59) hx hb dX14_readDoing_137 (by decide) ?_
              have go_ := g
              refine g_callEv (As := [.int 59]) (rest := []) ⟨hx, hb, hml, hown, hts⟩ (r_X14_sign_2 l dC dI L kd tys f H.size g.2.2.2.1 adK adV a0_ ma0_ ka0_ 59 x_544 h_545 (g.fcts [1] rfl)) (cwV 1 hts (gV_ t_2431 t_2433 t_107 t_198 t_2434) rfl rfl rfl (by decide +kernel) ⟨(Nat.le_of_ble_eq_true rfl), (Nat.le_of_ble_eq_true rfl)⟩) (pre3VA g hK hAm ma0_ ka0_ (by decide) (q := (RX14, TX14, 67)) rfl) rfl hl.1 rfl (lv_room (Nat.le_of_ble_eq_true rfl)) dX14_readDoing_139 (cl_f hck_567) g hK (by decide) (by decide) (fx' := [(14, 25, a0_, .int op_), (12, 38, q0_, .ref a_538), (12, 48, q0_, .ref a_420), (12, 37, q0_, .ref a_419), (12, 50, q0_, .ref a_401), (12, 35, q0_, .ref a_400), (12, 34, q0_, .ref a_384), (12, 47, q0_, .ref a_350), (12, 46, q0_, .int x_10), (14, 2, a0_, .ref q0_), (14, 16, a0_, .int o_), (14, 17, a0_, .int me_), (14, 26, a0_, .int br_)]) rfl (fun xr_586 fr_586 H locs mxr_586 kxr_586 hp hMr_586 g => ?_) (fun fr_586 H locs hp hMr_586 g => ?_)
              · have hG_587 := isV.frame hMr_586 go_.2.2.2.1 mq0_ kq0_ (by decide) (by decide) hV_577
                have hG_588 := FR.frame hMr_586 go_.2.2.2.1 mq0_ kq0_ (by decide) (by decide) hF_575
                subst hQ
                exact leavesX hempty hlocks (fun t ht hW => g_thrZ g hK mxr_586 kxr_586 ⟨hG_588, (by omega)⟩ ht hW) g.2.2.1.2.2
              · obtain ⟨hx_589, h_590, x_591, h_592, hF_593⟩ := hp
                have hG_594 := isV.frame hMr_586 go_.2.2.2.1 mq0_ kq0_ (by decide) (by decide) hV_577
                have hG_595 := FR.frame hMr_586 go_.2.2.2.1 mq0_ kq0_ (by decide) (by decide) hF_575
                obtain ⟨E_596, hE_596⟩ : ∃ E : Int, cEq fr_586 a0_ E := ⟨_, rfl⟩
                have mxE_596 : E_596 ≤ 1202 := by have h9 := cF_le g ma0_ ka0_; have h8 : cF _ _ = _ := hE_596; omega
                have lE_596 : E_548 + 1 ≤ E_596 := by have h9 := hx_589; have h8 : cF _ _ = _ := hE_596; have h7 : cF _ _ = _ := hG_572; omega
                have b_597 : bd 0 1200 x_544 := eqX rfl h_545 h_590 (by decide)
                have g := g.more hF_593
                refine lv_iload_n hx hb dX14_readDoing_142 rfl (lv_at hl 1 rfl) ?_
                have hok_598 := st_ok (d := o_.toNatClampNeg) hst_579 hd_565 (lv_bd bbr_) rfl (by rw [hsi_578.1.2.2.1 27 (by decide) (by decide)]; exact hm27) (by rw [hsi_578.1.1 18 (by decide) (by decide)]; exact hm18) (Or.inl (by decide)) (fun h9 => absurd h9 (by decide)) (fun _ => ⟨hl_585, (Or.inr hl_583)⟩) (fun _ => (hl_584.up (by decide))) (fun h9 => absurd h9 (by decide)) (fun h9 => absurd h9 (by decide)) (fun h9 => absurd h9 (by decide))
                have hsi_599 := SI.close hsi_578 hok_598
                have h9c : cF fr_586 a0_ = _ := hE_596
                subst hQ
                exact iretX (v := r_6) hx hb hr (fun t ht hW => g_retZ g hK ⟨_, rfl, ⟨⟨_, _, hG_594, hG_595, hsi_599, ⟨(by omega), (by have h9 := hlt_580; rw [tnZ h_9.1] at h9; exact h9), hd_565, (by rw [hst_579.2.2.2.2.2.2.2.2])⟩, (by omega), (by omega), (by omega), (by omega)⟩, x_591, h_592, (g.fcts [1, 13, 0] rfl)⟩⟩ ht hW) g.2.2.1.2.2 dX14_readDoing_143 hlocks
