set_option maxHeartbeats 4000000 in
set_option maxRecDepth 100000 in
theorem r_X10_tryAll (l : Launch) (dC : Nat → ClassId) (dI : Nat → Nat → Nat) (L : List Nat) (kd : Nat → Nat) (tys : List (ClassId × FieldType)) (f0 : Nat → va_E) (sz : Nat) (hWT : WT L kd tys f0) (a0_ : Nat) (ma0_ : a0_ ∈ L) (ka0_ : kd a0_ = 10) (x1_ : Int32) (bx1_ : bd 0 7 x1_) (x2_ : Int32) (bx2_ : bd 0 10 x2_) (q0_ : Nat) (mq0_ : q0_ ∈ L) (kq0_ : kd q0_ = 7) (hGPa0_ : RP L kd f0 a0_) (hGcq0_ : cOK f0 q0_) (hfx : Fs L kd f0 [(10, 0, a0_, .ref q0_)]) : Met l yX10_tryAll (.code yX10_tryAll cX10_tryAll 7 (some .int) :: lw_g) ({ frames := 6, cells := 0, slots := 0, locals := 155 }) (va_Pc [.ref a0_, .int x1_, .int x2_] (P3 (dC, dI) L tys f0 sz)) (va_Qi (fun (r : Int32) (f : Nat → va_E) => (RP L kd f a0_ ∧ bd 0 2147483647 r ∧ True)) (Q3 (dC, dI) L kd tys [(1, 0), (1, 1), (1, 2), (1, 3), (1, 4), (1, 5), (1, 6), (1, 8), (1, 11), (1, 12), (1, 13), (1, 14), (1, 15), (1, 16), (1, 17), (3, 0), (3, 4), (4, 0), (4, 1), (4, 2), (4, 3), (4, 4), (4, 5), (4, 6), (4, 14), (4, 15), (4, 16), (10, 2), (10, 3), (10, 4), (10, 5), (10, 6), (10, 7), (10, 8)] [100, 101, 102, 103, 116, 117, 122, 123, 125, 126, 127, 130, 131, 146] f0 sz) (pA L sz)) 0 0 (pA L sz) := by
  refine Met.ofW (cc := cX10_tryAll) (maxL := 7) (ret := (some .int)) (by decide) rfl ?_
  intro p e s m args below meth c s₁ B hml hv
  obtain ⟨rfl, hsz, hP, hK, hD0⟩ := hv
  have hx := B.exec
  have hb := B.bytes
  have hr := B.returns
  have hts := atoms_spec (ws := (.code yX10_tryAll cX10_tryAll 7 (some .int) :: lw_g)) B.pre
  have hown : s.vm.findClass RX10 = some m.cls := findClass_of_methodNamed B.named
  have hlocks := B.notSynchronized
  subst hsz
  have g : G3 (dC, dI) L kd tys s f0 [(1, 0), (1, 1), (1, 2), (1, 3), (1, 4), (1, 5), (1, 6), (1, 8), (1, 11), (1, 12), (1, 13), (1, 14), (1, 15), (1, 16), (1, 17), (3, 0), (3, 4), (4, 0), (4, 1), (4, 2), (4, 3), (4, 4), (4, 5), (4, 6), (4, 14), (4, 15), (4, 16), (10, 2), (10, 3), (10, 4), (10, 5), (10, 6), (10, 7), (10, 8)] [100, 101, 102, 103, 116, 117, 122, 123, 125, 126, 127, 130, 131, 146] f0 s.heap [] [(10, 0, a0_, .ref q0_)] := G3.start hP hD0 hWT hfx
  have hl := lv_entry ([.ref a0_, .int x1_, .int x2_]) (n := 7) (Nat.le_of_ble_eq_true rfl)
  rw [lg_entry_eq]
  generalize (lg_sl ([.ref a0_, .int x1_, .int x2_]) ++ List.replicate (7 - (lg_sl ([.ref a0_, .int x1_, .int x2_])).length) Slot.unset).toArray = ls at hl ⊢
  have hl : lv_has ls 7 [(0, .ref a0_), (1, .int x1_), (2, .int x2_)] := hl
  refine W_q (fun Q hQ => ?_)
  refine lv_aload_n hx hb dX10_tryAll_0 rfl (lv_at hl 0 rfl) ?_
  refine lv_iconst (v := 0) hx hb dX10_tryAll_1 (by decide) ?_
  have kb_0 : bd 0 0 (0 : Int32) := ⟨by decide, by decide⟩
  have go_ := g
  refine g_put (C := RX10) (T := TX10) (N := 10) hx hb hts (mc_ inX10) tyX10 tyX10_ok nmX10 hown hK g ma0_ ka0_ (by decide) rfl 6 (by decide) (hts _ (List.mem_cons_of_mem _ t_920)) (fun _ h9 => h9) rfl rfl (okV_i (bd_sub kb_0 (by decide))) rfl rfl (by decide) (Or.inr (Or.inl (by decide))) (fx' := [(10, 0, a0_, .ref q0_)]) rfl dX10_tryAll_2 (fun f H locs hM_1 g => ?_)
  have hG_2 := RP.frame hM_1 go_.2.2.2.1 ma0_ ka0_ (by decide) (by decide) hGPa0_
  have hG_3 := cOK.frame hM_1 go_.2.2.2.1 mq0_ kq0_ (by decide) (by decide) hGcq0_
  refine lv_aload_n hx hb dX10_tryAll_5 rfl (lv_at hl 0 rfl) ?_
  refine lv_iconst (v := 0) hx hb dX10_tryAll_6 (by decide) ?_
  have go_ := g
  refine g_put (C := RX10) (T := TX10) (N := 10) hx hb hts (mc_ inX10) tyX10 tyX10_ok nmX10 hown hK g ma0_ ka0_ (by decide) rfl 7 (by decide) (hts _ (List.mem_cons_of_mem _ t_922)) (fun _ h9 => h9) rfl rfl (okV_i (bd_sub kb_0 (by decide))) rfl rfl (by decide) (Or.inr (Or.inl (by decide))) (fx' := [(10, 6, a0_, .int 0), (10, 0, a0_, .ref q0_)]) rfl dX10_tryAll_7 (fun f H locs hM_4 g => ?_)
  have hG_5 := RP.frame hM_4 go_.2.2.2.1 ma0_ ka0_ (by decide) (by decide) hG_2
  have hG_6 := cOK.frame hM_4 go_.2.2.2.1 mq0_ kq0_ (by decide) (by decide) hG_3
  refine lv_iconst (v := 1) hx hb dX10_tryAll_10 (by decide) ?_
  refine lv_istore_n (lv' := [(3, .int 1), (0, .ref a0_), (1, .int x1_), (2, .int x2_)]) hx hb dX10_tryAll_11 rfl hl (by decide) rfl (fun ls hl => ?_)
  have loop_7 : ∀ (n : Nat) (v12_3 : Int32), bd 1 11 v12_3 → (11 - v12_3.toInt < (n : Int)) → ∀ (f : Nat → va_E) (H : Heap) (locs : List Loc) (ls : Array Slot), G3 (dC, dI) L kd tys s f0 [(1, 0), (1, 1), (1, 2), (1, 3), (1, 4), (1, 5), (1, 6), (1, 8), (1, 11), (1, 12), (1, 13), (1, 14), (1, 15), (1, 16), (1, 17), (3, 0), (3, 4), (4, 0), (4, 1), (4, 2), (4, 3), (4, 4), (4, 5), (4, 6), (4, 14), (4, 15), (4, 16), (10, 2), (10, 3), (10, 4), (10, 5), (10, 6), (10, 7), (10, 8)] [100, 101, 102, 103, 116, 117, 122, 123, 125, 126, 127, 130, 131, 146] f H locs [(10, 0, a0_, .ref q0_)] → RP L kd f a0_ → cOK f q0_ → lv_has ls 7 [(3, .int v12_3), (0, .ref a0_), (1, .int x1_), (2, .int x2_)] → W p l e ({ frames := 6, cells := 0, slots := 0, locals := 155 } : Room) s m [.ref a0_, .int x1_, .int x2_].toArray below meth c H locs 0 0 Q (F0 m 12 ls []) := by
    intro n12
    induction n12 with
    | zero =>
      intro v12_3 bv12_3 hm12 f H locs ls g hG12_P_a0_ hG12_c_q0_ hl
      exact absurd hm12 (by have h9_v12_3 := bv12_3; unfold bd at h9_v12_3; omega)
    | succ n12 ih12 =>
      intro v12_3 bv12_3 hm12 f H locs ls g hG12_P_a0_ hG12_c_q0_ hl
      refine lv_iload_n hx hb dX10_tryAll_12 rfl (lv_at hl 0 rfl) ?_
      refine lv_iload_n hx hb dX10_tryAll_13 rfl (lv_at hl 3 rfl) ?_
      refine lv_icmp_gt (tgt := 171) hx hb dX10_tryAll_14 (by decide) (fun c_8 => ?_) (fun c_8 => ?_)
      · have fc_8 := lt_f c_8
        refine lv_iconst (v := 0) hx hb dX10_tryAll_171 (by decide) ?_
        subst hQ
        exact W.iret (v := 0) hx hb hr (fun t ht hW => ⟨⟨_, _, rfl, ⟨hG12_P_a0_, (bd_sub kb_0 (by decide)), trivial⟩, q3_of g hK ht hW⟩, g.2.2.1.F ht⟩) g.2.2.1.2.2 dX10_tryAll_172
      · have fc_8 := nlt_f c_8
        have b_9 : bd 1 10 v12_3 := leL fc_8 bv12_3 bx2_ (by decide)
        have b_10 : bd 1 10 x2_ := leR fc_8 bv12_3 bx2_ (by decide)
        refine lv_aload_n hx hb dX10_tryAll_17 rfl (lv_at hl 1 rfl) ?_
        refine g_getr (K := 3) (C := RX10) (T := TX10) (N := 10) hx hb hts (mc_ inX10) hown hK g ma0_ ka0_ (by decide) rfl 3 (by decide) rfl (hts _ (List.mem_cons_of_mem _ t_916)) (fun _ h9 => h9) rfl dX10_tryAll_18 (fun a_11 ma_11 ka_11 g => ?_)
        obtain ⟨r1_12, r2_13, p1_14, p2_15, m1_16, m2_17, A1_18, A2_19, Q1_20, Q2_21, n1_22, n2_23, k1_24, k2_25, e2_26, e3_27, pk1_28, pk2_29, hap_30⟩ := hG12_P_a0_
        obtain ⟨⟨hr_31, kr_32⟩, ⟨hp_33, kp_34⟩, ⟨hm_35, km_36⟩, f2_37, f3_38, f0_39, f4_40, b0_41, b4_42, hJ_43, hQ_44, hw_45⟩ := pk1_28
        have g := G3.add g ma0_ ka0_ (by decide) e2_26
        have g := G3.add g hr_31 kr_32 (by decide) f2_37
        have g := G3.add g hr_31 kr_32 (by decide) f3_38
        have g := G3.add g hr_31 kr_32 (by decide) f0_39
        have g := G3.add g hr_31 kr_32 (by decide) f4_40
        obtain ⟨⟨hr_46, kr_47⟩, ⟨hp_48, kp_49⟩, ⟨hm_50, km_51⟩, f2_52, f3_53, f0_54, f4_55, b0_56, b4_57, hJ_58, hQ_59, hw_60⟩ := pk2_29
        obtain rfl : a_11 = r2_13 := by have h9 := (fx_at g (i := 5) rfl).2.2.2.symm.trans e3_27; cases h9; rfl
        have g := G3.add g ma_11 ka_11 (by decide) f2_52
        have g := G3.add g ma_11 ka_11 (by decide) f3_53
        have g := G3.add g ma_11 ka_11 (by decide) f0_54
        have g := G3.add g ma_11 ka_11 (by decide) f4_55
        have ho_61 := (fx_at g (i := 5) rfl).2.2.2
        have ho_62 := (fx_at g (i := 4) rfl).2.2.2
        have go_ := g
        refine g_callv (va_runV (As := []) (rest := []) ⟨hx, hb, hml, hown, hts⟩ (r_X3_wipeQ l dC dI L kd tys f H.size g.2.2.2.1 a_11 ma_11 ka_11 p2_15 hp_48 kp_49 m2_17 hm_50 km_51 A2_19 Q2_21 n2_23 b0_56 k2_25 b4_57 hJ_58 hQ_59 (g.fcts [1, 0, 3, 2] rfl)) (cwV 0 hts (gV_ t_1422 t_1423 t_1424 t_196 t_1425) rfl rfl rfl (by decide +kernel) ⟨(Nat.le_of_ble_eq_true rfl), (Nat.le_of_ble_eq_true rfl)⟩) (pre3V g hK ma_11 ka_11 (by decide) (q := (RX3, TX3, 6)) rfl) rfl rfl hl.1 rfl (lv_room (Nat.le_of_ble_eq_true rfl)) dX10_tryAll_21 ⟨(Nat.le_of_ble_eq_true rfl), (Nat.le_of_ble_eq_true rfl)⟩) g hK (by decide) (by decide) (fx' := [(3, 3, a_11, .ref p2_15), (3, 2, a_11, .ref m2_17), (3, 3, r1_12, .ref p1_14), (3, 2, r1_12, .ref m1_16), (10, 2, a0_, .ref r1_12), (10, 3, a0_, .ref a_11), (10, 0, a0_, .ref q0_)]) rfl (fun fr_63 H locs hp hMr_63 g => ?_)
        obtain ⟨hx_64, -⟩ := hp
        have hG_65 := cOK.frame hMr_63 go_.2.2.2.1 mq0_ kq0_ (by decide) (by decide) hG12_c_q0_
        have hG_66 := isQ.frame hMr_63 go_.2.2.2.1 hr_31 kr_32 (by decide) (by decide) hQ_44
        have hG_67 := arP.frame hMr_63 go_.2.2.2.1 hp_33 kp_34 (by decide) (by decide) hJ_43
        have hG_68 := isQ.frame hMr_63 go_.2.2.2.1 ma_11 ka_11 (by decide) (by decide) hQ_59
        have hG_69 := arP.frame hMr_63 go_.2.2.2.1 hp_48 kp_49 (by decide) (by decide) hJ_58
        obtain ⟨Q_70, n_71, k_72, hQ_73, hU_74, h0_75, h4_76, b0_77, b4_78, hP_79⟩ := hx_64
        have g := G3.add g ma_11 ka_11 (by decide) h0_75
        have g := G3.add g ma_11 ka_11 (by decide) h4_76
        have hQ_80 := QR.oth hU_74 hQ_44 (apQ.sym hap_30).2.1 (apQ.sym hap_30).2.2
        have g := G3.add g hr_31 kr_32 (by decide) (((hU_74 r1_12 hr_31).1 kr_32 (fun z => (apQ.sym hap_30).1 z.symm) 0).trans ho_61)
        have g := G3.add g hr_31 kr_32 (by decide) (((hU_74 r1_12 hr_31).1 kr_32 (fun z => (apQ.sym hap_30).1 z.symm) 4).trans ho_62)
        have hP_83 : RP L kd fr_63 a0_ := ⟨r1_12, _, _, _, _, _, _, _, _, _, _, _, _, _, (fx_at g (i := 8) rfl).2.2.2, (fx_at g (i := 9) rfl).2.2.2, ⟨⟨hr_31, kr_32⟩, ⟨hp_33, kp_34⟩, ⟨hm_35, km_36⟩, (fx_at g (i := 7) rfl).2.2.2, (fx_at g (i := 6) rfl).2.2.2, (fx_at g (i := 1) rfl).2.2.2, (fx_at g (i := 0) rfl).2.2.2, b0_41, b4_42, hG_67, hQ_80, hw_45⟩, ⟨⟨ma_11, ka_11⟩, ⟨hp_48, kp_49⟩, ⟨hm_50, km_51⟩, (fx_at g (i := 5) rfl).2.2.2, (fx_at g (i := 4) rfl).2.2.2, (fx_at g (i := 3) rfl).2.2.2, (fx_at g (i := 2) rfl).2.2.2, b0_77, b4_78, hG_69, hQ_73, hP_79.1⟩, hap_30⟩
        refine lv_aload_n hx hb dX10_tryAll_24 rfl (lv_at hl 1 rfl) ?_
        refine g_getk (C := RX10) (T := TX10) (N := 10) hx hb hts (mc_ inX10) hown hK g rfl 3 (by decide) rfl (hts _ (List.mem_cons_of_mem _ t_916)) (fun _ h9 => h9) 9 rfl dX10_tryAll_25 ?_
        refine lv_aload_n hx hb dX10_tryAll_28 rfl (lv_at hl 1 rfl) ?_
        refine g_getk (C := RX10) (T := TX10) (N := 10) hx hb hts (mc_ inX10) hown hK g rfl 0 (by decide) rfl (hts _ (List.mem_cons_of_mem _ t_912)) (fun _ h9 => h9) 10 rfl dX10_tryAll_29 ?_
        refine lv_iload_n hx hb dX10_tryAll_32 rfl (lv_at hl 2 rfl) ?_
        refine lv_iconst (v := 0) hx hb dX10_tryAll_33 (by decide) ?_
        refine lv_iload_n hx hb dX10_tryAll_34 rfl (lv_at hl 0 rfl) ?_
        obtain ⟨r1_84, r2_85, p1_86, p2_87, m1_88, m2_89, A1_90, A2_91, Q1_92, Q2_93, n1_94, n2_95, k1_96, k2_97, e2_98, e3_99, pk1_100, pk2_101, hap_102⟩ := hP_83
        obtain ⟨⟨hr_103, kr_104⟩, ⟨hp_105, kp_106⟩, ⟨hm_107, km_108⟩, f2_109, f3_110, f0_111, f4_112, b0_113, b4_114, hJ_115, hQ_116, hw_117⟩ := pk1_100
        obtain rfl : r1_12 = r1_84 := by have h9 := (fx_at g (i := 8) rfl).2.2.2.symm.trans e2_98; cases h9; rfl
        obtain rfl : m1_16 = m1_88 := by have h9 := (fx_at g (i := 7) rfl).2.2.2.symm.trans f2_109; cases h9; rfl
        obtain rfl : p1_14 = p1_86 := by have h9 := (fx_at g (i := 6) rfl).2.2.2.symm.trans f3_110; cases h9; rfl
        obtain rfl : n1_22 = n1_94 := by have h9 := (fx_at g (i := 1) rfl).2.2.2.symm.trans f0_111; cases h9; rfl
        obtain rfl : k1_24 = k1_96 := by have h9 := (fx_at g (i := 0) rfl).2.2.2.symm.trans f4_112; cases h9; rfl
        obtain ⟨⟨hr_118, kr_119⟩, ⟨hp_120, kp_121⟩, ⟨hm_122, km_123⟩, f2_124, f3_125, f0_126, f4_127, b0_128, b4_129, hJ_130, hQ_131, hw_132⟩ := pk2_101
        obtain rfl : a_11 = r2_85 := by have h9 := (fx_at g (i := 9) rfl).2.2.2.symm.trans e3_99; cases h9; rfl
        obtain rfl : m2_17 = m2_89 := by have h9 := (fx_at g (i := 5) rfl).2.2.2.symm.trans f2_124; cases h9; rfl
        obtain rfl : p2_15 = p2_87 := by have h9 := (fx_at g (i := 4) rfl).2.2.2.symm.trans f3_125; cases h9; rfl
        obtain rfl : n_71 = n2_95 := by have h9 := (fx_at g (i := 3) rfl).2.2.2.symm.trans f0_126; cases h9; rfl
        obtain rfl : k_72 = k2_97 := by have h9 := (fx_at g (i := 2) rfl).2.2.2.symm.trans f4_127; cases h9; rfl
        have ho_133 := (fx_at g (i := 1) rfl).2.2.2
        have ho_134 := (fx_at g (i := 0) rfl).2.2.2
        have go_ := g
        refine g_calli (va_runV (As := [.ref q0_, .int x1_, .int 0, .int v12_3]) (rest := []) ⟨hx, hb, hml, hown, hts⟩ (r_X3_fillFromQ l dC dI L kd tys fr_63 H.size g.2.2.2.1 a_11 ma_11 ka_11 p2_15 hp_48 kp_49 m2_17 hm_50 km_51 A2_91 Q2_93 n_71 b0_77 k_72 b4_78 hJ_130 hQ_131 hw_132 q0_ mq0_ kq0_ x1_ bx1_ (0 : Int32) (bd_sub kb_0 (by decide)) v12_3 (bd_sub b_9 (by decide)) (by have h9_0 := b4_42; unfold bd at h9_0; have h9_1 := b4_57; unfold bd at h9_1; have h9_2 := b4_78; unfold bd at h9_2; have h9_3 := b0_41; unfold bd at h9_3; have h9_4 := b0_56; unfold bd at h9_4; have h9_5 := b0_77; unfold bd at h9_5; have h9_6 := b_9; unfold bd at h9_6; have h9_7 := bx1_; unfold bd at h9_7; have h9_8 := b_10; unfold bd at h9_8; have h8_0 := kb_0; unfold bd at h8_0; omega) (g.fcts [3, 2, 5, 4] rfl)) (cwV 4 hts (gV_ t_1715 t_1716 t_1717 t_196 t_1718) rfl rfl rfl (by decide +kernel) ⟨(Nat.le_of_ble_eq_true rfl), (Nat.le_of_ble_eq_true rfl)⟩) (pre3V g hK ma_11 ka_11 (by decide) (q := (RX3, TX3, 6)) rfl) rfl rfl hl.1 rfl (lv_room (Nat.le_of_ble_eq_true rfl)) dX10_tryAll_35 ⟨(Nat.le_of_ble_eq_true rfl), (Nat.le_of_ble_eq_true rfl)⟩) g hK (by decide) (by decide) (fx' := [(3, 3, a_11, .ref p2_15), (3, 2, a_11, .ref m2_17), (3, 3, r1_12, .ref p1_14), (3, 2, r1_12, .ref m1_16), (10, 2, a0_, .ref r1_12), (10, 3, a0_, .ref a_11), (10, 0, a0_, .ref q0_)]) rfl (fun r_135 fr_135 H locs hp hMr_135 g => ?_)
        obtain ⟨hx_136, h_137, -⟩ := hp
        have hG_138 := cOK.frame hMr_135 go_.2.2.2.1 mq0_ kq0_ (by decide) (by decide) hG_65
        have hG_139 := arP.frame hMr_135 go_.2.2.2.1 hp_33 kp_34 (by decide) (by decide) hJ_115
        have hG_140 := arP.frame hMr_135 go_.2.2.2.1 hp_48 kp_49 (by decide) (by decide) hJ_130
        obtain ⟨Q_141, n_142, k_143, hQ_144, hU_145, h0_146, h4_147, b0_148, b4_149, hP_150⟩ := hx_136
        have g := G3.add g ma_11 ka_11 (by decide) h0_146
        have g := G3.add g ma_11 ka_11 (by decide) h4_147
        have hQ_151 := QR.oth hU_145 hQ_116 (apQ.sym hap_102).2.1 (apQ.sym hap_102).2.2
        have g := G3.add g hr_31 kr_32 (by decide) (((hU_145 r1_12 hr_31).1 kr_32 (fun z => (apQ.sym hap_102).1 z.symm) 0).trans ho_133)
        have g := G3.add g hr_31 kr_32 (by decide) (((hU_145 r1_12 hr_31).1 kr_32 (fun z => (apQ.sym hap_102).1 z.symm) 4).trans ho_134)
        have hP_154 : RP L kd fr_135 a0_ := ⟨r1_12, _, _, _, _, _, _, _, _, _, _, _, _, _, (fx_at g (i := 8) rfl).2.2.2, (fx_at g (i := 9) rfl).2.2.2, ⟨⟨hr_31, kr_32⟩, ⟨hp_33, kp_34⟩, ⟨hm_35, km_36⟩, (fx_at g (i := 7) rfl).2.2.2, (fx_at g (i := 6) rfl).2.2.2, (fx_at g (i := 1) rfl).2.2.2, (fx_at g (i := 0) rfl).2.2.2, b0_41, b4_42, hG_139, hQ_151, hw_117⟩, ⟨⟨ma_11, ka_11⟩, ⟨hp_48, kp_49⟩, ⟨hm_50, km_51⟩, (fx_at g (i := 5) rfl).2.2.2, (fx_at g (i := 4) rfl).2.2.2, (fx_at g (i := 3) rfl).2.2.2, (fx_at g (i := 2) rfl).2.2.2, b0_148, b4_149, hG_140, hQ_144, hP_150⟩, hap_102⟩
        refine lv_istore (lv' := [(4, .int r_135), (3, .int v12_3), (0, .ref a0_), (1, .int x1_), (2, .int x2_)]) hx hb dX10_tryAll_38 hl (by decide) rfl (fun ls hl => ?_)
        refine lv_iconst (v := 0) hx hb dX10_tryAll_40 (by decide) ?_
        refine lv_istore (lv' := [(5, .int 0), (4, .int r_135), (3, .int v12_3), (0, .ref a0_), (1, .int x1_), (2, .int x2_)]) hx hb dX10_tryAll_41 hl (by decide) rfl (fun ls hl => ?_)
        have loop_155 : ∀ (n : Nat) (v43_5 : Int32) (v43_4 : Int32) (w43_10_2_a0_ : Nat) (w43_10_3_a0_ : Nat), bd 0 1000000 v43_5 → bd 0 1 v43_4 → w43_10_2_a0_ ∈ L → kd w43_10_2_a0_ = 3 → w43_10_3_a0_ ∈ L → kd w43_10_3_a0_ = 3 → (1000000 - v43_5.toInt < (n : Int)) → ∀ (f : Nat → va_E) (H : Heap) (locs : List Loc) (ls : Array Slot), G3 (dC, dI) L kd tys s f0 [(1, 0), (1, 1), (1, 2), (1, 3), (1, 4), (1, 5), (1, 6), (1, 8), (1, 11), (1, 12), (1, 13), (1, 14), (1, 15), (1, 16), (1, 17), (3, 0), (3, 4), (4, 0), (4, 1), (4, 2), (4, 3), (4, 4), (4, 5), (4, 6), (4, 14), (4, 15), (4, 16), (10, 2), (10, 3), (10, 4), (10, 5), (10, 6), (10, 7), (10, 8)] [100, 101, 102, 103, 116, 117, 122, 123, 125, 126, 127, 130, 131, 146] f H locs [(3, 3, a_11, .ref p2_15), (3, 2, a_11, .ref m2_17), (3, 3, r1_12, .ref p1_14), (3, 2, r1_12, .ref m1_16), (10, 2, a0_, .ref w43_10_2_a0_), (10, 3, a0_, .ref w43_10_3_a0_), (10, 0, a0_, .ref q0_)] → cOK f q0_ → RP L kd f a0_ → lv_has ls 7 [(5, .int v43_5), (4, .int v43_4), (3, .int v12_3), (0, .ref a0_), (1, .int x1_), (2, .int x2_)] → W p l e ({ frames := 6, cells := 0, slots := 0, locals := 155 } : Room) s m [.ref a0_, .int x1_, .int x2_].toArray below meth c H locs 0 0 Q (F0 m 43 ls []) := by
          intro n43
          induction n43 with
          | zero =>
            intro v43_5 v43_4 w43_10_2_a0_ w43_10_3_a0_ bv43_5 bv43_4 mw43_10_2_a0_ kw43_10_2_a0_ mw43_10_3_a0_ kw43_10_3_a0_ hm43 f H locs ls g hG43_c_q0_ hG43_P_a0_ hl
            exact absurd hm43 (by have h9_v43_5 := bv43_5; unfold bd at h9_v43_5; have h9_v43_4 := bv43_4; unfold bd at h9_v43_4; omega)
          | succ n43 ih43 =>
            intro v43_5 v43_4 w43_10_2_a0_ w43_10_3_a0_ bv43_5 bv43_4 mw43_10_2_a0_ kw43_10_2_a0_ mw43_10_3_a0_ kw43_10_3_a0_ hm43 f H locs ls g hG43_c_q0_ hG43_P_a0_ hl
            refine lv_iload hx hb dX10_tryAll_43 (lv_at hl 0 rfl) ?_
            refine lv_ldc (v := 1000000) hx hb hown (hts _ (List.mem_cons_of_mem _ t_1730)) dX10_tryAll_45 ?_
            have kb_1000000 : bd 1000000 1000000 (1000000 : Int32) := ⟨by decide, by decide⟩
            refine lv_icmp_ge (tgt := 165) hx hb dX10_tryAll_47 (by decide) (fun c_156 => ?_) (fun c_156 => ?_)
            · have fc_156 := le_f c_156
              have b_157 : bd 1000000 1000000 v43_5 := leR fc_156 kb_1000000 bv43_5 (by decide)
              have kb_1 : bd 1 1 (1 : Int32) := ⟨by decide, by decide⟩
              obtain ⟨y_158, ey_158⟩ : ∃ z : Int32, z = v12_3 + 1 := ⟨_, rfl⟩
              refine lv_iinc (v := y_158) (lv' := [(3, .int y_158), (5, .int v43_5), (4, .int v43_4), (0, .ref a0_), (1, .int x1_), (2, .int x2_)]) hx hb dX10_tryAll_165 hl (k := 2) rfl (by rw [ey_158]; rfl) (by decide) rfl (fun ls hl => ?_)
              have ty_158 := add_bd ey_158 b_9 kb_1 (by decide)
              have b_159 : bd 2 11 y_158 := add_rg ty_158 b_9 kb_1 (by decide)
              refine lv_goto (tgt := 12) hx hb dX10_tryAll_168 (by decide) ?_
              have hl9 := lv_sub hl [0, 3, 4, 5] (by rfl : lv_pick [(3, .int y_158), (5, .int v43_5), (4, .int v43_4), (0, .ref a0_), (1, .int x1_), (2, .int x2_)] [0, 3, 4, 5] = [(3, .int y_158), (0, .ref a0_), (1, .int x1_), (2, .int x2_)])
              have g9 := g.sub (fx' := [(10, 0, a0_, .ref q0_)]) [6] rfl
              exact ih12  y_158 (bd_sub b_159 (by decide)) (by have h9_0 := b_159; unfold bd at h9_0; have h9_1 := bv12_3; unfold bd at h9_1; have h9_2 := kb_0; unfold bd at h9_2; have h9_3 := kb_1; unfold bd at h9_3; have h9_4 := kb_1000000; unfold bd at h9_4; omega) _ _ _ _ g9 hG43_P_a0_ hG43_c_q0_ hl9
            · have fc_156 := nle_f c_156
              have b_160 : bd 0 999999 v43_5 := ltL fc_156 bv43_5 kb_1000000 (by decide)
              refine lv_iload hx hb dX10_tryAll_50 (lv_at hl 1 rfl) ?_
              refine lv_if_eq (tgt := 165) hx hb dX10_tryAll_52 (by decide) (fun c_161 => ?_) (fun c_161 => ?_)
              · have fc_161 := eq_f c_161
                have b_162 : bd 0 0 v43_4 := eqX fc_161 bv43_4 kb_0 (by decide)
                have kb_1 : bd 1 1 (1 : Int32) := ⟨by decide, by decide⟩
                obtain ⟨y_163, ey_163⟩ : ∃ z : Int32, z = v12_3 + 1 := ⟨_, rfl⟩
                refine lv_iinc (v := y_163) (lv' := [(3, .int y_163), (5, .int v43_5), (4, .int v43_4), (0, .ref a0_), (1, .int x1_), (2, .int x2_)]) hx hb dX10_tryAll_165 hl (k := 2) rfl (by rw [ey_163]; rfl) (by decide) rfl (fun ls hl => ?_)
                have ty_163 := add_bd ey_163 b_9 kb_1 (by decide)
                have b_164 : bd 2 11 y_163 := add_rg ty_163 b_9 kb_1 (by decide)
                refine lv_goto (tgt := 12) hx hb dX10_tryAll_168 (by decide) ?_
                have hl9 := lv_sub hl [0, 3, 4, 5] (by rfl : lv_pick [(3, .int y_163), (5, .int v43_5), (4, .int v43_4), (0, .ref a0_), (1, .int x1_), (2, .int x2_)] [0, 3, 4, 5] = [(3, .int y_163), (0, .ref a0_), (1, .int x1_), (2, .int x2_)])
                have g9 := g.sub (fx' := [(10, 0, a0_, .ref q0_)]) [6] rfl
                exact ih12  y_163 (bd_sub b_164 (by decide)) (by have h9_0 := b_164; unfold bd at h9_0; have h9_1 := bv12_3; unfold bd at h9_1; have h9_2 := kb_0; unfold bd at h9_2; have h9_3 := kb_1; unfold bd at h9_3; have h9_4 := kb_1000000; unfold bd at h9_4; omega) _ _ _ _ g9 hG43_P_a0_ hG43_c_q0_ hl9
              · have fc_161 := neq_f c_161
                have b_165 : bd 1 1 v43_4 := neX fc_161 bv43_4 kb_0 (by decide)
                refine lv_aload_n hx hb dX10_tryAll_55 rfl (lv_at hl 3 rfl) ?_
                refine g_geti (C := RX10) (T := TX10) (N := 10) hx hb hts (mc_ inX10) hown hK g ma0_ ka0_ (by decide) rfl 6 (by decide) rfl (hts _ (List.mem_cons_of_mem _ t_920)) (fun _ h9 => h9) rfl dX10_tryAll_56 (fun x_166 bx_166 g => ?_)
                refine lv_sipush (v := 600) hx hb dX10_tryAll_59 (by decide) ?_
                have kb_600 : bd 600 600 (600 : Int32) := ⟨by decide, by decide⟩
                refine lv_icmp_ge (tgt := 165) hx hb dX10_tryAll_62 (by decide) (fun c_167 => ?_) (fun c_167 => ?_)
                · have fc_167 := le_f c_167
                  have b_168 : bd 600 2147483647 x_166 := leR fc_167 kb_600 (bdT x_166) (by decide)
                  have kb_1 : bd 1 1 (1 : Int32) := ⟨by decide, by decide⟩
                  obtain ⟨y_169, ey_169⟩ : ∃ z : Int32, z = v12_3 + 1 := ⟨_, rfl⟩
                  refine lv_iinc (v := y_169) (lv' := [(3, .int y_169), (5, .int v43_5), (4, .int v43_4), (0, .ref a0_), (1, .int x1_), (2, .int x2_)]) hx hb dX10_tryAll_165 hl (k := 2) rfl (by rw [ey_169]; rfl) (by decide) rfl (fun ls hl => ?_)
                  have ty_169 := add_bd ey_169 b_9 kb_1 (by decide)
                  have b_170 : bd 2 11 y_169 := add_rg ty_169 b_9 kb_1 (by decide)
                  refine lv_goto (tgt := 12) hx hb dX10_tryAll_168 (by decide) ?_
                  have hl9 := lv_sub hl [0, 3, 4, 5] (by rfl : lv_pick [(3, .int y_169), (5, .int v43_5), (4, .int v43_4), (0, .ref a0_), (1, .int x1_), (2, .int x2_)] [0, 3, 4, 5] = [(3, .int y_169), (0, .ref a0_), (1, .int x1_), (2, .int x2_)])
                  have g9 := g.sub (fx' := [(10, 0, a0_, .ref q0_)]) [7] rfl
                  exact ih12  y_169 (bd_sub b_170 (by decide)) (by have h9_0 := b_168; unfold bd at h9_0; have h9_1 := b_170; unfold bd at h9_1; have h9_2 := bv12_3; unfold bd at h9_2; have h9_3 := kb_0; unfold bd at h9_3; have h9_4 := kb_1; unfold bd at h9_4; have h9_5 := kb_1000000; unfold bd at h9_5; have h9_6 := kb_600; unfold bd at h9_6; omega) _ _ _ _ g9 hG43_P_a0_ hG43_c_q0_ hl9
                · have fc_167 := nle_f c_167
                  have b_171 : bd (-2147483648) 599 x_166 := ltL fc_167 (bdT x_166) kb_600 (by decide)
                  refine lv_aload_n hx hb dX10_tryAll_65 rfl (lv_at hl 3 rfl) ?_
                  refine lv_aload_n hx hb dX10_tryAll_66 rfl (lv_at hl 3 rfl) ?_
                  refine g_getk (C := RX10) (T := TX10) (N := 10) hx hb hts (mc_ inX10) hown hK g rfl 3 (by decide) rfl (hts _ (List.mem_cons_of_mem _ t_916)) (fun _ h9 => h9) 6 rfl dX10_tryAll_67 ?_
                  refine lv_aload_n hx hb dX10_tryAll_70 rfl (lv_at hl 3 rfl) ?_
                  refine g_getr (K := 4) (C := RX10) (T := TX10) (N := 10) hx hb hts (mc_ inX10) hown hK g ma0_ ka0_ (by decide) rfl 5 (by decide) rfl (hts _ (List.mem_cons_of_mem _ t_919)) (fun _ h9 => h9) rfl dX10_tryAll_71 (fun a_172 ma_172 ka_172 g => ?_)
                  have go_ := g
                  refine g_callv (va_runV (As := [.ref w43_10_3_a0_, .ref a_172]) (rest := []) ⟨hx, hb, hml, hown, hts⟩ (r_X10_runThrough l dC dI L kd tys f H.size g.2.2.2.1 a0_ ma0_ ka0_ w43_10_3_a0_ mw43_10_3_a0_ kw43_10_3_a0_ a_172 ma_172 ka_172 q0_ mq0_ kq0_ hG43_c_q0_ (g.fcts [8] rfl)) (cwV 2 hts (gV_ t_1526 t_1528 t_54 t_194 t_1529) rfl rfl rfl (by decide +kernel) ⟨(Nat.le_of_ble_eq_true rfl), (Nat.le_of_ble_eq_true rfl)⟩) (pre3V g hK ma0_ ka0_ (by decide) (q := (RX10, TX10, 10)) rfl) rfl rfl hl.1 rfl (lv_room (Nat.le_of_ble_eq_true rfl)) dX10_tryAll_74 ⟨(Nat.le_of_ble_eq_true rfl), (Nat.le_of_ble_eq_true rfl)⟩) g hK (by decide) (by decide) (fx' := [(10, 5, a0_, .ref a_172), (10, 6, a0_, .int x_166), (3, 3, a_11, .ref p2_15), (3, 2, a_11, .ref m2_17), (3, 3, r1_12, .ref p1_14), (3, 2, r1_12, .ref m1_16), (10, 2, a0_, .ref w43_10_2_a0_), (10, 3, a0_, .ref w43_10_3_a0_), (10, 0, a0_, .ref q0_)]) rfl (fun fr_173 H locs hp hMr_173 g => ?_)
                  obtain ⟨x_174, h_175, x_176, h_177, x_178, h_179, x_180, h_181, x_182, h_183, x_184, h_185, hF_186⟩ := hp
                  have hG_187 := cOK.frame hMr_173 go_.2.2.2.1 mq0_ kq0_ (by decide) (by decide) hG43_c_q0_
                  have hG_188 := RP.frame hMr_173 go_.2.2.2.1 ma0_ ka0_ (by decide) (by decide) hG43_P_a0_
                  have g := g.more hF_186
                  refine lv_aload_n hx hb dX10_tryAll_77 rfl (lv_at hl 3 rfl) ?_
                  refine g_getk (C := RX10) (T := TX10) (N := 10) hx hb hts (mc_ inX10) hown hK g rfl 5 (by decide) rfl (hts _ (List.mem_cons_of_mem _ t_919)) (fun _ h9 => h9) 6 rfl dX10_tryAll_78 ?_
                  refine g_getk (C := RX4) (T := TX4) (N := 17) hx hb hts (mc_ inX4) hown hK g rfl 14 (by decide) rfl (hts _ (List.mem_cons_of_mem _ t_874)) (fun _ h9 => h9) 0 rfl dX10_tryAll_81 ?_
                  refine lv_istore (lv' := [(6, .int x_174), (5, .int v43_5), (4, .int v43_4), (3, .int v12_3), (0, .ref a0_), (1, .int x1_), (2, .int x2_)]) hx hb dX10_tryAll_84 hl (by decide) rfl (fun ls hl => ?_)
                  refine lv_aload_n hx hb dX10_tryAll_86 rfl (lv_at hl 4 rfl) ?_
                  refine g_getk (C := RX10) (T := TX10) (N := 10) hx hb hts (mc_ inX10) hown hK g rfl 5 (by decide) rfl (hts _ (List.mem_cons_of_mem _ t_919)) (fun _ h9 => h9) 6 rfl dX10_tryAll_87 ?_
                  refine g_getk (C := RX4) (T := TX4) (N := 17) hx hb hts (mc_ inX4) hown hK g rfl 0 (by decide) rfl (hts _ (List.mem_cons_of_mem _ t_837)) (fun _ h9 => h9) 5 rfl dX10_tryAll_90 ?_
                  refine lv_iconst (v := (-1)) hx hb dX10_tryAll_93 (by decide) ?_
                  have kb_m1 : bd (-1) (-1) ((-1) : Int32) := ⟨by decide, by decide⟩
                  refine lv_icmp_ne (tgt := 105) hx hb dX10_tryAll_94 (by decide) (fun c_189 => ?_) (fun c_189 => ?_)
                  · have fc_189 := neq_f c_189
                    have b_190 : bd 0 8 x_184 := neX fc_189 h_185 kb_m1 (by decide)
                    refine lv_aload_n hx hb dX10_tryAll_105 rfl (lv_at hl 4 rfl) ?_
                    have go_ := g
                    refine g_callv (va_runV (As := []) (rest := []) ⟨hx, hb, hml, hown, hts⟩ (r_X10_countSpare l dC dI L kd tys fr_173 H.size g.2.2.2.1 a0_ ma0_ ka0_) (cwV 0 hts (gV_ t_1699 t_1701 t_83 t_194 t_1702) rfl rfl rfl (by decide +kernel) ⟨(Nat.le_of_ble_eq_true rfl), (Nat.le_of_ble_eq_true rfl)⟩) (pre3V g hK ma0_ ka0_ (by decide) (q := (RX10, TX10, 10)) rfl) rfl rfl hl.1 rfl (lv_room (Nat.le_of_ble_eq_true rfl)) dX10_tryAll_106 ⟨(Nat.le_of_ble_eq_true rfl), (Nat.le_of_ble_eq_true rfl)⟩) g hK (by decide) (by decide) (fx' := [(4, 14, a_172, .int x_174), (4, 4, a_172, .int x_176), (4, 3, a_172, .int x_178), (4, 2, a_172, .int x_180), (4, 1, a_172, .int x_182), (4, 0, a_172, .int x_184), (10, 5, a0_, .ref a_172), (3, 3, a_11, .ref p2_15), (3, 2, a_11, .ref m2_17), (3, 3, r1_12, .ref p1_14), (3, 2, r1_12, .ref m1_16), (10, 2, a0_, .ref w43_10_2_a0_), (10, 3, a0_, .ref w43_10_3_a0_), (10, 0, a0_, .ref q0_)]) rfl (fun fr_191 H locs hp hMr_191 g => ?_)
                    have hG_192 := cOK.frame hMr_191 go_.2.2.2.1 mq0_ kq0_ (by decide) (by decide) hG_187
                    have hG_193 := RP.frame hMr_191 go_.2.2.2.1 ma0_ ka0_ (by decide) (by decide) hG_188
                    refine lv_aload_n hx hb dX10_tryAll_109 rfl (lv_at hl 4 rfl) ?_
                    have go_ := g
                    refine g_callv (va_runV (As := []) (rest := []) ⟨hx, hb, hml, hown, hts⟩ (r_X10_tellOfSpare l dC dI L kd tys fr_191 H.size g.2.2.2.1 a0_ ma0_ ka0_ hG_193) (cwV 0 hts (gV_ t_1703 t_1705 t_84 t_194 t_1706) rfl rfl rfl (by decide +kernel) ⟨(Nat.le_of_ble_eq_true rfl), (Nat.le_of_ble_eq_true rfl)⟩) (pre3V g hK ma0_ ka0_ (by decide) (q := (RX10, TX10, 10)) rfl) rfl rfl hl.1 rfl (lv_room (Nat.le_of_ble_eq_true rfl)) dX10_tryAll_110 ⟨(Nat.le_of_ble_eq_true rfl), (Nat.le_of_ble_eq_true rfl)⟩) g hK (by decide) (by decide) (fx' := [(4, 14, a_172, .int x_174), (4, 4, a_172, .int x_176), (4, 3, a_172, .int x_178), (4, 2, a_172, .int x_180), (4, 1, a_172, .int x_182), (4, 0, a_172, .int x_184), (3, 3, a_11, .ref p2_15), (3, 2, a_11, .ref m2_17), (3, 3, r1_12, .ref p1_14), (3, 2, r1_12, .ref m1_16), (10, 0, a0_, .ref q0_)]) rfl (fun fr_194 H locs hp hMr_194 g => ?_)
                    obtain ⟨hG_195, hF_196⟩ := hp
                    have hG_197 := cOK.frame hMr_194 go_.2.2.2.1 mq0_ kq0_ (by decide) (by decide) hG_192
                    have g := g.more hF_196
                    refine lv_aload_n hx hb dX10_tryAll_113 rfl (lv_at hl 4 rfl) ?_
                    refine g_getr (K := 4) (C := RX10) (T := TX10) (N := 10) hx hb hts (mc_ inX10) hown hK g ma0_ ka0_ (by decide) rfl 4 (by decide) rfl (hts _ (List.mem_cons_of_mem _ t_917)) (fun _ h9 => h9) rfl dX10_tryAll_114 (fun a_198 ma_198 ka_198 g => ?_)
                    refine g_geti (C := RX4) (T := TX4) (N := 17) hx hb hts (mc_ inX4) hown hK g ma_198 ka_198 (by decide) rfl 0 (by decide) rfl (hts _ (List.mem_cons_of_mem _ t_837)) (fun _ h9 => h9) rfl dX10_tryAll_117 (fun x_199 bx_199 g => ?_)
                    refine lv_if_le (tgt := 131) hx hb dX10_tryAll_120 (by decide) (fun c_200 => ?_) (fun c_200 => ?_)
                    · have fc_200 := le_f c_200
                      have b_201 : bd (-2147483648) 0 x_199 := leL fc_200 (bdT x_199) kb_0 (by decide)
                      refine lv_aload_n hx hb dX10_tryAll_131 rfl (lv_at hl 4 rfl) ?_
                      refine g_getr (K := 3) (C := RX10) (T := TX10) (N := 10) hx hb hts (mc_ inX10) hown hK g ma0_ ka0_ (by decide) rfl 3 (by decide) rfl (hts _ (List.mem_cons_of_mem _ t_916)) (fun _ h9 => h9) rfl dX10_tryAll_132 (fun a_202 ma_202 ka_202 g => ?_)
                      refine lv_aload_n hx hb dX10_tryAll_135 rfl (lv_at hl 4 rfl) ?_
                      refine g_getr (K := 3) (C := RX10) (T := TX10) (N := 10) hx hb hts (mc_ inX10) hown hK g ma0_ ka0_ (by decide) rfl 2 (by decide) rfl (hts _ (List.mem_cons_of_mem _ t_914)) (fun _ h9 => h9) rfl dX10_tryAll_136 (fun a_203 ma_203 ka_203 g => ?_)
                      obtain ⟨r1_204, r2_205, p1_206, p2_207, m1_208, m2_209, A1_210, A2_211, Q1_212, Q2_213, n1_214, n2_215, k1_216, k2_217, e2_218, e3_219, pk1_220, pk2_221, hap_222⟩ := hG_195
                      obtain ⟨⟨hr_223, kr_224⟩, ⟨hp_225, kp_226⟩, ⟨hm_227, km_228⟩, f2_229, f3_230, f0_231, f4_232, b0_233, b4_234, hJ_235, hQ_236, hw_237⟩ := pk1_220
                      obtain rfl : a_203 = r1_204 := by have h9 := (fx_at g (i := 0) rfl).2.2.2.symm.trans e2_218; cases h9; rfl
                      have g := G3.add g ma_203 ka_203 (by decide) f2_229
                      have g := G3.add g ma_203 ka_203 (by decide) f3_230
                      have g := G3.add g ma_203 ka_203 (by decide) f0_231
                      have g := G3.add g ma_203 ka_203 (by decide) f4_232
                      obtain ⟨⟨hr_238, kr_239⟩, ⟨hp_240, kp_241⟩, ⟨hm_242, km_243⟩, f2_244, f3_245, f0_246, f4_247, b0_248, b4_249, hJ_250, hQ_251, hw_252⟩ := pk2_221
                      obtain rfl : a_202 = r2_205 := by have h9 := (fx_at g (i := 5) rfl).2.2.2.symm.trans e3_219; cases h9; rfl
                      have g := G3.add g ma_202 ka_202 (by decide) f2_244
                      have g := G3.add g ma_202 ka_202 (by decide) f3_245
                      have g := G3.add g ma_202 ka_202 (by decide) f0_246
                      have g := G3.add g ma_202 ka_202 (by decide) f4_247
                      have ho_253 := (fx_at g (i := 5) rfl).2.2.2
                      have ho_254 := (fx_at g (i := 4) rfl).2.2.2
                      have go_ := g
                      refine g_callv (va_runV (As := [.ref a_203]) (rest := []) ⟨hx, hb, hml, hown, hts⟩ (r_X3_copyFromQ l dC dI L kd tys fr_194 H.size g.2.2.2.1 a_202 ma_202 ka_202 p2_207 hp_240 kp_241 m2_209 hm_242 km_243 A2_211 Q2_213 n2_215 b0_248 k2_217 b4_249 hJ_250 hQ_251 a_203 ma_203 ka_203 p1_206 hp_225 kp_226 m1_208 hm_227 km_228 A1_210 Q1_212 n1_214 b0_233 k1_216 b4_234 hJ_235 hQ_236 hw_237 (apQ.sym hap_222) (g.fcts [1, 0, 3, 2, 5, 4, 7, 6] rfl)) (cwV 1 hts (gV_ t_1731 t_1732 t_1733 t_196 t_1734) rfl rfl rfl (by decide +kernel) ⟨(Nat.le_of_ble_eq_true rfl), (Nat.le_of_ble_eq_true rfl)⟩) (pre3V g hK ma_202 ka_202 (by decide) (q := (RX3, TX3, 6)) rfl) rfl rfl hl.1 rfl (lv_room (Nat.le_of_ble_eq_true rfl)) dX10_tryAll_139 ⟨(Nat.le_of_ble_eq_true rfl), (Nat.le_of_ble_eq_true rfl)⟩) g hK (by decide) (by decide) (fx' := [(3, 3, a_202, .ref p2_207), (3, 2, a_202, .ref m2_209), (3, 3, a_203, .ref p1_206), (3, 2, a_203, .ref m1_208), (10, 2, a0_, .ref a_203), (10, 3, a0_, .ref a_202), (4, 0, a_198, .int x_199), (10, 4, a0_, .ref a_198), (10, 8, a0_, .int 1), (4, 14, a_172, .int x_174), (4, 4, a_172, .int x_176), (4, 3, a_172, .int x_178), (4, 2, a_172, .int x_180), (4, 1, a_172, .int x_182), (4, 0, a_172, .int x_184), (3, 3, a_11, .ref p2_15), (3, 2, a_11, .ref m2_17), (3, 3, r1_12, .ref p1_14), (3, 2, r1_12, .ref m1_16), (10, 0, a0_, .ref q0_)]) rfl (fun fr_255 H locs hp hMr_255 g => ?_)
                      obtain ⟨hx_256, -⟩ := hp
                      have hG_257 := cOK.frame hMr_255 go_.2.2.2.1 mq0_ kq0_ (by decide) (by decide) hG_197
                      have hG_258 := arP.frame hMr_255 go_.2.2.2.1 hp_225 kp_226 (by decide) (by decide) hJ_235
                      have hG_259 := arP.frame hMr_255 go_.2.2.2.1 hp_240 kp_241 (by decide) (by decide) hJ_250
                      obtain ⟨Q_260, n_261, k_262, hQ_263, hU_264, h0_265, h4_266, b0_267, b4_268, hP_269⟩ := hx_256
                      have g := G3.add g ma_202 ka_202 (by decide) h0_265
                      have g := G3.add g ma_202 ka_202 (by decide) h4_266
                      have hQ_270 := QR.oth hU_264 hQ_236 (apQ.sym hap_222).2.1 (apQ.sym hap_222).2.2
                      have g := G3.add g ma_203 ka_203 (by decide) (((hU_264 a_203 ma_203).1 ka_203 (fun z => (apQ.sym hap_222).1 z.symm) 0).trans ho_253)
                      have g := G3.add g ma_203 ka_203 (by decide) (((hU_264 a_203 ma_203).1 ka_203 (fun z => (apQ.sym hap_222).1 z.symm) 4).trans ho_254)
                      have hP_273 : RP L kd fr_255 a0_ := ⟨a_203, _, _, _, _, _, _, _, _, _, _, _, _, _, (fx_at g (i := 8) rfl).2.2.2, (fx_at g (i := 9) rfl).2.2.2, ⟨⟨ma_203, ka_203⟩, ⟨hp_225, kp_226⟩, ⟨hm_227, km_228⟩, (fx_at g (i := 7) rfl).2.2.2, (fx_at g (i := 6) rfl).2.2.2, (fx_at g (i := 1) rfl).2.2.2, (fx_at g (i := 0) rfl).2.2.2, b0_233, b4_234, hG_258, hQ_270, hw_237⟩, ⟨⟨ma_202, ka_202⟩, ⟨hp_240, kp_241⟩, ⟨hm_242, km_243⟩, (fx_at g (i := 5) rfl).2.2.2, (fx_at g (i := 4) rfl).2.2.2, (fx_at g (i := 3) rfl).2.2.2, (fx_at g (i := 2) rfl).2.2.2, b0_267, b4_268, hG_259, hQ_263, hP_269.1⟩, hap_222⟩
                      refine lv_aload_n hx hb dX10_tryAll_142 rfl (lv_at hl 4 rfl) ?_
                      refine g_getk (C := RX10) (T := TX10) (N := 10) hx hb hts (mc_ inX10) hown hK g rfl 3 (by decide) rfl (hts _ (List.mem_cons_of_mem _ t_916)) (fun _ h9 => h9) 9 rfl dX10_tryAll_143 ?_
                      refine lv_aload_n hx hb dX10_tryAll_146 rfl (lv_at hl 4 rfl) ?_
                      refine g_getk (C := RX10) (T := TX10) (N := 10) hx hb hts (mc_ inX10) hown hK g rfl 0 (by decide) rfl (hts _ (List.mem_cons_of_mem _ t_912)) (fun _ h9 => h9) 23 rfl dX10_tryAll_147 ?_
                      refine lv_iload_n hx hb dX10_tryAll_150 rfl (lv_at hl 5 rfl) ?_
                      refine lv_iload hx hb dX10_tryAll_151 (lv_at hl 0 rfl) ?_
                      refine lv_iload_n hx hb dX10_tryAll_153 rfl (lv_at hl 3 rfl) ?_
                      obtain ⟨r1_274, r2_275, p1_276, p2_277, m1_278, m2_279, A1_280, A2_281, Q1_282, Q2_283, n1_284, n2_285, k1_286, k2_287, e2_288, e3_289, pk1_290, pk2_291, hap_292⟩ := hP_273
                      obtain ⟨⟨hr_293, kr_294⟩, ⟨hp_295, kp_296⟩, ⟨hm_297, km_298⟩, f2_299, f3_300, f0_301, f4_302, b0_303, b4_304, hJ_305, hQ_306, hw_307⟩ := pk1_290
                      obtain rfl : a_203 = r1_274 := by have h9 := (fx_at g (i := 8) rfl).2.2.2.symm.trans e2_288; cases h9; rfl
                      obtain rfl : m1_208 = m1_278 := by have h9 := (fx_at g (i := 7) rfl).2.2.2.symm.trans f2_299; cases h9; rfl
                      obtain rfl : p1_206 = p1_276 := by have h9 := (fx_at g (i := 6) rfl).2.2.2.symm.trans f3_300; cases h9; rfl
                      obtain rfl : n1_214 = n1_284 := by have h9 := (fx_at g (i := 1) rfl).2.2.2.symm.trans f0_301; cases h9; rfl
                      obtain rfl : k1_216 = k1_286 := by have h9 := (fx_at g (i := 0) rfl).2.2.2.symm.trans f4_302; cases h9; rfl
                      obtain ⟨⟨hr_308, kr_309⟩, ⟨hp_310, kp_311⟩, ⟨hm_312, km_313⟩, f2_314, f3_315, f0_316, f4_317, b0_318, b4_319, hJ_320, hQ_321, hw_322⟩ := pk2_291
                      obtain rfl : a_202 = r2_275 := by have h9 := (fx_at g (i := 9) rfl).2.2.2.symm.trans e3_289; cases h9; rfl
                      obtain rfl : m2_209 = m2_279 := by have h9 := (fx_at g (i := 5) rfl).2.2.2.symm.trans f2_314; cases h9; rfl
                      obtain rfl : p2_207 = p2_277 := by have h9 := (fx_at g (i := 4) rfl).2.2.2.symm.trans f3_315; cases h9; rfl
                      obtain rfl : n_261 = n2_285 := by have h9 := (fx_at g (i := 3) rfl).2.2.2.symm.trans f0_316; cases h9; rfl
                      obtain rfl : k_262 = k2_287 := by have h9 := (fx_at g (i := 2) rfl).2.2.2.symm.trans f4_317; cases h9; rfl
                      have ho_323 := (fx_at g (i := 1) rfl).2.2.2
                      have ho_324 := (fx_at g (i := 0) rfl).2.2.2
                      have go_ := g
                      refine g_calli (va_runV (As := [.ref q0_, .int x1_, .int x_174, .int v12_3]) (rest := []) ⟨hx, hb, hml, hown, hts⟩ (r_X3_goOnBehindQ l dC dI L kd tys fr_255 H.size g.2.2.2.1 a_202 ma_202 ka_202 p2_207 hp_240 kp_241 m2_209 hm_242 km_243 A2_281 Q2_283 n_261 b0_267 k_262 b4_268 hJ_320 hQ_321 hw_322 q0_ mq0_ kq0_ x1_ bx1_ x_174 v12_3 (bd_sub b_9 (by decide)) (g.fcts [3, 2, 5, 4] rfl)) (cwV 4 hts (gV_ t_1736 t_1737 t_1738 t_196 t_1739) rfl rfl rfl (by decide +kernel) ⟨(Nat.le_of_ble_eq_true rfl), (Nat.le_of_ble_eq_true rfl)⟩) (pre3V g hK ma_202 ka_202 (by decide) (q := (RX3, TX3, 6)) rfl) rfl rfl hl.1 rfl (lv_room (Nat.le_of_ble_eq_true rfl)) dX10_tryAll_154 ⟨(Nat.le_of_ble_eq_true rfl), (Nat.le_of_ble_eq_true rfl)⟩) g hK (by decide) (by decide) (fx' := [(3, 3, a_202, .ref p2_207), (3, 2, a_202, .ref m2_209), (3, 3, a_203, .ref p1_206), (3, 2, a_203, .ref m1_208), (10, 2, a0_, .ref a_203), (10, 3, a0_, .ref a_202), (4, 0, a_198, .int x_199), (10, 4, a0_, .ref a_198), (10, 8, a0_, .int 1), (4, 14, a_172, .int x_174), (4, 4, a_172, .int x_176), (4, 3, a_172, .int x_178), (4, 2, a_172, .int x_180), (4, 1, a_172, .int x_182), (4, 0, a_172, .int x_184), (3, 3, a_11, .ref p2_15), (3, 2, a_11, .ref m2_17), (3, 3, r1_12, .ref p1_14), (3, 2, r1_12, .ref m1_16), (10, 0, a0_, .ref q0_)]) rfl (fun r_325 fr_325 H locs hp hMr_325 g => ?_)
                      obtain ⟨hx_326, h_327, -⟩ := hp
                      have hG_328 := cOK.frame hMr_325 go_.2.2.2.1 mq0_ kq0_ (by decide) (by decide) hG_257
                      have hG_329 := arP.frame hMr_325 go_.2.2.2.1 hp_225 kp_226 (by decide) (by decide) hJ_305
                      have hG_330 := arP.frame hMr_325 go_.2.2.2.1 hp_240 kp_241 (by decide) (by decide) hJ_320
                      obtain ⟨Q_331, n_332, k_333, hQ_334, hU_335, h0_336, h4_337, b0_338, b4_339, hP_340⟩ := hx_326
                      have g := G3.add g ma_202 ka_202 (by decide) h0_336
                      have g := G3.add g ma_202 ka_202 (by decide) h4_337
                      have hQ_341 := QR.oth hU_335 hQ_306 (apQ.sym hap_292).2.1 (apQ.sym hap_292).2.2
                      have g := G3.add g ma_203 ka_203 (by decide) (((hU_335 a_203 ma_203).1 ka_203 (fun z => (apQ.sym hap_292).1 z.symm) 0).trans ho_323)
                      have g := G3.add g ma_203 ka_203 (by decide) (((hU_335 a_203 ma_203).1 ka_203 (fun z => (apQ.sym hap_292).1 z.symm) 4).trans ho_324)
                      have hP_344 : RP L kd fr_325 a0_ := ⟨a_203, _, _, _, _, _, _, _, _, _, _, _, _, _, (fx_at g (i := 8) rfl).2.2.2, (fx_at g (i := 9) rfl).2.2.2, ⟨⟨ma_203, ka_203⟩, ⟨hp_225, kp_226⟩, ⟨hm_227, km_228⟩, (fx_at g (i := 7) rfl).2.2.2, (fx_at g (i := 6) rfl).2.2.2, (fx_at g (i := 1) rfl).2.2.2, (fx_at g (i := 0) rfl).2.2.2, b0_233, b4_234, hG_329, hQ_341, hw_307⟩, ⟨⟨ma_202, ka_202⟩, ⟨hp_240, kp_241⟩, ⟨hm_242, km_243⟩, (fx_at g (i := 5) rfl).2.2.2, (fx_at g (i := 4) rfl).2.2.2, (fx_at g (i := 3) rfl).2.2.2, (fx_at g (i := 2) rfl).2.2.2, b0_338, b4_339, hG_330, hQ_334, hP_340⟩, hap_292⟩
                      refine lv_istore (lv' := [(4, .int r_325), (6, .int x_174), (5, .int v43_5), (3, .int v12_3), (0, .ref a0_), (1, .int x1_), (2, .int x2_)]) hx hb dX10_tryAll_157 hl (by decide) rfl (fun ls hl => ?_)
                      have kb_1 : bd 1 1 (1 : Int32) := ⟨by decide, by decide⟩
                      obtain ⟨y_345, ey_345⟩ : ∃ z : Int32, z = v43_5 + 1 := ⟨_, rfl⟩
                      refine lv_iinc (v := y_345) (lv' := [(5, .int y_345), (4, .int r_325), (6, .int x_174), (3, .int v12_3), (0, .ref a0_), (1, .int x1_), (2, .int x2_)]) hx hb dX10_tryAll_159 hl (k := 2) rfl (by rw [ey_345]; rfl) (by decide) rfl (fun ls hl => ?_)
                      have ty_345 := add_bd ey_345 b_160 kb_1 (by decide)
                      have b_346 : bd 1 1000000 y_345 := add_rg ty_345 b_160 kb_1 (by decide)
                      refine lv_goto (tgt := 43) hx hb dX10_tryAll_162 (by decide) ?_
                      have hl9 := lv_sub hl [0, 1, 3, 4, 5, 6] (by rfl : lv_pick [(5, .int y_345), (4, .int r_325), (6, .int x_174), (3, .int v12_3), (0, .ref a0_), (1, .int x1_), (2, .int x2_)] [0, 1, 3, 4, 5, 6] = [(5, .int y_345), (4, .int r_325), (3, .int v12_3), (0, .ref a0_), (1, .int x1_), (2, .int x2_)])
                      have g9 := g.sub (fx' := [(3, 3, a_11, .ref p2_15), (3, 2, a_11, .ref m2_17), (3, 3, r1_12, .ref p1_14), (3, 2, r1_12, .ref m1_16), (10, 2, a0_, .ref a_203), (10, 3, a0_, .ref a_202), (10, 0, a0_, .ref q0_)]) [19, 20, 21, 22, 8, 9, 23] rfl
                      exact ih43  y_345 r_325 a_203 a_202 (bd_sub b_346 (by decide)) h_327 ma_203 ka_203 ma_202 ka_202 (by have h9_0 := b_346; unfold bd at h9_0; have h9_1 := bv43_4; unfold bd at h9_1; have h9_2 := bv43_5; unfold bd at h9_2; have h9_3 := h_327; unfold bd at h9_3; have h9_4 := kb_0; unfold bd at h9_4; have h9_5 := kb_1; unfold bd at h9_5; have h9_6 := kb_1000000; unfold bd at h9_6; have h9_7 := kb_600; unfold bd at h9_7; have h9_8 := kb_m1; unfold bd at h9_8; omega) _ _ _ _ g9 hG_328 hP_344 hl9
                    · have fc_200 := nle_f c_200
                      have b_347 : bd 1 2147483647 x_199 := ltR fc_200 kb_0 (bdT x_199) (by decide)
                      refine lv_aload_n hx hb dX10_tryAll_123 rfl (lv_at hl 4 rfl) ?_
                      refine g_getk (C := RX10) (T := TX10) (N := 10) hx hb hts (mc_ inX10) hown hK g rfl 4 (by decide) rfl (hts _ (List.mem_cons_of_mem _ t_917)) (fun _ h9 => h9) 1 rfl dX10_tryAll_124 ?_
                      refine g_getk (C := RX4) (T := TX4) (N := 17) hx hb hts (mc_ inX4) hown hK g rfl 0 (by decide) rfl (hts _ (List.mem_cons_of_mem _ t_837)) (fun _ h9 => h9) 0 rfl dX10_tryAll_127 ?_
                      subst hQ
                      exact W.iret (v := x_199) hx hb hr (fun t ht hW => ⟨⟨_, _, rfl, ⟨hG_195, (bd_sub b_347 (by decide)), trivial⟩, q3_of g hK ht hW⟩, g.2.2.1.F ht⟩) g.2.2.1.2.2 dX10_tryAll_130
                  · have fc_189 := eq_f c_189
                    have b_348 : bd (-1) (-1) x_184 := eqX fc_189 h_185 kb_m1 (by decide)
                    refine lv_iload hx hb dX10_tryAll_97 (lv_at hl 0 rfl) ?_
                    refine lv_iload_n hx hb dX10_tryAll_99 rfl (lv_at hl 3 rfl) ?_
                    refine lv_iconst (v := 1) hx hb dX10_tryAll_100 (by decide) ?_
                    have kb_1 : bd 1 1 (1 : Int32) := ⟨by decide, by decide⟩
                    refine lv_isub hx hb dX10_tryAll_101 ?_
                    refine lv_topi (fun y_349 ey_349 => ?_)
                    have ty_349 := sub_bd ey_349 b_9 kb_1 (by decide)
                    have b_350 : bd 0 9 y_349 := sub_rg ty_349 b_9 kb_1 (by decide)
                    refine lv_icmp_ne (tgt := 142) hx hb dX10_tryAll_102 (by decide) (fun c_351 => ?_) (fun c_351 => ?_)
                    · have fc_351 := neq_f c_351
                      refine lv_aload_n hx hb dX10_tryAll_142 rfl (lv_at hl 4 rfl) ?_
                      refine g_getk (C := RX10) (T := TX10) (N := 10) hx hb hts (mc_ inX10) hown hK g rfl 3 (by decide) rfl (hts _ (List.mem_cons_of_mem _ t_916)) (fun _ h9 => h9) 13 rfl dX10_tryAll_143 ?_
                      refine lv_aload_n hx hb dX10_tryAll_146 rfl (lv_at hl 4 rfl) ?_
                      refine g_getk (C := RX10) (T := TX10) (N := 10) hx hb hts (mc_ inX10) hown hK g rfl 0 (by decide) rfl (hts _ (List.mem_cons_of_mem _ t_912)) (fun _ h9 => h9) 14 rfl dX10_tryAll_147 ?_
                      refine lv_iload_n hx hb dX10_tryAll_150 rfl (lv_at hl 5 rfl) ?_
                      refine lv_iload hx hb dX10_tryAll_151 (lv_at hl 0 rfl) ?_
                      refine lv_iload_n hx hb dX10_tryAll_153 rfl (lv_at hl 3 rfl) ?_
                      obtain ⟨r1_352, r2_353, p1_354, p2_355, m1_356, m2_357, A1_358, A2_359, Q1_360, Q2_361, n1_362, n2_363, k1_364, k2_365, e2_366, e3_367, pk1_368, pk2_369, hap_370⟩ := hG_188
                      obtain ⟨⟨hr_371, kr_372⟩, ⟨hp_373, kp_374⟩, ⟨hm_375, km_376⟩, f2_377, f3_378, f0_379, f4_380, b0_381, b4_382, hJ_383, hQ_384, hw_385⟩ := pk1_368
                      obtain rfl : w43_10_2_a0_ = r1_352 := by have h9 := (fx_at g (i := 12) rfl).2.2.2.symm.trans e2_366; cases h9; rfl
                      have g := G3.add g mw43_10_2_a0_ kw43_10_2_a0_ (by decide) f2_377
                      have g := G3.add g mw43_10_2_a0_ kw43_10_2_a0_ (by decide) f3_378
                      have g := G3.add g mw43_10_2_a0_ kw43_10_2_a0_ (by decide) f0_379
                      have g := G3.add g mw43_10_2_a0_ kw43_10_2_a0_ (by decide) f4_380
                      obtain ⟨⟨hr_386, kr_387⟩, ⟨hp_388, kp_389⟩, ⟨hm_390, km_391⟩, f2_392, f3_393, f0_394, f4_395, b0_396, b4_397, hJ_398, hQ_399, hw_400⟩ := pk2_369
                      obtain rfl : w43_10_3_a0_ = r2_353 := by have h9 := (fx_at g (i := 17) rfl).2.2.2.symm.trans e3_367; cases h9; rfl
                      have g := G3.add g mw43_10_3_a0_ kw43_10_3_a0_ (by decide) f2_392
                      have g := G3.add g mw43_10_3_a0_ kw43_10_3_a0_ (by decide) f3_393
                      have g := G3.add g mw43_10_3_a0_ kw43_10_3_a0_ (by decide) f0_394
                      have g := G3.add g mw43_10_3_a0_ kw43_10_3_a0_ (by decide) f4_395
                      have ho_401 := (fx_at g (i := 5) rfl).2.2.2
                      have ho_402 := (fx_at g (i := 4) rfl).2.2.2
                      have go_ := g
                      refine g_calli (va_runV (As := [.ref q0_, .int x1_, .int x_174, .int v12_3]) (rest := []) ⟨hx, hb, hml, hown, hts⟩ (r_X3_goOnBehindQ l dC dI L kd tys fr_173 H.size g.2.2.2.1 w43_10_3_a0_ mw43_10_3_a0_ kw43_10_3_a0_ p2_355 hp_388 kp_389 m2_357 hm_390 km_391 A2_359 Q2_361 n2_363 b0_396 k2_365 b4_397 hJ_398 hQ_399 hw_400 q0_ mq0_ kq0_ x1_ bx1_ x_174 v12_3 (bd_sub b_9 (by decide)) (g.fcts [1, 0, 3, 2] rfl)) (cwV 4 hts (gV_ t_1736 t_1737 t_1738 t_196 t_1739) rfl rfl rfl (by decide +kernel) ⟨(Nat.le_of_ble_eq_true rfl), (Nat.le_of_ble_eq_true rfl)⟩) (pre3V g hK mw43_10_3_a0_ kw43_10_3_a0_ (by decide) (q := (RX3, TX3, 6)) rfl) rfl rfl hl.1 rfl (lv_room (Nat.le_of_ble_eq_true rfl)) dX10_tryAll_154 ⟨(Nat.le_of_ble_eq_true rfl), (Nat.le_of_ble_eq_true rfl)⟩) g hK (by decide) (by decide) (fx' := [(3, 3, w43_10_3_a0_, .ref p2_355), (3, 2, w43_10_3_a0_, .ref m2_357), (3, 3, w43_10_2_a0_, .ref p1_354), (3, 2, w43_10_2_a0_, .ref m1_356), (4, 14, a_172, .int x_174), (4, 4, a_172, .int x_176), (4, 3, a_172, .int x_178), (4, 2, a_172, .int x_180), (4, 1, a_172, .int x_182), (4, 0, a_172, .int x_184), (10, 5, a0_, .ref a_172), (10, 6, a0_, .int x_166), (3, 3, a_11, .ref p2_15), (3, 2, a_11, .ref m2_17), (3, 3, r1_12, .ref p1_14), (3, 2, r1_12, .ref m1_16), (10, 2, a0_, .ref w43_10_2_a0_), (10, 3, a0_, .ref w43_10_3_a0_), (10, 0, a0_, .ref q0_)]) rfl (fun r_403 fr_403 H locs hp hMr_403 g => ?_)
                      obtain ⟨hx_404, h_405, -⟩ := hp
                      have hG_406 := cOK.frame hMr_403 go_.2.2.2.1 mq0_ kq0_ (by decide) (by decide) hG_187
                      have hG_407 := arP.frame hMr_403 go_.2.2.2.1 hp_373 kp_374 (by decide) (by decide) hJ_383
                      have hG_408 := arP.frame hMr_403 go_.2.2.2.1 hp_388 kp_389 (by decide) (by decide) hJ_398
                      obtain ⟨Q_409, n_410, k_411, hQ_412, hU_413, h0_414, h4_415, b0_416, b4_417, hP_418⟩ := hx_404
                      have g := G3.add g mw43_10_3_a0_ kw43_10_3_a0_ (by decide) h0_414
                      have g := G3.add g mw43_10_3_a0_ kw43_10_3_a0_ (by decide) h4_415
                      have hQ_419 := QR.oth hU_413 hQ_384 (apQ.sym hap_370).2.1 (apQ.sym hap_370).2.2
                      have g := G3.add g mw43_10_2_a0_ kw43_10_2_a0_ (by decide) (((hU_413 w43_10_2_a0_ mw43_10_2_a0_).1 kw43_10_2_a0_ (fun z => (apQ.sym hap_370).1 z.symm) 0).trans ho_401)
                      have g := G3.add g mw43_10_2_a0_ kw43_10_2_a0_ (by decide) (((hU_413 w43_10_2_a0_ mw43_10_2_a0_).1 kw43_10_2_a0_ (fun z => (apQ.sym hap_370).1 z.symm) 4).trans ho_402)
                      have hP_422 : RP L kd fr_403 a0_ := ⟨w43_10_2_a0_, _, _, _, _, _, _, _, _, _, _, _, _, _, (fx_at g (i := 20) rfl).2.2.2, (fx_at g (i := 21) rfl).2.2.2, ⟨⟨mw43_10_2_a0_, kw43_10_2_a0_⟩, ⟨hp_373, kp_374⟩, ⟨hm_375, km_376⟩, (fx_at g (i := 7) rfl).2.2.2, (fx_at g (i := 6) rfl).2.2.2, (fx_at g (i := 1) rfl).2.2.2, (fx_at g (i := 0) rfl).2.2.2, b0_381, b4_382, hG_407, hQ_419, hw_385⟩, ⟨⟨mw43_10_3_a0_, kw43_10_3_a0_⟩, ⟨hp_388, kp_389⟩, ⟨hm_390, km_391⟩, (fx_at g (i := 5) rfl).2.2.2, (fx_at g (i := 4) rfl).2.2.2, (fx_at g (i := 3) rfl).2.2.2, (fx_at g (i := 2) rfl).2.2.2, b0_416, b4_417, hG_408, hQ_412, hP_418⟩, hap_370⟩
                      refine lv_istore (lv' := [(4, .int r_403), (6, .int x_174), (5, .int v43_5), (3, .int v12_3), (0, .ref a0_), (1, .int x1_), (2, .int x2_)]) hx hb dX10_tryAll_157 hl (by decide) rfl (fun ls hl => ?_)
                      obtain ⟨y_423, ey_423⟩ : ∃ z : Int32, z = v43_5 + 1 := ⟨_, rfl⟩
                      refine lv_iinc (v := y_423) (lv' := [(5, .int y_423), (4, .int r_403), (6, .int x_174), (3, .int v12_3), (0, .ref a0_), (1, .int x1_), (2, .int x2_)]) hx hb dX10_tryAll_159 hl (k := 2) rfl (by rw [ey_423]; rfl) (by decide) rfl (fun ls hl => ?_)
                      have ty_423 := add_bd ey_423 b_160 kb_1 (by decide)
                      have b_424 : bd 1 1000000 y_423 := add_rg ty_423 b_160 kb_1 (by decide)
                      refine lv_goto (tgt := 43) hx hb dX10_tryAll_162 (by decide) ?_
                      have hl9 := lv_sub hl [0, 1, 3, 4, 5, 6] (by rfl : lv_pick [(5, .int y_423), (4, .int r_403), (6, .int x_174), (3, .int v12_3), (0, .ref a0_), (1, .int x1_), (2, .int x2_)] [0, 1, 3, 4, 5, 6] = [(5, .int y_423), (4, .int r_403), (3, .int v12_3), (0, .ref a0_), (1, .int x1_), (2, .int x2_)])
                      have g9 := g.sub (fx' := [(3, 3, a_11, .ref p2_15), (3, 2, a_11, .ref m2_17), (3, 3, r1_12, .ref p1_14), (3, 2, r1_12, .ref m1_16), (10, 2, a0_, .ref w43_10_2_a0_), (10, 3, a0_, .ref w43_10_3_a0_), (10, 0, a0_, .ref q0_)]) [16, 17, 18, 19, 20, 21, 22] rfl
                      exact ih43  y_423 r_403 w43_10_2_a0_ w43_10_3_a0_ (bd_sub b_424 (by decide)) h_405 mw43_10_2_a0_ kw43_10_2_a0_ mw43_10_3_a0_ kw43_10_3_a0_ (by have h9_0 := b_424; unfold bd at h9_0; have h9_1 := bv43_4; unfold bd at h9_1; have h9_2 := bv43_5; unfold bd at h9_2; have h9_3 := h_405; unfold bd at h9_3; have h9_4 := kb_0; unfold bd at h9_4; have h9_5 := kb_1; unfold bd at h9_5; have h9_6 := kb_1000000; unfold bd at h9_6; have h9_7 := kb_600; unfold bd at h9_7; have h9_8 := kb_m1; unfold bd at h9_8; omega) _ _ _ _ g9 hG_406 hP_422 hl9
                    · have fc_351 := eq_f c_351
                      refine lv_aload_n hx hb dX10_tryAll_105 rfl (lv_at hl 4 rfl) ?_
                      have go_ := g
                      refine g_callv (va_runV (As := []) (rest := []) ⟨hx, hb, hml, hown, hts⟩ (r_X10_countSpare l dC dI L kd tys fr_173 H.size g.2.2.2.1 a0_ ma0_ ka0_) (cwV 0 hts (gV_ t_1699 t_1701 t_83 t_194 t_1702) rfl rfl rfl (by decide +kernel) ⟨(Nat.le_of_ble_eq_true rfl), (Nat.le_of_ble_eq_true rfl)⟩) (pre3V g hK ma0_ ka0_ (by decide) (q := (RX10, TX10, 10)) rfl) rfl rfl hl.1 rfl (lv_room (Nat.le_of_ble_eq_true rfl)) dX10_tryAll_106 ⟨(Nat.le_of_ble_eq_true rfl), (Nat.le_of_ble_eq_true rfl)⟩) g hK (by decide) (by decide) (fx' := [(4, 14, a_172, .int x_174), (4, 4, a_172, .int x_176), (4, 3, a_172, .int x_178), (4, 2, a_172, .int x_180), (4, 1, a_172, .int x_182), (4, 0, a_172, .int x_184), (10, 5, a0_, .ref a_172), (3, 3, a_11, .ref p2_15), (3, 2, a_11, .ref m2_17), (3, 3, r1_12, .ref p1_14), (3, 2, r1_12, .ref m1_16), (10, 2, a0_, .ref w43_10_2_a0_), (10, 3, a0_, .ref w43_10_3_a0_), (10, 0, a0_, .ref q0_)]) rfl (fun fr_425 H locs hp hMr_425 g => ?_)
                      have hG_426 := cOK.frame hMr_425 go_.2.2.2.1 mq0_ kq0_ (by decide) (by decide) hG_187
                      have hG_427 := RP.frame hMr_425 go_.2.2.2.1 ma0_ ka0_ (by decide) (by decide) hG_188
                      refine lv_aload_n hx hb dX10_tryAll_109 rfl (lv_at hl 4 rfl) ?_
                      have go_ := g
                      refine g_callv (va_runV (As := []) (rest := []) ⟨hx, hb, hml, hown, hts⟩ (r_X10_tellOfSpare l dC dI L kd tys fr_425 H.size g.2.2.2.1 a0_ ma0_ ka0_ hG_427) (cwV 0 hts (gV_ t_1703 t_1705 t_84 t_194 t_1706) rfl rfl rfl (by decide +kernel) ⟨(Nat.le_of_ble_eq_true rfl), (Nat.le_of_ble_eq_true rfl)⟩) (pre3V g hK ma0_ ka0_ (by decide) (q := (RX10, TX10, 10)) rfl) rfl rfl hl.1 rfl (lv_room (Nat.le_of_ble_eq_true rfl)) dX10_tryAll_110 ⟨(Nat.le_of_ble_eq_true rfl), (Nat.le_of_ble_eq_true rfl)⟩) g hK (by decide) (by decide) (fx' := [(4, 14, a_172, .int x_174), (4, 4, a_172, .int x_176), (4, 3, a_172, .int x_178), (4, 2, a_172, .int x_180), (4, 1, a_172, .int x_182), (4, 0, a_172, .int x_184), (3, 3, a_11, .ref p2_15), (3, 2, a_11, .ref m2_17), (3, 3, r1_12, .ref p1_14), (3, 2, r1_12, .ref m1_16), (10, 0, a0_, .ref q0_)]) rfl (fun fr_428 H locs hp hMr_428 g => ?_)
                      obtain ⟨hG_429, hF_430⟩ := hp
                      have hG_431 := cOK.frame hMr_428 go_.2.2.2.1 mq0_ kq0_ (by decide) (by decide) hG_426
                      have g := g.more hF_430
                      refine lv_aload_n hx hb dX10_tryAll_113 rfl (lv_at hl 4 rfl) ?_
                      refine g_getr (K := 4) (C := RX10) (T := TX10) (N := 10) hx hb hts (mc_ inX10) hown hK g ma0_ ka0_ (by decide) rfl 4 (by decide) rfl (hts _ (List.mem_cons_of_mem _ t_917)) (fun _ h9 => h9) rfl dX10_tryAll_114 (fun a_432 ma_432 ka_432 g => ?_)
                      refine g_geti (C := RX4) (T := TX4) (N := 17) hx hb hts (mc_ inX4) hown hK g ma_432 ka_432 (by decide) rfl 0 (by decide) rfl (hts _ (List.mem_cons_of_mem _ t_837)) (fun _ h9 => h9) rfl dX10_tryAll_117 (fun x_433 bx_433 g => ?_)
                      refine lv_if_le (tgt := 131) hx hb dX10_tryAll_120 (by decide) (fun c_434 => ?_) (fun c_434 => ?_)
                      · have fc_434 := le_f c_434
                        have b_435 : bd (-2147483648) 0 x_433 := leL fc_434 (bdT x_433) kb_0 (by decide)
                        refine lv_aload_n hx hb dX10_tryAll_131 rfl (lv_at hl 4 rfl) ?_
                        refine g_getr (K := 3) (C := RX10) (T := TX10) (N := 10) hx hb hts (mc_ inX10) hown hK g ma0_ ka0_ (by decide) rfl 3 (by decide) rfl (hts _ (List.mem_cons_of_mem _ t_916)) (fun _ h9 => h9) rfl dX10_tryAll_132 (fun a_436 ma_436 ka_436 g => ?_)
                        refine lv_aload_n hx hb dX10_tryAll_135 rfl (lv_at hl 4 rfl) ?_
                        refine g_getr (K := 3) (C := RX10) (T := TX10) (N := 10) hx hb hts (mc_ inX10) hown hK g ma0_ ka0_ (by decide) rfl 2 (by decide) rfl (hts _ (List.mem_cons_of_mem _ t_914)) (fun _ h9 => h9) rfl dX10_tryAll_136 (fun a_437 ma_437 ka_437 g => ?_)
                        obtain ⟨r1_438, r2_439, p1_440, p2_441, m1_442, m2_443, A1_444, A2_445, Q1_446, Q2_447, n1_448, n2_449, k1_450, k2_451, e2_452, e3_453, pk1_454, pk2_455, hap_456⟩ := hG_429
                        obtain ⟨⟨hr_457, kr_458⟩, ⟨hp_459, kp_460⟩, ⟨hm_461, km_462⟩, f2_463, f3_464, f0_465, f4_466, b0_467, b4_468, hJ_469, hQ_470, hw_471⟩ := pk1_454
                        obtain rfl : a_437 = r1_438 := by have h9 := (fx_at g (i := 0) rfl).2.2.2.symm.trans e2_452; cases h9; rfl
                        have g := G3.add g ma_437 ka_437 (by decide) f2_463
                        have g := G3.add g ma_437 ka_437 (by decide) f3_464
                        have g := G3.add g ma_437 ka_437 (by decide) f0_465
                        have g := G3.add g ma_437 ka_437 (by decide) f4_466
                        obtain ⟨⟨hr_472, kr_473⟩, ⟨hp_474, kp_475⟩, ⟨hm_476, km_477⟩, f2_478, f3_479, f0_480, f4_481, b0_482, b4_483, hJ_484, hQ_485, hw_486⟩ := pk2_455
                        obtain rfl : a_436 = r2_439 := by have h9 := (fx_at g (i := 5) rfl).2.2.2.symm.trans e3_453; cases h9; rfl
                        have g := G3.add g ma_436 ka_436 (by decide) f2_478
                        have g := G3.add g ma_436 ka_436 (by decide) f3_479
                        have g := G3.add g ma_436 ka_436 (by decide) f0_480
                        have g := G3.add g ma_436 ka_436 (by decide) f4_481
                        have ho_487 := (fx_at g (i := 5) rfl).2.2.2
                        have ho_488 := (fx_at g (i := 4) rfl).2.2.2
                        have go_ := g
                        refine g_callv (va_runV (As := [.ref a_437]) (rest := []) ⟨hx, hb, hml, hown, hts⟩ (r_X3_copyFromQ l dC dI L kd tys fr_428 H.size g.2.2.2.1 a_436 ma_436 ka_436 p2_441 hp_474 kp_475 m2_443 hm_476 km_477 A2_445 Q2_447 n2_449 b0_482 k2_451 b4_483 hJ_484 hQ_485 a_437 ma_437 ka_437 p1_440 hp_459 kp_460 m1_442 hm_461 km_462 A1_444 Q1_446 n1_448 b0_467 k1_450 b4_468 hJ_469 hQ_470 hw_471 (apQ.sym hap_456) (g.fcts [1, 0, 3, 2, 5, 4, 7, 6] rfl)) (cwV 1 hts (gV_ t_1731 t_1732 t_1733 t_196 t_1734) rfl rfl rfl (by decide +kernel) ⟨(Nat.le_of_ble_eq_true rfl), (Nat.le_of_ble_eq_true rfl)⟩) (pre3V g hK ma_436 ka_436 (by decide) (q := (RX3, TX3, 6)) rfl) rfl rfl hl.1 rfl (lv_room (Nat.le_of_ble_eq_true rfl)) dX10_tryAll_139 ⟨(Nat.le_of_ble_eq_true rfl), (Nat.le_of_ble_eq_true rfl)⟩) g hK (by decide) (by decide) (fx' := [(3, 3, a_436, .ref p2_441), (3, 2, a_436, .ref m2_443), (3, 3, a_437, .ref p1_440), (3, 2, a_437, .ref m1_442), (10, 2, a0_, .ref a_437), (10, 3, a0_, .ref a_436), (4, 0, a_432, .int x_433), (10, 4, a0_, .ref a_432), (10, 8, a0_, .int 1), (4, 14, a_172, .int x_174), (4, 4, a_172, .int x_176), (4, 3, a_172, .int x_178), (4, 2, a_172, .int x_180), (4, 1, a_172, .int x_182), (4, 0, a_172, .int x_184), (3, 3, a_11, .ref p2_15), (3, 2, a_11, .ref m2_17), (3, 3, r1_12, .ref p1_14), (3, 2, r1_12, .ref m1_16), (10, 0, a0_, .ref q0_)]) rfl (fun fr_489 H locs hp hMr_489 g => ?_)
                        obtain ⟨hx_490, -⟩ := hp
                        have hG_491 := cOK.frame hMr_489 go_.2.2.2.1 mq0_ kq0_ (by decide) (by decide) hG_431
                        have hG_492 := arP.frame hMr_489 go_.2.2.2.1 hp_459 kp_460 (by decide) (by decide) hJ_469
                        have hG_493 := arP.frame hMr_489 go_.2.2.2.1 hp_474 kp_475 (by decide) (by decide) hJ_484
                        obtain ⟨Q_494, n_495, k_496, hQ_497, hU_498, h0_499, h4_500, b0_501, b4_502, hP_503⟩ := hx_490
                        have g := G3.add g ma_436 ka_436 (by decide) h0_499
                        have g := G3.add g ma_436 ka_436 (by decide) h4_500
                        have hQ_504 := QR.oth hU_498 hQ_470 (apQ.sym hap_456).2.1 (apQ.sym hap_456).2.2
                        have g := G3.add g ma_437 ka_437 (by decide) (((hU_498 a_437 ma_437).1 ka_437 (fun z => (apQ.sym hap_456).1 z.symm) 0).trans ho_487)
                        have g := G3.add g ma_437 ka_437 (by decide) (((hU_498 a_437 ma_437).1 ka_437 (fun z => (apQ.sym hap_456).1 z.symm) 4).trans ho_488)
                        have hP_507 : RP L kd fr_489 a0_ := ⟨a_437, _, _, _, _, _, _, _, _, _, _, _, _, _, (fx_at g (i := 8) rfl).2.2.2, (fx_at g (i := 9) rfl).2.2.2, ⟨⟨ma_437, ka_437⟩, ⟨hp_459, kp_460⟩, ⟨hm_461, km_462⟩, (fx_at g (i := 7) rfl).2.2.2, (fx_at g (i := 6) rfl).2.2.2, (fx_at g (i := 1) rfl).2.2.2, (fx_at g (i := 0) rfl).2.2.2, b0_467, b4_468, hG_492, hQ_504, hw_471⟩, ⟨⟨ma_436, ka_436⟩, ⟨hp_474, kp_475⟩, ⟨hm_476, km_477⟩, (fx_at g (i := 5) rfl).2.2.2, (fx_at g (i := 4) rfl).2.2.2, (fx_at g (i := 3) rfl).2.2.2, (fx_at g (i := 2) rfl).2.2.2, b0_501, b4_502, hG_493, hQ_497, hP_503.1⟩, hap_456⟩
                        refine lv_aload_n hx hb dX10_tryAll_142 rfl (lv_at hl 4 rfl) ?_
                        refine g_getk (C := RX10) (T := TX10) (N := 10) hx hb hts (mc_ inX10) hown hK g rfl 3 (by decide) rfl (hts _ (List.mem_cons_of_mem _ t_916)) (fun _ h9 => h9) 9 rfl dX10_tryAll_143 ?_
                        refine lv_aload_n hx hb dX10_tryAll_146 rfl (lv_at hl 4 rfl) ?_
                        refine g_getk (C := RX10) (T := TX10) (N := 10) hx hb hts (mc_ inX10) hown hK g rfl 0 (by decide) rfl (hts _ (List.mem_cons_of_mem _ t_912)) (fun _ h9 => h9) 23 rfl dX10_tryAll_147 ?_
                        refine lv_iload_n hx hb dX10_tryAll_150 rfl (lv_at hl 5 rfl) ?_
                        refine lv_iload hx hb dX10_tryAll_151 (lv_at hl 0 rfl) ?_
                        refine lv_iload_n hx hb dX10_tryAll_153 rfl (lv_at hl 3 rfl) ?_
                        obtain ⟨r1_508, r2_509, p1_510, p2_511, m1_512, m2_513, A1_514, A2_515, Q1_516, Q2_517, n1_518, n2_519, k1_520, k2_521, e2_522, e3_523, pk1_524, pk2_525, hap_526⟩ := hP_507
                        obtain ⟨⟨hr_527, kr_528⟩, ⟨hp_529, kp_530⟩, ⟨hm_531, km_532⟩, f2_533, f3_534, f0_535, f4_536, b0_537, b4_538, hJ_539, hQ_540, hw_541⟩ := pk1_524
                        obtain rfl : a_437 = r1_508 := by have h9 := (fx_at g (i := 8) rfl).2.2.2.symm.trans e2_522; cases h9; rfl
                        obtain rfl : m1_442 = m1_512 := by have h9 := (fx_at g (i := 7) rfl).2.2.2.symm.trans f2_533; cases h9; rfl
                        obtain rfl : p1_440 = p1_510 := by have h9 := (fx_at g (i := 6) rfl).2.2.2.symm.trans f3_534; cases h9; rfl
                        obtain rfl : n1_448 = n1_518 := by have h9 := (fx_at g (i := 1) rfl).2.2.2.symm.trans f0_535; cases h9; rfl
                        obtain rfl : k1_450 = k1_520 := by have h9 := (fx_at g (i := 0) rfl).2.2.2.symm.trans f4_536; cases h9; rfl
                        obtain ⟨⟨hr_542, kr_543⟩, ⟨hp_544, kp_545⟩, ⟨hm_546, km_547⟩, f2_548, f3_549, f0_550, f4_551, b0_552, b4_553, hJ_554, hQ_555, hw_556⟩ := pk2_525
                        obtain rfl : a_436 = r2_509 := by have h9 := (fx_at g (i := 9) rfl).2.2.2.symm.trans e3_523; cases h9; rfl
                        obtain rfl : m2_443 = m2_513 := by have h9 := (fx_at g (i := 5) rfl).2.2.2.symm.trans f2_548; cases h9; rfl
                        obtain rfl : p2_441 = p2_511 := by have h9 := (fx_at g (i := 4) rfl).2.2.2.symm.trans f3_549; cases h9; rfl
                        obtain rfl : n_495 = n2_519 := by have h9 := (fx_at g (i := 3) rfl).2.2.2.symm.trans f0_550; cases h9; rfl
                        obtain rfl : k_496 = k2_521 := by have h9 := (fx_at g (i := 2) rfl).2.2.2.symm.trans f4_551; cases h9; rfl
                        have ho_557 := (fx_at g (i := 1) rfl).2.2.2
                        have ho_558 := (fx_at g (i := 0) rfl).2.2.2
                        have go_ := g
                        refine g_calli (va_runV (As := [.ref q0_, .int x1_, .int x_174, .int v12_3]) (rest := []) ⟨hx, hb, hml, hown, hts⟩ (r_X3_goOnBehindQ l dC dI L kd tys fr_489 H.size g.2.2.2.1 a_436 ma_436 ka_436 p2_441 hp_474 kp_475 m2_443 hm_476 km_477 A2_515 Q2_517 n_495 b0_501 k_496 b4_502 hJ_554 hQ_555 hw_556 q0_ mq0_ kq0_ x1_ bx1_ x_174 v12_3 (bd_sub b_9 (by decide)) (g.fcts [3, 2, 5, 4] rfl)) (cwV 4 hts (gV_ t_1736 t_1737 t_1738 t_196 t_1739) rfl rfl rfl (by decide +kernel) ⟨(Nat.le_of_ble_eq_true rfl), (Nat.le_of_ble_eq_true rfl)⟩) (pre3V g hK ma_436 ka_436 (by decide) (q := (RX3, TX3, 6)) rfl) rfl rfl hl.1 rfl (lv_room (Nat.le_of_ble_eq_true rfl)) dX10_tryAll_154 ⟨(Nat.le_of_ble_eq_true rfl), (Nat.le_of_ble_eq_true rfl)⟩) g hK (by decide) (by decide) (fx' := [(3, 3, a_436, .ref p2_441), (3, 2, a_436, .ref m2_443), (3, 3, a_437, .ref p1_440), (3, 2, a_437, .ref m1_442), (10, 2, a0_, .ref a_437), (10, 3, a0_, .ref a_436), (4, 0, a_432, .int x_433), (10, 4, a0_, .ref a_432), (10, 8, a0_, .int 1), (4, 14, a_172, .int x_174), (4, 4, a_172, .int x_176), (4, 3, a_172, .int x_178), (4, 2, a_172, .int x_180), (4, 1, a_172, .int x_182), (4, 0, a_172, .int x_184), (3, 3, a_11, .ref p2_15), (3, 2, a_11, .ref m2_17), (3, 3, r1_12, .ref p1_14), (3, 2, r1_12, .ref m1_16), (10, 0, a0_, .ref q0_)]) rfl (fun r_559 fr_559 H locs hp hMr_559 g => ?_)
                        obtain ⟨hx_560, h_561, -⟩ := hp
                        have hG_562 := cOK.frame hMr_559 go_.2.2.2.1 mq0_ kq0_ (by decide) (by decide) hG_491
                        have hG_563 := arP.frame hMr_559 go_.2.2.2.1 hp_459 kp_460 (by decide) (by decide) hJ_539
                        have hG_564 := arP.frame hMr_559 go_.2.2.2.1 hp_474 kp_475 (by decide) (by decide) hJ_554
                        obtain ⟨Q_565, n_566, k_567, hQ_568, hU_569, h0_570, h4_571, b0_572, b4_573, hP_574⟩ := hx_560
                        have g := G3.add g ma_436 ka_436 (by decide) h0_570
                        have g := G3.add g ma_436 ka_436 (by decide) h4_571
                        have hQ_575 := QR.oth hU_569 hQ_540 (apQ.sym hap_526).2.1 (apQ.sym hap_526).2.2
                        have g := G3.add g ma_437 ka_437 (by decide) (((hU_569 a_437 ma_437).1 ka_437 (fun z => (apQ.sym hap_526).1 z.symm) 0).trans ho_557)
                        have g := G3.add g ma_437 ka_437 (by decide) (((hU_569 a_437 ma_437).1 ka_437 (fun z => (apQ.sym hap_526).1 z.symm) 4).trans ho_558)
                        have hP_578 : RP L kd fr_559 a0_ := ⟨a_437, _, _, _, _, _, _, _, _, _, _, _, _, _, (fx_at g (i := 8) rfl).2.2.2, (fx_at g (i := 9) rfl).2.2.2, ⟨⟨ma_437, ka_437⟩, ⟨hp_459, kp_460⟩, ⟨hm_461, km_462⟩, (fx_at g (i := 7) rfl).2.2.2, (fx_at g (i := 6) rfl).2.2.2, (fx_at g (i := 1) rfl).2.2.2, (fx_at g (i := 0) rfl).2.2.2, b0_467, b4_468, hG_563, hQ_575, hw_541⟩, ⟨⟨ma_436, ka_436⟩, ⟨hp_474, kp_475⟩, ⟨hm_476, km_477⟩, (fx_at g (i := 5) rfl).2.2.2, (fx_at g (i := 4) rfl).2.2.2, (fx_at g (i := 3) rfl).2.2.2, (fx_at g (i := 2) rfl).2.2.2, b0_572, b4_573, hG_564, hQ_568, hP_574⟩, hap_526⟩
                        refine lv_istore (lv' := [(4, .int r_559), (6, .int x_174), (5, .int v43_5), (3, .int v12_3), (0, .ref a0_), (1, .int x1_), (2, .int x2_)]) hx hb dX10_tryAll_157 hl (by decide) rfl (fun ls hl => ?_)
                        obtain ⟨y_579, ey_579⟩ : ∃ z : Int32, z = v43_5 + 1 := ⟨_, rfl⟩
                        refine lv_iinc (v := y_579) (lv' := [(5, .int y_579), (4, .int r_559), (6, .int x_174), (3, .int v12_3), (0, .ref a0_), (1, .int x1_), (2, .int x2_)]) hx hb dX10_tryAll_159 hl (k := 2) rfl (by rw [ey_579]; rfl) (by decide) rfl (fun ls hl => ?_)
                        have ty_579 := add_bd ey_579 b_160 kb_1 (by decide)
                        have b_580 : bd 1 1000000 y_579 := add_rg ty_579 b_160 kb_1 (by decide)
                        refine lv_goto (tgt := 43) hx hb dX10_tryAll_162 (by decide) ?_
                        have hl9 := lv_sub hl [0, 1, 3, 4, 5, 6] (by rfl : lv_pick [(5, .int y_579), (4, .int r_559), (6, .int x_174), (3, .int v12_3), (0, .ref a0_), (1, .int x1_), (2, .int x2_)] [0, 1, 3, 4, 5, 6] = [(5, .int y_579), (4, .int r_559), (3, .int v12_3), (0, .ref a0_), (1, .int x1_), (2, .int x2_)])
                        have g9 := g.sub (fx' := [(3, 3, a_11, .ref p2_15), (3, 2, a_11, .ref m2_17), (3, 3, r1_12, .ref p1_14), (3, 2, r1_12, .ref m1_16), (10, 2, a0_, .ref a_437), (10, 3, a0_, .ref a_436), (10, 0, a0_, .ref q0_)]) [19, 20, 21, 22, 8, 9, 23] rfl
                        exact ih43  y_579 r_559 a_437 a_436 (bd_sub b_580 (by decide)) h_561 ma_437 ka_437 ma_436 ka_436 (by have h9_0 := b_580; unfold bd at h9_0; have h9_1 := bv43_4; unfold bd at h9_1; have h9_2 := bv43_5; unfold bd at h9_2; have h9_3 := h_561; unfold bd at h9_3; have h9_4 := kb_0; unfold bd at h9_4; have h9_5 := kb_1; unfold bd at h9_5; have h9_6 := kb_1000000; unfold bd at h9_6; have h9_7 := kb_600; unfold bd at h9_7; have h9_8 := kb_m1; unfold bd at h9_8; omega) _ _ _ _ g9 hG_562 hP_578 hl9
                      · have fc_434 := nle_f c_434
                        have b_581 : bd 1 2147483647 x_433 := ltR fc_434 kb_0 (bdT x_433) (by decide)
                        refine lv_aload_n hx hb dX10_tryAll_123 rfl (lv_at hl 4 rfl) ?_
                        refine g_getk (C := RX10) (T := TX10) (N := 10) hx hb hts (mc_ inX10) hown hK g rfl 4 (by decide) rfl (hts _ (List.mem_cons_of_mem _ t_917)) (fun _ h9 => h9) 1 rfl dX10_tryAll_124 ?_
                        refine g_getk (C := RX4) (T := TX4) (N := 17) hx hb hts (mc_ inX4) hown hK g rfl 0 (by decide) rfl (hts _ (List.mem_cons_of_mem _ t_837)) (fun _ h9 => h9) 0 rfl dX10_tryAll_127 ?_
                        subst hQ
                        exact W.iret (v := x_433) hx hb hr (fun t ht hW => ⟨⟨_, _, rfl, ⟨hG_429, (bd_sub b_581 (by decide)), trivial⟩, q3_of g hK ht hW⟩, g.2.2.1.F ht⟩) g.2.2.1.2.2 dX10_tryAll_130
        have hl9 := lv_sub hl [0, 1, 2, 3, 4, 5] (by rfl : lv_pick [(5, .int 0), (4, .int r_135), (3, .int v12_3), (0, .ref a0_), (1, .int x1_), (2, .int x2_)] [0, 1, 2, 3, 4, 5] = [(5, .int 0), (4, .int r_135), (3, .int v12_3), (0, .ref a0_), (1, .int x1_), (2, .int x2_)])
        have g9 := g.sub (fx' := [(3, 3, a_11, .ref p2_15), (3, 2, a_11, .ref m2_17), (3, 3, r1_12, .ref p1_14), (3, 2, r1_12, .ref m1_16), (10, 2, a0_, .ref r1_12), (10, 3, a0_, .ref a_11), (10, 0, a0_, .ref q0_)]) [4, 5, 6, 7, 8, 9, 10] rfl
        exact loop_155 (2000003) 0 r_135 r1_12 a_11 (bd_sub kb_0 (by decide)) h_137 hr_31 kr_32 ma_11 ka_11 (by have h9_0 := b0_148; unfold bd at h9_0; have h9_1 := b4_149; unfold bd at h9_1; have h9_2 := h_137; unfold bd at h9_2; have h9_3 := kb_0; unfold bd at h9_3; omega) _ _ _ _ g9 hG_138 hP_154 hl9
  have kb_1 : bd 1 1 (1 : Int32) := ⟨by decide, by decide⟩
  have hl9 := lv_sub hl [0, 1, 2, 3] (by rfl : lv_pick [(3, .int 1), (0, .ref a0_), (1, .int x1_), (2, .int x2_)] [0, 1, 2, 3] = [(3, .int 1), (0, .ref a0_), (1, .int x1_), (2, .int x2_)])
  have g9 := g.sub (fx' := [(10, 0, a0_, .ref q0_)]) [2] rfl
  exact loop_7 (23) 1 (bd_sub kb_1 (by decide)) (by have h9_0 := kb_0; unfold bd at h9_0; have h9_1 := kb_1; unfold bd at h9_1; omega) _ _ _ _ g9 hG_5 hG_6 hl9
set_option maxHeartbeats 4000000 in
set_option maxRecDepth 100000 in
theorem r_X11_all (l : Launch) (dC : Nat → ClassId) (dI : Nat → Nat → Nat) (L : List Nat) (kd : Nat → Nat) (tys : List (ClassId × FieldType)) (f0 : Nat → va_E) (sz : Nat) (hWT : WT L kd tys f0) (a0_ : Nat) (ma0_ : a0_ ∈ L) (ka0_ : kd a0_ = 11) (x1_ : Int32) (x2_ : Int32) (q0_ : Nat) (mq0_ : q0_ ∈ L) (kq0_ : kd q0_ = 10) (q1_ : Nat) (mq1_ : q1_ ∈ L) (kq1_ : kd q1_ = 7) (hGPq0_ : RP L kd f0 q0_) (hGcq1_ : cOK f0 q1_) (hfx : Fs L kd f0 [(11, 3, a0_, .ref q0_), (10, 0, q0_, .ref q1_)]) : Met l yX11_all (.code yX11_all cX11_all 3 (some .int) :: lw_g) ({ frames := 7, cells := 0, slots := 0, locals := 181 }) (va_Pc [.ref a0_, .int x1_, .int x2_] (P3 (dC, dI) L tys f0 sz)) (va_Qi (fun (r : Int32) (f : Nat → va_E) => (RP L kd f q0_ ∧ bd (-2) 2147483647 r ∧ True)) (Q3 (dC, dI) L kd tys [(1, 0), (1, 1), (1, 2), (1, 3), (1, 4), (1, 5), (1, 6), (1, 8), (1, 11), (1, 12), (1, 13), (1, 14), (1, 15), (1, 16), (1, 17), (3, 0), (3, 4), (4, 0), (4, 1), (4, 2), (4, 3), (4, 4), (4, 5), (4, 6), (4, 14), (4, 15), (4, 16), (10, 2), (10, 3), (10, 4), (10, 5), (10, 6), (10, 7), (10, 8)] [100, 101, 102, 103, 116, 117, 122, 123, 125, 126, 127, 130, 131, 146] f0 sz) (pA L sz)) 0 0 (pA L sz) := by
  refine Met.ofW (cc := cX11_all) (maxL := 3) (ret := (some .int)) (by decide) rfl ?_
  intro p e s m args below meth c s₁ B hml hv
  obtain ⟨rfl, hsz, hP, hK, hD0⟩ := hv
  have hx := B.exec
  have hb := B.bytes
  have hr := B.returns
  have hts := atoms_spec (ws := (.code yX11_all cX11_all 3 (some .int) :: lw_g)) B.pre
  have hown : s.vm.findClass RX11 = some m.cls := findClass_of_methodNamed B.named
  have hlocks := B.notSynchronized
  subst hsz
  have g : G3 (dC, dI) L kd tys s f0 [(1, 0), (1, 1), (1, 2), (1, 3), (1, 4), (1, 5), (1, 6), (1, 8), (1, 11), (1, 12), (1, 13), (1, 14), (1, 15), (1, 16), (1, 17), (3, 0), (3, 4), (4, 0), (4, 1), (4, 2), (4, 3), (4, 4), (4, 5), (4, 6), (4, 14), (4, 15), (4, 16), (10, 2), (10, 3), (10, 4), (10, 5), (10, 6), (10, 7), (10, 8)] [100, 101, 102, 103, 116, 117, 122, 123, 125, 126, 127, 130, 131, 146] f0 s.heap [] [(11, 3, a0_, .ref q0_), (10, 0, q0_, .ref q1_)] := G3.start hP hD0 hWT hfx
  have hl := lv_entry ([.ref a0_, .int x1_, .int x2_]) (n := 3) (Nat.le_of_ble_eq_true rfl)
  rw [lg_entry_eq]
  generalize (lg_sl ([.ref a0_, .int x1_, .int x2_]) ++ List.replicate (3 - (lg_sl ([.ref a0_, .int x1_, .int x2_])).length) Slot.unset).toArray = ls at hl ⊢
  have hl : lv_has ls 3 [(0, .ref a0_), (1, .int x1_), (2, .int x2_)] := hl
  refine W_q (fun Q hQ => ?_)
  refine lv_aload_n hx hb dX11_all_0 rfl (lv_at hl 0 rfl) ?_
  refine g_getr (K := 7) (C := RX11) (T := TX11) (N := 8) hx hb hts (mc_ inX11) hown hK g ma0_ ka0_ (by decide) rfl 4 (by decide) rfl (hts _ (List.mem_cons_of_mem _ t_952)) (fun _ h9 => h9) rfl dX11_all_1 (fun a_1 ma_1 ka_1 g => ?_)
  refine lv_iload_n hx hb dX11_all_4 rfl (lv_at hl 1 rfl) ?_
  have go_ := g
  refine g_calli (va_runV (As := [.int x1_]) (rest := []) ⟨hx, hb, hml, hown, hts⟩ (r_X7_hasClass l dC dI L kd tys f0 s.heap.size g.2.2.2.1 a_1 ma_1 ka_1 x1_) (cwV 1 hts (gV_ t_1442 t_1281 t_1282 t_191 t_1283) rfl rfl rfl (by decide +kernel) ⟨(Nat.le_of_ble_eq_true rfl), (Nat.le_of_ble_eq_true rfl)⟩) (pre3V g hK ma_1 ka_1 (by decide) (q := (RX7, TX7, 19)) rfl) rfl rfl hl.1 rfl (lv_room (Nat.le_of_ble_eq_true rfl)) dX11_all_5 ⟨(Nat.le_of_ble_eq_true rfl), (Nat.le_of_ble_eq_true rfl)⟩) g hK (by decide) (by decide) (fx' := [(11, 4, a0_, .ref a_1), (11, 3, a0_, .ref q0_), (10, 0, q0_, .ref q1_)]) rfl (fun r_2 fr_2 H locs hp hMr_2 g => ?_)
  rcases hp with ⟨h_3, -⟩ | ⟨h_4, h_5, x_6, h_7, hF_8⟩
  · have hG_9 := RP.frame hMr_2 go_.2.2.2.1 mq0_ kq0_ (by decide) (by decide) hGPq0_
    have hG_10 := cOK.frame hMr_2 go_.2.2.2.1 mq1_ kq1_ (by decide) (by decide) hGcq1_
    obtain rfl : r_2 = 0 := h_3
    refine lv_if_eq (tgt := 21) hx hb dX11_all_8 (by decide) (fun c_ => ?_) (fun c_ => absurd (by decide) c_)
    refine lv_bipush (v := (-2)) hx hb dX11_all_21 (by decide) ?_
    have kb_m2 : bd (-2) (-2) ((-2) : Int32) := ⟨by decide, by decide⟩
    subst hQ
    exact W.iret (v := (-2)) hx hb hr (fun t ht hW => ⟨⟨_, _, rfl, ⟨hG_9, (bd_sub kb_m2 (by decide)), trivial⟩, q3_of g hK ht hW⟩, g.2.2.1.F ht⟩) g.2.2.1.2.2 dX11_all_23
  · have hG_11 := RP.frame hMr_2 go_.2.2.2.1 mq0_ kq0_ (by decide) (by decide) hGPq0_
    have hG_12 := cOK.frame hMr_2 go_.2.2.2.1 mq1_ kq1_ (by decide) (by decide) hGcq1_
    obtain rfl : r_2 = 1 := h_4
    have b_13 : bd 0 7 x1_ := eqX rfl (bdT x1_) h_5 (by decide)
    have g := g.more hF_8
    refine lv_if_eq (tgt := 21) hx hb dX11_all_8 (by decide) (fun c_ => absurd c_ (by decide)) (fun c_ => ?_)
    refine lv_iload_n hx hb dX11_all_11 rfl (lv_at hl 2 rfl) ?_
    refine lv_iconst (v := 1) hx hb dX11_all_12 (by decide) ?_
    have kb_1 : bd 1 1 (1 : Int32) := ⟨by decide, by decide⟩
    refine lv_icmp_lt (tgt := 21) hx hb dX11_all_13 (by decide) (fun c_14 => ?_) (fun c_14 => ?_)
    · have fc_14 := lt_f c_14
      have b_15 : bd (-2147483648) 0 x2_ := ltL fc_14 (bdT x2_) kb_1 (by decide)
      refine lv_bipush (v := (-2)) hx hb dX11_all_21 (by decide) ?_
      have kb_m2 : bd (-2) (-2) ((-2) : Int32) := ⟨by decide, by decide⟩
      subst hQ
      exact W.iret (v := (-2)) hx hb hr (fun t ht hW => ⟨⟨_, _, rfl, ⟨hG_11, (bd_sub kb_m2 (by decide)), trivial⟩, q3_of g hK ht hW⟩, g.2.2.1.F ht⟩) g.2.2.1.2.2 dX11_all_23
    · have fc_14 := nlt_f c_14
      have b_16 : bd 1 2147483647 x2_ := leR fc_14 kb_1 (bdT x2_) (by decide)
      refine lv_iload_n hx hb dX11_all_16 rfl (lv_at hl 2 rfl) ?_
      refine lv_iconst (v := 4) hx hb dX11_all_17 (by decide) ?_
      have kb_4 : bd 4 4 (4 : Int32) := ⟨by decide, by decide⟩
      refine lv_icmp_le (tgt := 24) hx hb dX11_all_18 (by decide) (fun c_17 => ?_) (fun c_17 => ?_)
      · have fc_17 := le_f c_17
        have b_18 : bd 1 4 x2_ := leL fc_17 b_16 kb_4 (by decide)
        refine lv_aload_n hx hb dX11_all_24 rfl (lv_at hl 0 rfl) ?_
        refine g_getk (C := RX11) (T := TX11) (N := 8) hx hb hts (mc_ inX11) hown hK g rfl 3 (by decide) rfl (hts _ (List.mem_cons_of_mem _ t_951)) (fun _ h9 => h9) 2 rfl dX11_all_25 ?_
        refine lv_iload_n hx hb dX11_all_28 rfl (lv_at hl 1 rfl) ?_
        refine lv_iload_n hx hb dX11_all_29 rfl (lv_at hl 2 rfl) ?_
        have go_ := g
        refine g_calli (va_runV (As := [.int x1_, .int x2_]) (rest := []) ⟨hx, hb, hml, hown, hts⟩ (r_X10_tryAll l dC dI L kd tys fr_2 H.size g.2.2.2.1 q0_ mq0_ kq0_ x1_ b_13 x2_ (bd_sub b_18 (by decide)) q1_ mq1_ kq1_ hG_11 hG_12 (g.fcts [3] rfl)) (cwV 2 hts (gV_ t_1711 t_1712 t_1713 t_194 t_1714) rfl rfl rfl (by decide +kernel) ⟨(Nat.le_of_ble_eq_true rfl), (Nat.le_of_ble_eq_true rfl)⟩) (pre3V g hK mq0_ kq0_ (by decide) (q := (RX10, TX10, 10)) rfl) rfl rfl hl.1 rfl (lv_room (Nat.le_of_ble_eq_true rfl)) dX11_all_30 ⟨(Nat.le_of_ble_eq_true rfl), (Nat.le_of_ble_eq_true rfl)⟩) g hK (by decide) (by decide) (fx' := [(7, 1, a_1, .int x_6), (11, 4, a0_, .ref a_1), (11, 3, a0_, .ref q0_), (10, 0, q0_, .ref q1_)]) rfl (fun r_19 fr_19 H locs hp hMr_19 g => ?_)
        obtain ⟨hG_20, h_21, -⟩ := hp
        have hG_22 := cOK.frame hMr_19 go_.2.2.2.1 mq1_ kq1_ (by decide) (by decide) hG_12
        subst hQ
        exact W.iret (v := r_19) hx hb hr (fun t ht hW => ⟨⟨_, _, rfl, ⟨hG_20, (bd_sub h_21 (by decide)), trivial⟩, q3_of g hK ht hW⟩, g.2.2.1.F ht⟩) g.2.2.1.2.2 dX11_all_33
      · have fc_17 := nle_f c_17
        have b_23 : bd 5 2147483647 x2_ := ltR fc_17 kb_4 b_16 (by decide)
        refine lv_bipush (v := (-2)) hx hb dX11_all_21 (by decide) ?_
        have kb_m2 : bd (-2) (-2) ((-2) : Int32) := ⟨by decide, by decide⟩
        subst hQ
        exact W.iret (v := (-2)) hx hb hr (fun t ht hW => ⟨⟨_, _, rfl, ⟨hG_11, (bd_sub kb_m2 (by decide)), trivial⟩, q3_of g hK ht hW⟩, g.2.2.1.F ht⟩) g.2.2.1.2.2 dX11_all_23
set_option maxHeartbeats 4000000 in
set_option maxRecDepth 100000 in
theorem r_X4_brokenPlace (l : Launch) (dC : Nat → ClassId) (dI : Nat → Nat → Nat) (L : List Nat) (kd : Nat → Nat) (tys : List (ClassId × FieldType)) (f0 : Nat → va_E) (sz : Nat) (hWT : WT L kd tys f0) (a0_ : Nat) (ma0_ : a0_ ∈ L) (ka0_ : kd a0_ = 4) (a1_ : Nat) (ma1_ : a1_ ∈ L) (ka1_ : kd a1_ = 7) : Met l yX4_brokenPlace (.code yX4_brokenPlace cX4_brokenPlace 2 (some .int) :: lw_g) ({ frames := 0, cells := 0, slots := 0, locals := 0 }) (va_Pc [.ref a0_, .ref a1_] (P3 (dC, dI) L tys f0 sz)) (va_Qi (fun (r : Int32) (f : Nat → va_E) => (True)) (Q3 (dC, dI) L kd tys [] [] f0 sz) (pA L sz)) 0 0 (pA L sz) := by
  refine Met.ofW (cc := cX4_brokenPlace) (maxL := 2) (ret := (some .int)) (by decide) rfl ?_
  intro p e s m args below meth c s₁ B hml hv
  obtain ⟨rfl, hsz, hP, hK, hD0⟩ := hv
  have hx := B.exec
  have hb := B.bytes
  have hr := B.returns
  have hts := atoms_spec (ws := (.code yX4_brokenPlace cX4_brokenPlace 2 (some .int) :: lw_g)) B.pre
  have hown : s.vm.findClass RX4 = some m.cls := findClass_of_methodNamed B.named
  have hlocks := B.notSynchronized
  subst hsz
  have g : G3 (dC, dI) L kd tys s f0 [] [] f0 s.heap [] [] := G3.start hP hD0 hWT Fs.nil
  have hl := lv_entry ([.ref a0_, .ref a1_]) (n := 2) (Nat.le_of_ble_eq_true rfl)
  rw [lg_entry_eq]
  generalize (lg_sl ([.ref a0_, .ref a1_]) ++ List.replicate (2 - (lg_sl ([.ref a0_, .ref a1_])).length) Slot.unset).toArray = ls at hl ⊢
  have hl : lv_has ls 2 [(0, .ref a0_), (1, .ref a1_)] := hl
  refine W_q (fun Q hQ => ?_)
  refine lv_aload_n hx hb dX4_brokenPlace_0 rfl (lv_at hl 0 rfl) ?_
  refine g_geti (C := RX4) (T := TX4) (N := 17) hx hb hts (mc_ inX4) hown hK g ma0_ ka0_ (by decide) rfl 1 (by decide) rfl (hts _ (List.mem_cons_of_mem _ t_839)) (fun _ h9 => h9) rfl dX4_brokenPlace_1 (fun x_1 bx_1 g => ?_)
  have kb_0 : bd 0 0 (0 : Int32) := ⟨by decide, by decide⟩
  refine lv_if_lt (tgt := 30) hx hb dX4_brokenPlace_4 (by decide) (fun c_2 => ?_) (fun c_2 => ?_)
  · have fc_2 := lt_f c_2
    have b_3 : bd (-2147483648) (-1) x_1 := ltL fc_2 (bdT x_1) kb_0 (by decide)
    refine lv_iconst (v := (-1)) hx hb dX4_brokenPlace_30 (by decide) ?_
    subst hQ
    exact W.iret (v := (-1)) hx hb hr (fun t ht hW => ⟨⟨_, _, rfl, trivial, q3_of g hK ht hW⟩, g.2.2.1.F ht⟩) g.2.2.1.2.2 dX4_brokenPlace_31
  · have fc_2 := nlt_f c_2
    have b_4 : bd 0 2147483647 x_1 := leR fc_2 kb_0 (bdT x_1) (by decide)
    refine lv_aload_n hx hb dX4_brokenPlace_7 rfl (lv_at hl 0 rfl) ?_
    refine g_getk (C := RX4) (T := TX4) (N := 17) hx hb hts (mc_ inX4) hown hK g rfl 1 (by decide) rfl (hts _ (List.mem_cons_of_mem _ t_839)) (fun _ h9 => h9) 0 rfl dX4_brokenPlace_8 ?_
    refine lv_aload_n hx hb dX4_brokenPlace_11 rfl (lv_at hl 1 rfl) ?_
    refine g_geti (C := RX7) (T := TX7) (N := 19) hx hb hts (mc_ inX7) hown hK g ma1_ ka1_ (by decide) rfl 13 (by decide) rfl (hts _ (List.mem_cons_of_mem _ t_667)) (fun _ h9 => h9) rfl dX4_brokenPlace_12 (fun x_5 bx_5 g => ?_)
    refine lv_icmp_ge (tgt := 30) hx hb dX4_brokenPlace_15 (by decide) (fun c_6 => ?_) (fun c_6 => ?_)
    · have fc_6 := le_f c_6
      refine lv_iconst (v := (-1)) hx hb dX4_brokenPlace_30 (by decide) ?_
      subst hQ
      exact W.iret (v := (-1)) hx hb hr (fun t ht hW => ⟨⟨_, _, rfl, trivial, q3_of g hK ht hW⟩, g.2.2.1.F ht⟩) g.2.2.1.2.2 dX4_brokenPlace_31
    · have fc_6 := nle_f c_6
      have b_7 : bd 0 499 x_1 := ltL fc_6 b_4 bx_5 (by decide)
      have b_8 : bd 1 500 x_5 := ltR fc_6 b_4 bx_5 (by decide)
      refine lv_aload_n hx hb dX4_brokenPlace_18 rfl (lv_at hl 1 rfl) ?_
      refine g_getr (K := 142) (C := RX7) (T := TX7) (N := 19) hx hb hts (mc_ inX7) hown hK g ma1_ ka1_ (by decide) rfl 9 (by decide) rfl (hts _ (List.mem_cons_of_mem _ t_655)) (fun _ h9 => h9) rfl dX4_brokenPlace_19 (fun a_9 ma_9 ka_9 g => ?_)
      refine lv_aload_n hx hb dX4_brokenPlace_22 rfl (lv_at hl 0 rfl) ?_
      refine g_getk (C := RX4) (T := TX4) (N := 17) hx hb hts (mc_ inX4) hown hK g rfl 1 (by decide) rfl (hts _ (List.mem_cons_of_mem _ t_839)) (fun _ h9 => h9) 2 rfl dX4_brokenPlace_23 ?_
      refine g_iald hx hb hK g ma_9 ka_9 (by decide) rfl (in_bd b_7 (by decide)) dX4_brokenPlace_26 (fun x_10 bx_10 cx_10 => ?_)
      refine lv_goto (tgt := 31) hx hb dX4_brokenPlace_27 (by decide) ?_
      subst hQ
      exact W.iret (v := x_10) hx hb hr (fun t ht hW => ⟨⟨_, _, rfl, trivial, q3_of g hK ht hW⟩, g.2.2.1.F ht⟩) g.2.2.1.2.2 dX4_brokenPlace_31
set_option maxHeartbeats 4000000 in
set_option maxRecDepth 100000 in
theorem r_X3_tellingOf_3 (l : Launch) (dC : Nat → ClassId) (dI : Nat → Nat → Nat) (L : List Nat) (kd : Nat → Nat) (tys : List (ClassId × FieldType)) (f0 : Nat → va_E) (sz : Nat) (hWT : WT L kd tys f0) (a0_ : Nat) (ma0_ : a0_ ∈ L) (ka0_ : kd a0_ = 3) (a1_ : Nat) (ma1_ : a1_ ∈ L) (ka1_ : kd a1_ = 7) (x2_ : Int32) (bx2_ : bd 0 2 x2_) (x3_ : Int32) (bx3_ : bd 0 11 x3_) (y0_ : Int32) (by0_ : bd 1 10 y0_) (hfx : Fs L kd f0 [(3, 0, a0_, .int y0_)]) : Met l yX3_tellingOf (.code yX3_tellingOf cX3_tellingOf 4 (some (.object "TrialGarden$Telling")) :: lw_g) ({ frames := 0, cells := 0, slots := 0, locals := 0 }) (va_Pc [.ref a0_, .ref a1_, .int x2_, .int x3_] (P3 (dC, dI) L tys f0 sz)) (va_Qr (fun (_ : Nat → va_E) => True) (fun u b t => (b ∈ L ∧ kd b = 6) ∧ Q3 (dC, dI) L kd tys [] [] f0 sz u t) (pA L sz)) 0 0 (pA L sz) := by
  refine Met.ofW (cc := cX3_tellingOf) (maxL := 4) (ret := (some (.object "TrialGarden$Telling"))) (by decide) rfl ?_
  intro p e s m args below meth c s₁ B hml hv
  obtain ⟨rfl, hsz, hP, hK, hD0⟩ := hv
  have hx := B.exec
  have hb := B.bytes
  have hr := B.returns
  have hts := atoms_spec (ws := (.code yX3_tellingOf cX3_tellingOf 4 (some (.object "TrialGarden$Telling")) :: lw_g)) B.pre
  have hown : s.vm.findClass RX3 = some m.cls := findClass_of_methodNamed B.named
  have hlocks := B.notSynchronized
  subst hsz
  have g : G3 (dC, dI) L kd tys s f0 [] [] f0 s.heap [] [(3, 0, a0_, .int y0_)] := G3.start hP hD0 hWT hfx
  have hl := lv_entry ([.ref a0_, .ref a1_, .int x2_, .int x3_]) (n := 4) (Nat.le_of_ble_eq_true rfl)
  rw [lg_entry_eq]
  generalize (lg_sl ([.ref a0_, .ref a1_, .int x2_, .int x3_]) ++ List.replicate (4 - (lg_sl ([.ref a0_, .ref a1_, .int x2_, .int x3_])).length) Slot.unset).toArray = ls at hl ⊢
  have hl : lv_has ls 4 [(0, .ref a0_), (1, .ref a1_), (2, .int x2_), (3, .int x3_)] := hl
  refine W_q (fun Q hQ => ?_)
  refine lv_aload_n hx hb dX3_tellingOf_0 rfl (lv_at hl 1 rfl) ?_
  refine g_getr (K := 137) (C := RX7) (T := TX7) (N := 19) hx hb hts (mc_ inX7) hown hK g ma1_ ka1_ (by decide) rfl 2 (by decide) rfl (hts _ (List.mem_cons_of_mem _ t_631)) (fun _ h9 => h9) rfl dX3_tellingOf_1 (fun a_1 ma_1 ka_1 g => ?_)
  refine lv_aload_n hx hb dX3_tellingOf_4 rfl (lv_at hl 1 rfl) ?_
  refine g_getr (K := 136) (C := RX7) (T := TX7) (N := 19) hx hb hts (mc_ inX7) hown hK g ma1_ ka1_ (by decide) rfl 0 (by decide) rfl (hts _ (List.mem_cons_of_mem _ t_622)) (fun _ h9 => h9) rfl dX3_tellingOf_5 (fun a_2 ma_2 ka_2 g => ?_)
  refine lv_aload_n hx hb dX3_tellingOf_8 rfl (lv_at hl 0 rfl) ?_
  refine g_getr (K := 125) (C := RX3) (T := TX3) (N := 6) hx hb hts (mc_ inX3) hown hK g ma0_ ka0_ (by decide) rfl 5 (by decide) rfl (hts _ (List.mem_cons_of_mem _ t_815)) (fun _ h9 => h9) rfl dX3_tellingOf_9 (fun a_3 ma_3 ka_3 g => ?_)
  refine lv_iload_n hx hb dX3_tellingOf_12 rfl (lv_at hl 2 rfl) ?_
  refine g_iald hx hb hK g ma_3 ka_3 (by decide) rfl (in_bd bx2_ (by decide)) dX3_tellingOf_13 (fun x_4 bx_4 cx_4 => ?_)
  refine g_aald hx hb hK g ma_2 ka_2 (by decide) rfl (by decide) (in_bd bx_4 (by decide)) dX3_tellingOf_14 (fun a_5 ma_5 ua_5 wa_5 => ?_)
  have ka_5 : kd a_5 = 9 := by omega
  refine g_getr (K := 156) (C := RX9) (T := TX9) (N := 13) hx hb hts (mc_ inX9) hown hK g ma_5 ka_5 (by decide) rfl 9 (by decide) rfl (hts _ (List.mem_cons_of_mem _ t_505)) (fun _ h9 => h9) rfl dX3_tellingOf_15 (fun a_6 ma_6 ka_6 g => ?_)
  refine lv_iload_n hx hb dX3_tellingOf_18 rfl (lv_at hl 3 rfl) ?_
  refine g_iald hx hb hK g ma_6 ka_6 (by decide) rfl (in_bd bx3_ (by decide)) dX3_tellingOf_19 (fun x_7 bx_7 cx_7 => ?_)
  refine g_aald hx hb hK g ma_1 ka_1 (by decide) rfl (by decide) (in_bd bx_7 (by decide)) dX3_tellingOf_20 (fun a_8 ma_8 ua_8 wa_8 => ?_)
  have ka_8 : kd a_8 = 6 := by omega
  subst hQ
  exact W.aret (v := .ref a_8) hx hb hr (Or.inl ⟨_, rfl⟩) (Or.inr ⟨_, rfl⟩) (fun t ht hW => ⟨⟨_, _, rfl, trivial, ⟨ma_8, ka_8⟩, q3_of g hK ht hW⟩, g.2.2.1.F ht⟩) g.2.2.1.2.2 dX3_tellingOf_21
set_option maxHeartbeats 4000000 in
set_option maxRecDepth 100000 in
theorem r_X3_lowerOneQ (l : Launch) (dC : Nat → ClassId) (dI : Nat → Nat → Nat) (L : List Nat) (kd : Nat → Nat) (tys : List (ClassId × FieldType)) (f0 : Nat → va_E) (sz : Nat) (hWT : WT L kd tys f0) (a0_ : Nat) (ma0_ : a0_ ∈ L) (ka0_ : kd a0_ = 3) (p_ : Nat) (mp_ : p_ ∈ L) (kp_ : kd p_ = 124) (m_ : Nat) (mm_ : m_ ∈ L) (km_ : kd m_ = 123) (A_ : Nat → Nat) (Q_ : RQ) (n_ : Int32) (bn_ : bd 0 10 n_) (k_ : Int32) (bk_ : bd 0 3 k_) (hJ_ : arP f0 p_ A_) (hQ_ : isQ L kd f0 m_ A_ Q_) (hw : wQ Q_ n_ k_) (x1_ : Nat) (mx1_ : x1_ ∈ L) (kx1_ : kd x1_ = 7) (x2_ : Nat) (mx2_ : x2_ ∈ L) (kx2_ : kd x2_ = 3) (p9_ : Nat) (mp9_ : p9_ ∈ L) (kp9_ : kd p9_ = 124) (m9_ : Nat) (mm9_ : m9_ ∈ L) (km9_ : kd m9_ = 123) (A9_ : Nat → Nat) (Q9_ : RQ) (n9_ : Int32) (bn9_ : bd 0 10 n9_) (k9_ : Int32) (bk9_ : bd 0 3 k9_) (hJ9_ : arP f0 p9_ A9_) (hQ9_ : isQ L kd f0 m9_ A9_ Q9_) (hw9 : wQ Q9_ n9_ k9_) (hap : a0_ ≠ x2_ ∧ m_ ≠ m9_ ∧ ∀ i j, i < 10 → j < 10 → A_ i ≠ A9_ j) (x3_ : Int32) (bx3_ : bd 0 9 x3_) (x4_ : Int32) (bx4_ : bd 0 2 x4_) (x5_ : Int32) (bx5_ : bd 0 1 x5_) (hfx : Fs L kd f0 [(3, 0, a0_, .int n_), (3, 4, a0_, .int k_), (3, 2, a0_, .ref m_), (3, 3, a0_, .ref p_), (3, 0, x2_, .int n9_), (3, 4, x2_, .int k9_), (3, 2, x2_, .ref m9_), (3, 3, x2_, .ref p9_)]) : Met l yX3_lowerOne (.code yX3_lowerOne cX3_lowerOne 13 (some .boolean) :: lw_g) ({ frames := 2, cells := 0, slots := 0, locals := 62 }) (va_Pc [.ref a0_, .ref x1_, .ref x2_, .int x3_, .int x4_, .int x5_] (P3 (dC, dI) L tys f0 sz)) (va_Qi (fun (r : Int32) (f : Nat → va_E) => ((rowT L kd f0 f a0_ m_ A_ (fun Q1 n1 k1 => wQ Q1 n1 k1)) ∧ bd 0 1 r ∧ True)) (Q3 (dC, dI) L kd tys [(3, 0), (3, 4)] [103, 122, 123, 125] f0 sz) (pA L sz)) 0 0 (pA L sz) := by
  refine Met.ofW (cc := cX3_lowerOne) (maxL := 13) (ret := (some .boolean)) (by decide) rfl ?_
  intro p e s m args below meth c s₁ B hml hv
  obtain ⟨rfl, hsz, hP, hK, hD0⟩ := hv
  have hx := B.exec
  have hb := B.bytes
  have hr := B.returns
  have hts := atoms_spec (ws := (.code yX3_lowerOne cX3_lowerOne 13 (some .boolean) :: lw_g)) B.pre
  have hown : s.vm.findClass RX3 = some m.cls := findClass_of_methodNamed B.named
  have hlocks := B.notSynchronized
  subst hsz
  have g : G3 (dC, dI) L kd tys s f0 [(3, 0), (3, 4)] [103, 122, 123, 125] f0 s.heap [] [(3, 0, a0_, .int n_), (3, 4, a0_, .int k_), (3, 2, a0_, .ref m_), (3, 3, a0_, .ref p_), (3, 0, x2_, .int n9_), (3, 4, x2_, .int k9_), (3, 2, x2_, .ref m9_), (3, 3, x2_, .ref p9_)] := G3.start hP hD0 hWT hfx
  have hl := lv_entry ([.ref a0_, .ref x1_, .ref x2_, .int x3_, .int x4_, .int x5_]) (n := 13) (Nat.le_of_ble_eq_true rfl)
  rw [lg_entry_eq]
  generalize (lg_sl ([.ref a0_, .ref x1_, .ref x2_, .int x3_, .int x4_, .int x5_]) ++ List.replicate (13 - (lg_sl ([.ref a0_, .ref x1_, .ref x2_, .int x3_, .int x4_, .int x5_])).length) Slot.unset).toArray = ls at hl ⊢
  have hl : lv_has ls 13 [(0, .ref a0_), (1, .ref x1_), (2, .ref x2_), (3, .int x3_), (4, .int x4_), (5, .int x5_)] := hl
  refine W_q (fun Q hQ => ?_)
  have hU_0 : QR L kd f0 f0 a0_ m_ A_ := QR.refl
  refine lv_iload_n hx hb dX3_lowerOne_0 rfl (lv_at hl 3 rfl) ?_
  refine lv_aload_n hx hb dX3_lowerOne_1 rfl (lv_at hl 2 rfl) ?_
  refine g_getk (C := RX3) (T := TX3) (N := 6) hx hb hts (mc_ inX3) hown hK g rfl 0 (by decide) rfl (hts _ (List.mem_cons_of_mem _ t_801)) (fun _ h9 => h9) 4 rfl dX3_lowerOne_2 ?_
  refine lv_icmp_ge (tgt := 18) hx hb dX3_lowerOne_5 (by decide) (fun c_1 => ?_) (fun c_1 => ?_)
  · have fc_1 := le_f c_1
    have b_2 : bd 0 9 n9_ := leL fc_1 bn9_ bx3_ (by decide)
    refine lv_iconst (v := 0) hx hb dX3_lowerOne_18 (by decide) ?_
    have kb_0 : bd 0 0 (0 : Int32) := ⟨by decide, by decide⟩
    subst hQ
    exact W.zret (v := 0) hx hb hr (nar_z (bd_sub kb_0 (by decide) : bd 0 1 _).1 (bd_sub kb_0 (by decide) : bd 0 1 _).2) (fun t ht hW => ⟨⟨_, _, rfl, ⟨⟨Q_, n_, k_, hQ_, hU_0, (fx_at g (i := 0) rfl).2.2.2, (fx_at g (i := 1) rfl).2.2.2, bn_, bk_, hw⟩, (bd_sub kb_0 (by decide)), trivial⟩, q3_of g hK ht hW⟩, g.2.2.1.F ht⟩) g.2.2.1.2.2 dX3_lowerOne_19
  · have fc_1 := nle_f c_1
    have b_3 : bd 1 10 n9_ := ltR fc_1 bx3_ bn9_ (by decide)
    refine lv_aload_n hx hb dX3_lowerOne_8 rfl (lv_at hl 2 rfl) ?_
    refine g_getk (C := RX3) (T := TX3) (N := 6) hx hb hts (mc_ inX3) hown hK g rfl 2 (by decide) rfl (hts _ (List.mem_cons_of_mem _ t_807)) (fun _ h9 => h9) 6 rfl dX3_lowerOne_9 ?_
    refine lv_iload_n hx hb dX3_lowerOne_12 rfl (lv_at hl 3 rfl) ?_
    refine g_iald hx hb hK g mm9_ km9_ (by decide) rfl (in_bd bx3_ (by decide)) dX3_lowerOne_13 (fun x_4 bx_4 cx_4 => ?_)
    have vx_4 : x_4 = Q9_.1 x3_.toNatClampNeg := cx_4.trans (hQ9_.2.2.2.2.1 _)
    refine lv_iconst (v := (-1)) hx hb dX3_lowerOne_14 (by decide) ?_
    have kb_m1 : bd (-1) (-1) ((-1) : Int32) := ⟨by decide, by decide⟩
    refine lv_icmp_ne (tgt := 20) hx hb dX3_lowerOne_15 (by decide) (fun c_5 => ?_) (fun c_5 => ?_)
    · have fc_5 := neq_f c_5
      have b_6 : bd 0 11 x_4 := neX fc_5 bx_4 kb_m1 (by decide)
      refine lv_aload_n hx hb dX3_lowerOne_20 rfl (lv_at hl 2 rfl) ?_
      refine lv_aload_n hx hb dX3_lowerOne_21 rfl (lv_at hl 1 rfl) ?_
      refine lv_aload_n hx hb dX3_lowerOne_22 rfl (lv_at hl 2 rfl) ?_
      refine g_getr (K := 122) (C := RX3) (T := TX3) (N := 6) hx hb hts (mc_ inX3) hown hK g mx2_ kx2_ (by decide) rfl 1 (by decide) rfl (hts _ (List.mem_cons_of_mem _ t_804)) (fun _ h9 => h9) rfl dX3_lowerOne_23 (fun a_7 ma_7 ka_7 g => ?_)
      refine lv_iload_n hx hb dX3_lowerOne_26 rfl (lv_at hl 3 rfl) ?_
      refine g_iald hx hb hK g ma_7 ka_7 (by decide) rfl (in_bd bx3_ (by decide)) dX3_lowerOne_27 (fun x_8 bx_8 cx_8 => ?_)
      refine lv_aload_n hx hb dX3_lowerOne_28 rfl (lv_at hl 2 rfl) ?_
      refine g_getk (C := RX3) (T := TX3) (N := 6) hx hb hts (mc_ inX3) hown hK g rfl 2 (by decide) rfl (hts _ (List.mem_cons_of_mem _ t_807)) (fun _ h9 => h9) 7 rfl dX3_lowerOne_29 ?_
      refine lv_iload_n hx hb dX3_lowerOne_32 rfl (lv_at hl 3 rfl) ?_
      refine g_iald hx hb hK g mm9_ km9_ (by decide) rfl (in_bd bx3_ (by decide)) dX3_lowerOne_33 (fun x_9 bx_9 cx_9 => ?_)
      obtain rfl : x_4 = x_9 := el_same cx_4 cx_9 rfl
      have go_ := g
      refine g_callr (va_runV (As := [.ref x1_, .int x_8, .int x_4]) (rest := []) ⟨hx, hb, hml, hown, hts⟩ (r_X3_tellingOf_3 l dC dI L kd tys f0 s.heap.size g.2.2.2.1 x2_ mx2_ kx2_ x1_ mx1_ kx1_ x_8 bx_8 x_4 b_6 n9_ b_3 (g.fcts [5] rfl)) (cwV 3 hts (gV_ t_1498 t_1500 t_53 t_196 t_1501) rfl rfl rfl (by decide +kernel) ⟨(Nat.le_of_ble_eq_true rfl), (Nat.le_of_ble_eq_true rfl)⟩) (pre3V g hK mx2_ kx2_ (by decide) (q := (RX3, TX3, 6)) rfl) rfl rfl hl.1 rfl (lv_room (Nat.le_of_ble_eq_true rfl)) dX3_lowerOne_34 ⟨(Nat.le_of_ble_eq_true rfl), (Nat.le_of_ble_eq_true rfl)⟩) g hK (by decide) (by decide) (fx' := [(3, 1, x2_, .ref a_7), (3, 0, a0_, .int n_), (3, 4, a0_, .int k_), (3, 2, a0_, .ref m_), (3, 3, a0_, .ref p_), (3, 0, x2_, .int n9_), (3, 4, x2_, .int k9_), (3, 2, x2_, .ref m9_), (3, 3, x2_, .ref p9_)]) rfl (fun r_10 fr_10 H locs hp hMr_10 g => ?_)
      have hG_11 := isQ.frame hMr_10 go_.2.2.2.1 ma0_ ka0_ (by decide) (by decide) hQ_
      have hG_12 := arP.frame hMr_10 go_.2.2.2.1 mp_ kp_ (by decide) (by decide) hJ_
      have hG_13 := isQ.frame hMr_10 go_.2.2.2.1 mx2_ kx2_ (by decide) (by decide) hQ9_
      have hG_14 := arP.frame hMr_10 go_.2.2.2.1 mp9_ kp9_ (by decide) (by decide) hJ9_
      have hG_15 := QR.frame hMr_10 go_.2.2.2.1 ma0_ ka0_ (by decide) (by decide) hU_0
      obtain ⟨mr_10, kr_10⟩ := hp
      refine lv_astore (lv' := [(6, .ref r_10), (0, .ref a0_), (1, .ref x1_), (2, .ref x2_), (3, .int x3_), (4, .int x4_), (5, .int x5_)]) hx hb dX3_lowerOne_37 hl (by decide) rfl (fun ls hl => ?_)
      refine lv_iload hx hb dX3_lowerOne_39 (lv_at hl 5 rfl) ?_
      refine lv_aload hx hb dX3_lowerOne_41 (lv_at hl 0 rfl) ?_
      refine g_geti (C := RX6) (T := TX6) (N := 13) hx hb hts (mc_ inX6) hown hK g mr_10 kr_10 (by decide) rfl 3 (by decide) rfl (hts _ (List.mem_cons_of_mem _ t_565)) (fun _ h9 => h9) rfl dX3_lowerOne_43 (fun x_16 bx_16 g => ?_)
      refine lv_icmp_lt (tgt := 51) hx hb dX3_lowerOne_46 (by decide) (fun c_17 => ?_) (fun c_17 => ?_)
      · have fc_17 := lt_f c_17
        have b_18 : bd 1 3 x_16 := ltR fc_17 bx4_ bx_16 (by decide)
        refine lv_aload hx hb dX3_lowerOne_51 (lv_at hl 0 rfl) ?_
        refine lv_iload hx hb dX3_lowerOne_53 (lv_at hl 5 rfl) ?_
        have go_ := g
        refine g_calli (va_runV (As := [.int x4_]) (rest := []) ⟨hx, hb, hml, hown, hts⟩ (r_X6_firstOf l dC dI L kd tys fr_10 H.size g.2.2.2.1 r_10 mr_10 kr_10 x4_) (cwV 1 hts (gV_ t_1783 t_1693 t_1694 t_193 t_1695) rfl rfl rfl (by decide +kernel) ⟨(Nat.le_of_ble_eq_true rfl), (Nat.le_of_ble_eq_true rfl)⟩) (pre3V g hK mr_10 kr_10 (by decide) (q := (RX6, TX6, 13)) rfl) rfl rfl hl.1 rfl (lv_room (Nat.le_of_ble_eq_true rfl)) dX3_lowerOne_55 ⟨(Nat.le_of_ble_eq_true rfl), (Nat.le_of_ble_eq_true rfl)⟩) g hK (by decide) (by decide) (fx' := [(6, 3, r_10, .int x_16), (3, 1, x2_, .ref a_7), (3, 0, a0_, .int n_), (3, 4, a0_, .int k_), (3, 2, a0_, .ref m_), (3, 3, a0_, .ref p_), (3, 0, x2_, .int n9_), (3, 4, x2_, .int k9_), (3, 2, x2_, .ref m9_), (3, 3, x2_, .ref p9_)]) rfl (fun r_19 fr_19 H locs hp hMr_19 g => ?_)
        have hG_20 := isQ.frame hMr_19 go_.2.2.2.1 ma0_ ka0_ (by decide) (by decide) hG_11
        have hG_21 := arP.frame hMr_19 go_.2.2.2.1 mp_ kp_ (by decide) (by decide) hG_12
        have hG_22 := isQ.frame hMr_19 go_.2.2.2.1 mx2_ kx2_ (by decide) (by decide) hG_13
        have hG_23 := arP.frame hMr_19 go_.2.2.2.1 mp9_ kp9_ (by decide) (by decide) hG_14
        have hG_24 := QR.frame hMr_19 go_.2.2.2.1 ma0_ ka0_ (by decide) (by decide) hG_15
        refine lv_i2l hx hb dX3_lowerOne_58 rfl ?_
        refine lv_topl (fun y_25 ey_25 => ?_)
        refine lv_lstore (lv' := [(7, .long y_25), (6, .ref r_10), (0, .ref a0_), (1, .ref x1_), (2, .ref x2_), (3, .int x3_), (4, .int x4_), (5, .int x5_)]) hx hb dX3_lowerOne_59 hl (by decide) rfl (fun ls hl => ?_)
        refine lv_aload_n hx hb dX3_lowerOne_61 rfl (lv_at hl 4 rfl) ?_
        refine g_getk (C := RX3) (T := TX3) (N := 6) hx hb hts (mc_ inX3) hown hK g rfl 3 (by decide) rfl (hts _ (List.mem_cons_of_mem _ t_810)) (fun _ h9 => h9) 9 rfl dX3_lowerOne_62 ?_
        refine lv_iload_n hx hb dX3_lowerOne_65 rfl (lv_at hl 5 rfl) ?_
        refine g_aaldX hx hb hK g mp9_ kp9_ (by decide) rfl (by decide) (in_bd bx3_ (by decide)) dX3_lowerOne_66 (fun a_26 ea_26 ma_26 ua_26 wa_26 => ?_)
        have ka_26 : kd a_26 = 103 := by omega
        have lta_26 : x3_.toNatClampNeg < 10 := in_toNat (in_bd bx3_ (by decide))
        have qa_26 : a_26 = A9_ x3_.toNatClampNeg := ea_26.trans (hG_23 _ lta_26)
        refine lv_iload hx hb dX3_lowerOne_67 (lv_at hl 6 rfl) ?_
        refine g_iald hx hb hK g ma_26 ka_26 (by decide) rfl (in_bd bx4_ (by decide)) dX3_lowerOne_69 (fun x_27 bx_27 cx_27 => ?_)
        refine lv_i2l hx hb dX3_lowerOne_70 rfl ?_
        refine lv_topl (fun y_28 ey_28 => ?_)
        refine lv_lstore (lv' := [(9, .long y_28), (7, .long y_25), (6, .ref r_10), (0, .ref a0_), (1, .ref x1_), (2, .ref x2_), (3, .int x3_), (4, .int x4_), (5, .int x5_)]) hx hb dX3_lowerOne_71 hl (by decide) rfl (fun ls hl => ?_)
        refine lv_iload hx hb dX3_lowerOne_73 (lv_at hl 8 rfl) ?_
        have kb_0 : bd 0 0 (0 : Int32) := ⟨by decide, by decide⟩
        refine lv_if_eq (tgt := 93) hx hb dX3_lowerOne_75 (by decide) (fun c_29 => ?_) (fun c_29 => ?_)
        · have fc_29 := eq_f c_29
          have b_30 : bd 0 0 x5_ := eqX fc_29 bx5_ kb_0 (by decide)
          refine lv_lload hx hb dX3_lowerOne_93 (lv_at hl 1 rfl) ?_
          refine lv_lstore (lv' := [(11, .long y_25), (9, .long y_28), (7, .long y_25), (6, .ref r_10), (0, .ref a0_), (1, .ref x1_), (2, .ref x2_), (3, .int x3_), (4, .int x4_), (5, .int x5_)]) hx hb dX3_lowerOne_95 hl (by decide) rfl (fun ls hl => ?_)
          refine lv_lload hx hb dX3_lowerOne_97 (lv_at hl 0 rfl) ?_
          refine lv_lload hx hb dX3_lowerOne_99 (lv_at hl 1 rfl) ?_
          refine W.lcmp hx hb dX3_lowerOne_101 ?_
          refine lv_if_ne (tgt := 107) hx hb dX3_lowerOne_102 (by decide) (fun c_31 => ?_) (fun c_31 => ?_)
          · refine lv_aload_n hx hb dX3_lowerOne_107 rfl (lv_at hl 4 rfl) ?_
            refine lv_aload_n hx hb dX3_lowerOne_108 rfl (lv_at hl 6 rfl) ?_
            have ho_32 := (fx_at g (i := 6) rfl).2.2.2
            have ho_33 := (fx_at g (i := 7) rfl).2.2.2
            have go_ := g
            refine g_callv (va_runV (As := [.ref x2_]) (rest := []) ⟨hx, hb, hml, hown, hts⟩ (r_X3_copyFromQ l dC dI L kd tys fr_19 H.size g.2.2.2.1 a0_ ma0_ ka0_ p_ mp_ kp_ m_ mm_ km_ A_ Q_ n_ bn_ k_ bk_ hG_21 hG_20 x2_ mx2_ kx2_ p9_ mp9_ kp9_ m9_ mm9_ km9_ A9_ Q9_ n9_ (bd_sub b_3 (by decide)) k9_ bk9_ hG_23 hG_22 hw9 hap (g.fcts [2, 3, 4, 5, 6, 7, 8, 9] rfl)) (cwV 1 hts (gV_ t_1785 t_1732 t_1733 t_196 t_1734) rfl rfl rfl (by decide +kernel) ⟨(Nat.le_of_ble_eq_true rfl), (Nat.le_of_ble_eq_true rfl)⟩) (pre3V g hK ma0_ ka0_ (by decide) (q := (RX3, TX3, 6)) rfl) rfl rfl hl.1 rfl (lv_room (Nat.le_of_ble_eq_true rfl)) dX3_lowerOne_109 ⟨(Nat.le_of_ble_eq_true rfl), (Nat.le_of_ble_eq_true rfl)⟩) g hK (by decide) (by decide) (fx' := [(6, 3, r_10, .int x_16), (3, 1, x2_, .ref a_7), (3, 2, a0_, .ref m_), (3, 3, a0_, .ref p_), (3, 2, x2_, .ref m9_), (3, 3, x2_, .ref p9_)]) rfl (fun fr_34 H locs hp hMr_34 g => ?_)
            obtain ⟨hx_35, -⟩ := hp
            have hG_36 := arP.frame hMr_34 go_.2.2.2.1 mp_ kp_ (by decide) (by decide) hG_21
            have hG_37 := arP.frame hMr_34 go_.2.2.2.1 mp9_ kp9_ (by decide) (by decide) hG_23
            obtain ⟨Q_38, n_39, k_40, hQ_41, hU_42, h0_43, h4_44, b0_45, b4_46, hP_47⟩ := hx_35
            have hU_48 := QR.tr hG_24 hU_42
            have g := G3.add g ma0_ ka0_ (by decide) h0_43
            have g := G3.add g ma0_ ka0_ (by decide) h4_44
            have hQ_49 := QR.oth hU_42 hG_22 hap.2.1 hap.2.2
            have g := G3.add g mx2_ kx2_ (by decide) (((hU_42 x2_ mx2_).1 kx2_ (fun z => hap.1 z.symm) 0).trans ho_32)
            have g := G3.add g mx2_ kx2_ (by decide) (((hU_42 x2_ mx2_).1 kx2_ (fun z => hap.1 z.symm) 4).trans ho_33)
            refine lv_aload_n hx hb dX3_lowerOne_112 rfl (lv_at hl 4 rfl) ?_
            refine g_getk (C := RX3) (T := TX3) (N := 6) hx hb hts (mc_ inX3) hown hK g rfl 3 (by decide) rfl (hts _ (List.mem_cons_of_mem _ t_810)) (fun _ h9 => h9) 7 rfl dX3_lowerOne_113 ?_
            refine lv_iload_n hx hb dX3_lowerOne_116 rfl (lv_at hl 7 rfl) ?_
            refine g_aaldX hx hb hK g mp_ kp_ (by decide) rfl (by decide) (in_bd bx3_ (by decide)) dX3_lowerOne_117 (fun a_52 ea_52 ma_52 ua_52 wa_52 => ?_)
            have ka_52 : kd a_52 = 103 := by omega
            have lta_52 : x3_.toNatClampNeg < 10 := in_toNat (in_bd bx3_ (by decide))
            have qa_52 : a_52 = A_ x3_.toNatClampNeg := ea_52.trans (hG_36 _ lta_52)
            refine lv_iload hx hb dX3_lowerOne_118 (lv_at hl 8 rfl) ?_
            refine lv_lload hx hb dX3_lowerOne_120 (lv_at hl 0 rfl) ?_
            refine lv_l2i hx hb dX3_lowerOne_122 rfl ?_
            refine lv_topi (fun y_53 ey_53 => ?_)
            have go_ := g
            refine g_iastX hx hb hK g ma_52 ka_52 (by decide) rfl (in_bd bx4_ (by decide)) (bdT y_53) (by decide) dX3_lowerOne_123 (fun f H locs hM_54 u_57 g => ?_)
            have hG_55 := arP.frame hM_54 go_.2.2.2.1 mp_ kp_ (by decide) (by decide) hG_36
            have hG_56 := arP.frame hM_54 go_.2.2.2.1 mp9_ kp9_ (by decide) (by decide) hG_37
            obtain ⟨y_60, hQ_58⟩ := isQ.ux hQ_41 lta_52 qa_52 u_57.1
            have hU_59 := QR.arg hU_48 lta_52 qa_52 u_57.1 ka_52
            have hQ_61 := isQ.oth hQ_49 u_57.1 (fun z => by have h9 := hQ_49.2.1; rw [z] at h9; have h8 := ka_52; omega) (fun i9 h9 z => hap.2.2 _ i9 lta_52 h9 (qa_52.symm.trans z.symm))
            have hw_62 : wQ (RQ.ua Q_38 x3_.toNatClampNeg y_60) n_39 k_40 := wQ.arg hP_47.1 (by rw [(hP_47.2.2.2 _ lta_52).1, ← vx_4]; have h9_0 := bk9_; unfold bd at h9_0; have h9_1 := bk_; unfold bd at h9_1; have h9_2 := b4_46; unfold bd at h9_2; have h9_3 := b_3; unfold bd at h9_3; have h9_4 := bn_; unfold bd at h9_4; have h9_5 := b0_45; unfold bd at h9_5; have h9_6 := bx3_; unfold bd at h9_6; have h9_7 := bx4_; unfold bd at h9_7; have h9_8 := b_30; unfold bd at h9_8; have h9_9 := b_18; unfold bd at h9_9; have h9_10 := b_6; unfold bd at h9_10; have h9_11 := bx_8; unfold bd at h9_11; have h9_12 := bx_9; unfold bd at h9_12; have h8_0 := kb_0; unfold bd at h8_0; have h8_1 := kb_m1; unfold bd at h8_1; omega)
            refine lv_iconst (v := 1) hx hb dX3_lowerOne_124 (by decide) ?_
            have kb_1 : bd 1 1 (1 : Int32) := ⟨by decide, by decide⟩
            subst hQ
            exact W.zret (v := 1) hx hb hr (nar_z (bd_sub kb_1 (by decide) : bd 0 1 _).1 (bd_sub kb_1 (by decide) : bd 0 1 _).2) (fun t ht hW => ⟨⟨_, _, rfl, ⟨⟨(RQ.ua Q_38 x3_.toNatClampNeg y_60), n_39, k_40, hQ_58, hU_59, (fx_at g (i := 3) rfl).2.2.2, (fx_at g (i := 2) rfl).2.2.2, b0_45, b4_46, hw_62⟩, (bd_sub kb_1 (by decide)), trivial⟩, q3_of g hK ht hW⟩, g.2.2.1.F ht⟩) g.2.2.1.2.2 dX3_lowerOne_125
          · refine lv_iconst (v := 0) hx hb dX3_lowerOne_105 (by decide) ?_
            subst hQ
            exact W.zret (v := 0) hx hb hr (nar_z (bd_sub kb_0 (by decide) : bd 0 1 _).1 (bd_sub kb_0 (by decide) : bd 0 1 _).2) (fun t ht hW => ⟨⟨_, _, rfl, ⟨⟨Q_, n_, k_, hG_20, hG_24, (fx_at g (i := 2) rfl).2.2.2, (fx_at g (i := 3) rfl).2.2.2, bn_, bk_, hw⟩, (bd_sub kb_0 (by decide)), trivial⟩, q3_of g hK ht hW⟩, g.2.2.1.F ht⟩) g.2.2.1.2.2 dX3_lowerOne_106
        · have fc_29 := neq_f c_29
          have b_63 : bd 1 1 x5_ := neX fc_29 bx5_ kb_0 (by decide)
          refine lv_lload hx hb dX3_lowerOne_78 (lv_at hl 1 rfl) ?_
          refine lv_lload hx hb dX3_lowerOne_80 (lv_at hl 0 rfl) ?_
          refine lv_lload hx hb dX3_lowerOne_82 (lv_at hl 1 rfl) ?_
          refine lv_lsub hx hb dX3_lowerOne_84 ?_
          refine lv_topl (fun y_64 ey_64 => ?_)
          refine lv_ldc2 (v := 2) hx hb hown (hts _ (List.mem_cons_of_mem _ t_1784)) dX3_lowerOne_85 ?_
          refine lv_ldiv hx hb dX3_lowerOne_88 (by decide) ?_
          refine lv_topl (fun y_65 ey_65 => ?_)
          refine lv_ladd hx hb dX3_lowerOne_89 ?_
          refine lv_topl (fun y_66 ey_66 => ?_)
          refine lv_goto (tgt := 95) hx hb dX3_lowerOne_90 (by decide) ?_
          refine lv_lstore (lv' := [(11, .long y_66), (9, .long y_28), (7, .long y_25), (6, .ref r_10), (0, .ref a0_), (1, .ref x1_), (2, .ref x2_), (3, .int x3_), (4, .int x4_), (5, .int x5_)]) hx hb dX3_lowerOne_95 hl (by decide) rfl (fun ls hl => ?_)
          refine lv_lload hx hb dX3_lowerOne_97 (lv_at hl 0 rfl) ?_
          refine lv_lload hx hb dX3_lowerOne_99 (lv_at hl 1 rfl) ?_
          refine W.lcmp hx hb dX3_lowerOne_101 ?_
          refine lv_if_ne (tgt := 107) hx hb dX3_lowerOne_102 (by decide) (fun c_67 => ?_) (fun c_67 => ?_)
          · refine lv_aload_n hx hb dX3_lowerOne_107 rfl (lv_at hl 4 rfl) ?_
            refine lv_aload_n hx hb dX3_lowerOne_108 rfl (lv_at hl 6 rfl) ?_
            have ho_68 := (fx_at g (i := 6) rfl).2.2.2
            have ho_69 := (fx_at g (i := 7) rfl).2.2.2
            have go_ := g
            refine g_callv (va_runV (As := [.ref x2_]) (rest := []) ⟨hx, hb, hml, hown, hts⟩ (r_X3_copyFromQ l dC dI L kd tys fr_19 H.size g.2.2.2.1 a0_ ma0_ ka0_ p_ mp_ kp_ m_ mm_ km_ A_ Q_ n_ bn_ k_ bk_ hG_21 hG_20 x2_ mx2_ kx2_ p9_ mp9_ kp9_ m9_ mm9_ km9_ A9_ Q9_ n9_ (bd_sub b_3 (by decide)) k9_ bk9_ hG_23 hG_22 hw9 hap (g.fcts [2, 3, 4, 5, 6, 7, 8, 9] rfl)) (cwV 1 hts (gV_ t_1785 t_1732 t_1733 t_196 t_1734) rfl rfl rfl (by decide +kernel) ⟨(Nat.le_of_ble_eq_true rfl), (Nat.le_of_ble_eq_true rfl)⟩) (pre3V g hK ma0_ ka0_ (by decide) (q := (RX3, TX3, 6)) rfl) rfl rfl hl.1 rfl (lv_room (Nat.le_of_ble_eq_true rfl)) dX3_lowerOne_109 ⟨(Nat.le_of_ble_eq_true rfl), (Nat.le_of_ble_eq_true rfl)⟩) g hK (by decide) (by decide) (fx' := [(6, 3, r_10, .int x_16), (3, 1, x2_, .ref a_7), (3, 2, a0_, .ref m_), (3, 3, a0_, .ref p_), (3, 2, x2_, .ref m9_), (3, 3, x2_, .ref p9_)]) rfl (fun fr_70 H locs hp hMr_70 g => ?_)
            obtain ⟨hx_71, -⟩ := hp
            have hG_72 := arP.frame hMr_70 go_.2.2.2.1 mp_ kp_ (by decide) (by decide) hG_21
            have hG_73 := arP.frame hMr_70 go_.2.2.2.1 mp9_ kp9_ (by decide) (by decide) hG_23
            obtain ⟨Q_74, n_75, k_76, hQ_77, hU_78, h0_79, h4_80, b0_81, b4_82, hP_83⟩ := hx_71
            have hU_84 := QR.tr hG_24 hU_78
            have g := G3.add g ma0_ ka0_ (by decide) h0_79
            have g := G3.add g ma0_ ka0_ (by decide) h4_80
            have hQ_85 := QR.oth hU_78 hG_22 hap.2.1 hap.2.2
            have g := G3.add g mx2_ kx2_ (by decide) (((hU_78 x2_ mx2_).1 kx2_ (fun z => hap.1 z.symm) 0).trans ho_68)
            have g := G3.add g mx2_ kx2_ (by decide) (((hU_78 x2_ mx2_).1 kx2_ (fun z => hap.1 z.symm) 4).trans ho_69)
            refine lv_aload_n hx hb dX3_lowerOne_112 rfl (lv_at hl 4 rfl) ?_
            refine g_getk (C := RX3) (T := TX3) (N := 6) hx hb hts (mc_ inX3) hown hK g rfl 3 (by decide) rfl (hts _ (List.mem_cons_of_mem _ t_810)) (fun _ h9 => h9) 7 rfl dX3_lowerOne_113 ?_
            refine lv_iload_n hx hb dX3_lowerOne_116 rfl (lv_at hl 7 rfl) ?_
            refine g_aaldX hx hb hK g mp_ kp_ (by decide) rfl (by decide) (in_bd bx3_ (by decide)) dX3_lowerOne_117 (fun a_88 ea_88 ma_88 ua_88 wa_88 => ?_)
            have ka_88 : kd a_88 = 103 := by omega
            have lta_88 : x3_.toNatClampNeg < 10 := in_toNat (in_bd bx3_ (by decide))
            have qa_88 : a_88 = A_ x3_.toNatClampNeg := ea_88.trans (hG_72 _ lta_88)
            refine lv_iload hx hb dX3_lowerOne_118 (lv_at hl 8 rfl) ?_
            refine lv_lload hx hb dX3_lowerOne_120 (lv_at hl 0 rfl) ?_
            refine lv_l2i hx hb dX3_lowerOne_122 rfl ?_
            refine lv_topi (fun y_89 ey_89 => ?_)
            have go_ := g
            refine g_iastX hx hb hK g ma_88 ka_88 (by decide) rfl (in_bd bx4_ (by decide)) (bdT y_89) (by decide) dX3_lowerOne_123 (fun f H locs hM_90 u_93 g => ?_)
            have hG_91 := arP.frame hM_90 go_.2.2.2.1 mp_ kp_ (by decide) (by decide) hG_72
            have hG_92 := arP.frame hM_90 go_.2.2.2.1 mp9_ kp9_ (by decide) (by decide) hG_73
            obtain ⟨y_96, hQ_94⟩ := isQ.ux hQ_77 lta_88 qa_88 u_93.1
            have hU_95 := QR.arg hU_84 lta_88 qa_88 u_93.1 ka_88
            have hQ_97 := isQ.oth hQ_85 u_93.1 (fun z => by have h9 := hQ_85.2.1; rw [z] at h9; have h8 := ka_88; omega) (fun i9 h9 z => hap.2.2 _ i9 lta_88 h9 (qa_88.symm.trans z.symm))
            have hw_98 : wQ (RQ.ua Q_74 x3_.toNatClampNeg y_96) n_75 k_76 := wQ.arg hP_83.1 (by rw [(hP_83.2.2.2 _ lta_88).1, ← vx_4]; have h9_0 := bk9_; unfold bd at h9_0; have h9_1 := bk_; unfold bd at h9_1; have h9_2 := b4_82; unfold bd at h9_2; have h9_3 := b_3; unfold bd at h9_3; have h9_4 := bn_; unfold bd at h9_4; have h9_5 := b0_81; unfold bd at h9_5; have h9_6 := bx3_; unfold bd at h9_6; have h9_7 := bx4_; unfold bd at h9_7; have h9_8 := b_63; unfold bd at h9_8; have h9_9 := b_18; unfold bd at h9_9; have h9_10 := b_6; unfold bd at h9_10; have h9_11 := bx_8; unfold bd at h9_11; have h9_12 := bx_9; unfold bd at h9_12; have h8_0 := kb_0; unfold bd at h8_0; have h8_1 := kb_m1; unfold bd at h8_1; omega)
            refine lv_iconst (v := 1) hx hb dX3_lowerOne_124 (by decide) ?_
            have kb_1 : bd 1 1 (1 : Int32) := ⟨by decide, by decide⟩
            subst hQ
            exact W.zret (v := 1) hx hb hr (nar_z (bd_sub kb_1 (by decide) : bd 0 1 _).1 (bd_sub kb_1 (by decide) : bd 0 1 _).2) (fun t ht hW => ⟨⟨_, _, rfl, ⟨⟨(RQ.ua Q_74 x3_.toNatClampNeg y_96), n_75, k_76, hQ_94, hU_95, (fx_at g (i := 3) rfl).2.2.2, (fx_at g (i := 2) rfl).2.2.2, b0_81, b4_82, hw_98⟩, (bd_sub kb_1 (by decide)), trivial⟩, q3_of g hK ht hW⟩, g.2.2.1.F ht⟩) g.2.2.1.2.2 dX3_lowerOne_125
          · refine lv_iconst (v := 0) hx hb dX3_lowerOne_105 (by decide) ?_
            subst hQ
            exact W.zret (v := 0) hx hb hr (nar_z (bd_sub kb_0 (by decide) : bd 0 1 _).1 (bd_sub kb_0 (by decide) : bd 0 1 _).2) (fun t ht hW => ⟨⟨_, _, rfl, ⟨⟨Q_, n_, k_, hG_20, hG_24, (fx_at g (i := 2) rfl).2.2.2, (fx_at g (i := 3) rfl).2.2.2, bn_, bk_, hw⟩, (bd_sub kb_0 (by decide)), trivial⟩, q3_of g hK ht hW⟩, g.2.2.1.F ht⟩) g.2.2.1.2.2 dX3_lowerOne_106
      · have fc_17 := nlt_f c_17
        have b_99 : bd 0 2 x_16 := leL fc_17 bx_16 bx4_ (by decide)
        refine lv_iconst (v := 0) hx hb dX3_lowerOne_49 (by decide) ?_
        have kb_0 : bd 0 0 (0 : Int32) := ⟨by decide, by decide⟩
        subst hQ
        exact W.zret (v := 0) hx hb hr (nar_z (bd_sub kb_0 (by decide) : bd 0 1 _).1 (bd_sub kb_0 (by decide) : bd 0 1 _).2) (fun t ht hW => ⟨⟨_, _, rfl, ⟨⟨Q_, n_, k_, hG_11, hG_15, (fx_at g (i := 2) rfl).2.2.2, (fx_at g (i := 3) rfl).2.2.2, bn_, bk_, hw⟩, (bd_sub kb_0 (by decide)), trivial⟩, q3_of g hK ht hW⟩, g.2.2.1.F ht⟩) g.2.2.1.2.2 dX3_lowerOne_50
    · have fc_5 := eq_f c_5
      have b_100 : bd (-1) (-1) x_4 := eqX fc_5 bx_4 kb_m1 (by decide)
      refine lv_iconst (v := 0) hx hb dX3_lowerOne_18 (by decide) ?_
      have kb_0 : bd 0 0 (0 : Int32) := ⟨by decide, by decide⟩
      subst hQ
      exact W.zret (v := 0) hx hb hr (nar_z (bd_sub kb_0 (by decide) : bd 0 1 _).1 (bd_sub kb_0 (by decide) : bd 0 1 _).2) (fun t ht hW => ⟨⟨_, _, rfl, ⟨⟨Q_, n_, k_, hQ_, hU_0, (fx_at g (i := 0) rfl).2.2.2, (fx_at g (i := 1) rfl).2.2.2, bn_, bk_, hw⟩, (bd_sub kb_0 (by decide)), trivial⟩, q3_of g hK ht hW⟩, g.2.2.1.F ht⟩) g.2.2.1.2.2 dX3_lowerOne_19
