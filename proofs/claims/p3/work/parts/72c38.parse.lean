set_option maxHeartbeats 4000000 in
set_option maxRecDepth 100000 in
theorem r_X11_classes (l : Launch) (dC : Nat → ClassId) (dI : Nat → Nat → Nat) (L : List Nat) (kd : Nat → Nat) (tys : List (ClassId × FieldType)) (f0 : Nat → va_E) (sz : Nat) (hWT : WT L kd tys f0) (adK adV : Nat → Nat) (a0_ : Nat) (ma0_ : a0_ ∈ L) (ka0_ : kd a0_ = 11) (q0_ : Nat) (mq0_ : q0_ ∈ L) (kq0_ : kd q0_ = 2) (q1_ : Nat) (mq1_ : q1_ ∈ L) (kq1_ : kd q1_ = 10) (q2_ : Nat) (mq2_ : q2_ ∈ L) (kq2_ : kd q2_ = 7) (q3_ : Nat) (mq3_ : q3_ ∈ L) (kq3_ : kd q3_ = 7) (q4_ : Nat) (mq4_ : q4_ ∈ L) (kq4_ : kd q4_ = 8) (q5_ : Nat) (mq5_ : q5_ ∈ L) (kq5_ : kd q5_ = 5) (q6_ : Nat) (mq6_ : q6_ ∈ L) (kq6_ : kd q6_ = 0) (q7_ : Nat) (mq7_ : q7_ ∈ L) (kq7_ : kd q7_ = 7) (T_ : Nat) (hGPq1_ : RP L kd f0 q1_) (hGdq3_ : dOK L kd f0 q3_ T_) (hGeq6_ : eOK f0 q6_) (hfx : Fs L kd f0 [(11, 2, a0_, .ref q0_), (11, 3, a0_, .ref q1_), (11, 4, a0_, .ref q2_), (11, 5, a0_, .ref q3_), (2, 0, q0_, .ref q4_), (2, 1, q0_, .ref q5_), (2, 2, q0_, .ref q6_), (10, 0, q1_, .ref q7_), (0, 0, q6_, .ref q4_), (0, 1, q6_, .ref q5_)]) : Met l yX11_classes (.code yX11_classes cX11_classes 2 (some .int) :: lw_g) ({ frames := 7, cells := 0, slots := 0, locals := 165 }) (va_Pc [.ref a0_] (P3A (dC, dI) L tys f0 sz adK adV)) (va_Qi (fun (r : Int32) (f : Nat → va_E) => (RP L kd f q1_ ∧ dOK L kd f q3_ T_ ∧ eOK f q6_ ∧ r = (-1) ∧ ∃ z0_ : Int32, bd 1 7 z0_ ∧ ∃ z2_ : Int32, bd 1201 1201 z2_ ∧ ∃ z3_ : Int32, bd 1 7 z3_ ∧ ∃ z4_ : Nat, (z4_ ∈ L ∧ kd z4_ = 9) ∧ ∃ z5_ : Nat, (z5_ ∈ L ∧ kd z5_ = 9) ∧ ∃ z6_ : Nat, (z6_ ∈ L ∧ kd z6_ = 6) ∧ ∃ z9_ : Nat, (z9_ ∈ L ∧ kd z9_ = 104) ∧ Fs L kd f [(11, 6, a0_, .int z0_), (11, 1, a0_, .int 0), (8, 6, q4_, .int z2_), (8, 8, q4_, .int z3_), (5, 1, q5_, .ref z4_), (2, 4, q0_, .ref z5_), (2, 5, q0_, .ref z6_), (5, 0, q5_, .ref q3_), (2, 3, q0_, .ref q3_), (8, 4, q4_, .ref z9_), (11, 4, a0_, .ref q2_), (11, 5, a0_, .ref q3_), (10, 0, q1_, .ref q7_)]) ∨ (RP L kd f q1_ ∧ dOK L kd f q3_ T_ ∧ eOK f q6_ ∧ (cOK f q3_) ∧ bd 1 8 r ∧ ∃ z6_ : Int32, bd 0 0 z6_ ∧ ∃ z8_ : Int32, bd 1 1201 z8_ ∧ ∃ z10_ : Int32, bd 1 8 z10_ ∧ ∃ z11_ : Int32, bd 0 7 z11_ ∧ ∃ z12_ : Nat, (z12_ ∈ L ∧ kd z12_ = 9) ∧ ∃ z13_ : Nat, (z13_ ∈ L ∧ kd z13_ = 9) ∧ ∃ z14_ : Nat, (z14_ ∈ L ∧ kd z14_ = 6) ∧ ∃ z17_ : Nat, (z17_ ∈ L ∧ kd z17_ = 104) ∧ Fs L kd f [(10, 8, q1_, .int 0), (10, 7, q1_, .int 0), (10, 6, q1_, .int 0), (10, 0, q1_, .ref q3_), (11, 4, a0_, .ref q3_), (11, 5, a0_, .ref q2_), (11, 6, a0_, .int z6_), (11, 1, a0_, .int 0), (8, 6, q4_, .int z8_), (8, 8, q4_, .int 0), (7, 1, q3_, .int z10_), (5, 2, q5_, .int z11_), (5, 1, q5_, .ref z12_), (2, 4, q0_, .ref z13_), (2, 5, q0_, .ref z14_), (5, 0, q5_, .ref q3_), (2, 3, q0_, .ref q3_), (8, 4, q4_, .ref z17_)])) (Q3 (dC, dI) L kd tys [(0, 2), (0, 8), (0, 10), (0, 11), (0, 12), (0, 13), (2, 3), (2, 4), (2, 5), (2, 6), (2, 11), (2, 12), (2, 13), (2, 14), (2, 15), (3, 0), (3, 4), (4, 0), (4, 1), (4, 2), (4, 3), (4, 4), (4, 5), (4, 6), (4, 14), (5, 0), (5, 1), (5, 2), (5, 4), (5, 6), (5, 7), (5, 8), (6, 0), (6, 1), (6, 2), (6, 3), (6, 6), (6, 7), (6, 8), (6, 9), (6, 10), (6, 11), (6, 12), (7, 1), (7, 3), (7, 6), (7, 13), (7, 15), (7, 17), (7, 18), (8, 4), (8, 5), (8, 6), (8, 7), (8, 8), (8, 9), (8, 108), (9, 0), (9, 1), (9, 2), (9, 7), (9, 8), (9, 10), (9, 11), (9, 12), (10, 0), (10, 6), (10, 7), (10, 8), (11, 1), (11, 4), (11, 5), (11, 6), (11, 7)] [110, 111, 112, 113, 114, 115, 118, 119, 120, 121, 130, 131, 132, 133, 134, 135, 138, 139, 140, 141, 142, 143, 144, 145, 146, 147, 148, 149, 150, 152, 153, 154, 155, 156] f0 sz) (pA L sz)) 0 0 (pA L sz) := by
  refine Met.ofW (cc := cX11_classes) (maxL := 2) (ret := (some .int)) (by decide) rfl ?_
  intro p e s m args below meth c s₁ B hml hv
  obtain ⟨rfl, ⟨hsz, hP, hK, hD0⟩, hAm⟩ := hv
  have hx := B.exec
  have hb := B.bytes
  have hr := B.returns
  have hts := atoms_spec (ws := (.code yX11_classes cX11_classes 2 (some .int) :: lw_g)) B.pre
  have hown : s.vm.findClass RX11 = some m.cls := findClass_of_methodNamed B.named
  have hlocks := B.notSynchronized
  subst hsz
  have g : G3 (dC, dI) L kd tys s f0 [(0, 2), (0, 8), (0, 10), (0, 11), (0, 12), (0, 13), (2, 3), (2, 4), (2, 5), (2, 6), (2, 11), (2, 12), (2, 13), (2, 14), (2, 15), (3, 0), (3, 4), (4, 0), (4, 1), (4, 2), (4, 3), (4, 4), (4, 5), (4, 6), (4, 14), (5, 0), (5, 1), (5, 2), (5, 4), (5, 6), (5, 7), (5, 8), (6, 0), (6, 1), (6, 2), (6, 3), (6, 6), (6, 7), (6, 8), (6, 9), (6, 10), (6, 11), (6, 12), (7, 1), (7, 3), (7, 6), (7, 13), (7, 15), (7, 17), (7, 18), (8, 4), (8, 5), (8, 6), (8, 7), (8, 8), (8, 9), (8, 108), (9, 0), (9, 1), (9, 2), (9, 7), (9, 8), (9, 10), (9, 11), (9, 12), (10, 0), (10, 6), (10, 7), (10, 8), (11, 1), (11, 4), (11, 5), (11, 6), (11, 7)] [110, 111, 112, 113, 114, 115, 118, 119, 120, 121, 130, 131, 132, 133, 134, 135, 138, 139, 140, 141, 142, 143, 144, 145, 146, 147, 148, 149, 150, 152, 153, 154, 155, 156] f0 s.heap [] [(11, 2, a0_, .ref q0_), (11, 3, a0_, .ref q1_), (11, 4, a0_, .ref q2_), (11, 5, a0_, .ref q3_), (2, 0, q0_, .ref q4_), (2, 1, q0_, .ref q5_), (2, 2, q0_, .ref q6_), (10, 0, q1_, .ref q7_), (0, 0, q6_, .ref q4_), (0, 1, q6_, .ref q5_)] := G3.start hP hD0 hWT hfx
  have hl := lv_entry ([.ref a0_]) (n := 2) (Nat.le_of_ble_eq_true rfl)
  rw [lg_entry_eq]
  generalize (lg_sl ([.ref a0_]) ++ List.replicate (2 - (lg_sl ([.ref a0_])).length) Slot.unset).toArray = ls at hl ⊢
  have hl : lv_has ls 2 [(0, .ref a0_)] := hl
  refine W_q (fun Q hQ => ?_)
  refine lv_aload_n hx hb dX11_classes_0 rfl (lv_at hl 0 rfl) ?_
  refine g_getk (C := RX11) (T := TX11) (N := 8) hx hb hts (mc_ inX11) hown hK g rfl 2 (by decide) rfl (hts _ (List.mem_cons_of_mem _ t_950)) (fun _ h9 => h9) 0 rfl dX11_classes_1 ?_
  refine lv_aload_n hx hb dX11_classes_4 rfl (lv_at hl 0 rfl) ?_
  refine g_getr (K := 104) (C := RX11) (T := TX11) (N := 8) hx hb hts (mc_ inX11) hown hK g ma0_ ka0_ (by decide) rfl 0 (by decide) rfl (hts _ (List.mem_cons_of_mem _ t_948)) (fun _ h9 => h9) rfl dX11_classes_5 (fun a_1 ma_1 ka_1 g => ?_)
  refine lv_aload_n hx hb dX11_classes_8 rfl (lv_at hl 0 rfl) ?_
  refine g_geti (C := RX11) (T := TX11) (N := 8) hx hb hts (mc_ inX11) hown hK g ma0_ ka0_ (by decide) rfl 1 (by decide) rfl (hts _ (List.mem_cons_of_mem _ t_949)) (fun _ h9 => h9) rfl dX11_classes_9 (fun x_2 bx_2 g => ?_)
  refine lv_aload_n hx hb dX11_classes_12 rfl (lv_at hl 0 rfl) ?_
  refine g_getk (C := RX11) (T := TX11) (N := 8) hx hb hts (mc_ inX11) hown hK g rfl 5 (by decide) rfl (hts _ (List.mem_cons_of_mem _ t_953)) (fun _ h9 => h9) 5 rfl dX11_classes_13 ?_
  have go_ := g
  refine g_callv (va_runV (As := [.ref a_1, .int x_2, .ref q3_]) (rest := []) ⟨hx, hb, hml, hown, hts⟩ (r_X2_begin l dC dI L kd tys f0 s.heap.size g.2.2.2.1 adK adV q0_ mq0_ kq0_ a_1 ma_1 ka_1 x_2 bx_2 q3_ mq3_ kq3_ q4_ mq4_ kq4_ q5_ mq5_ kq5_ T_ hGdq3_ (g.fcts [6, 7] rfl)) (cwV 3 hts (gV_ t_989 t_990 t_991 t_183 t_992) rfl rfl rfl (by decide +kernel) ⟨(Nat.le_of_ble_eq_true rfl), (Nat.le_of_ble_eq_true rfl)⟩) (pre3VA g hK hAm mq0_ kq0_ (by decide) (q := (RX2, TX2, 16)) rfl) rfl rfl hl.1 rfl (lv_room (Nat.le_of_ble_eq_true rfl)) dX11_classes_16 ⟨(Nat.le_of_ble_eq_true rfl), (Nat.le_of_ble_eq_true rfl)⟩) g hK (by decide) (by decide) (fx' := [(11, 1, a0_, .int x_2), (11, 0, a0_, .ref a_1), (11, 2, a0_, .ref q0_), (11, 3, a0_, .ref q1_), (11, 4, a0_, .ref q2_), (11, 5, a0_, .ref q3_), (2, 0, q0_, .ref q4_), (2, 1, q0_, .ref q5_), (2, 2, q0_, .ref q6_), (10, 0, q1_, .ref q7_), (0, 0, q6_, .ref q4_), (0, 1, q6_, .ref q5_)]) rfl (fun fr_3 H locs hp hMr_3 g => ?_)
  obtain ⟨hG_4, hx_5, a_6, ⟨ma_6, ka_6⟩, a_7, ⟨ma_7, ka_7⟩, a_8, ⟨ma_8, ka_8⟩, hF_9⟩ := hp
  have hG_10 := RP.frame hMr_3 go_.2.2.2.1 mq1_ kq1_ (by decide) (by decide) hGPq1_
  have hG_11 := eOK.frame hMr_3 go_.2.2.2.1 mq6_ kq6_ (by decide) (by decide) hGeq6_
  obtain ⟨J_, hs_12⟩ : ∃ J_ : Int32 → Prop, jS fr_3 q3_ J_ := ⟨fun _ => False, fun j9 h9 => h9.elim⟩
  have g := g.more hF_9
  refine lv_aload_n hx hb dX11_classes_19 rfl (lv_at hl 0 rfl) ?_
  refine g_getk (C := RX11) (T := TX11) (N := 8) hx hb hts (mc_ inX11) hown hK g rfl 2 (by decide) rfl (hts _ (List.mem_cons_of_mem _ t_950)) (fun _ h9 => h9) 23 rfl dX11_classes_20 ?_
  have kb_0 : bd 0 0 (0 : Int32) := ⟨by decide, by decide⟩
  have go_ := g
  refine g_callv (va_runV (As := []) (rest := []) ⟨hx, hb, hml, hown, hts⟩ (r_X2_readClass l dC dI L kd tys fr_3 H.size g.2.2.2.1 q0_ mq0_ kq0_ q4_ mq4_ kq4_ q5_ mq5_ kq5_ q6_ mq6_ kq6_ q3_ mq3_ kq3_ a_8 ma_8 ka_8 a_7 ma_7 ka_7 a_6 ma_6 ka_6 0 kb_0 T_ (fun j9 => jOK fr_3 q3_ j9) hG_11 hx_5 hG_4 (fun _ h9 => h9) (g.fcts [27, 28, 29, 16, 8, 7, 5, 31, 32, 6, 18] rfl)) (cwV 0 hts (gV_ t_1090 t_1091 t_1092 t_183 t_1093) rfl rfl rfl (by decide +kernel) ⟨(Nat.le_of_ble_eq_true rfl), (Nat.le_of_ble_eq_true rfl)⟩) (pre3V g hK mq0_ kq0_ (by decide) (q := (RX2, TX2, 16)) rfl) rfl rfl hl.1 rfl (lv_room (Nat.le_of_ble_eq_true rfl)) dX11_classes_23 ⟨(Nat.le_of_ble_eq_true rfl), (Nat.le_of_ble_eq_true rfl)⟩) g hK (by decide) (by decide) (fx' := [(5, 0, q5_, .ref q3_), (2, 3, q0_, .ref q3_), (8, 4, q4_, .ref a_1), (11, 1, a0_, .int x_2), (11, 0, a0_, .ref a_1), (11, 2, a0_, .ref q0_), (11, 3, a0_, .ref q1_), (11, 4, a0_, .ref q2_), (11, 5, a0_, .ref q3_), (2, 0, q0_, .ref q4_), (2, 1, q0_, .ref q5_), (2, 2, q0_, .ref q6_), (10, 0, q1_, .ref q7_), (0, 0, q6_, .ref q4_), (0, 1, q6_, .ref q5_)]) rfl (fun fr_13 H locs hp hMr_13 g => ?_)
  rcases hp with ⟨hG_14, hG_15, hG_16, hG_17, x_18, h_19, x_20, h_21, x_22, h_23, a_24, ⟨ma_24, ka_24⟩, a_25, ⟨ma_25, ka_25⟩, a_26, ⟨ma_26, ka_26⟩, hF_27⟩ | ⟨hG_28, hG_29, x_30, h_31, x_32, h_33, a_34, ⟨ma_34, ka_34⟩, a_35, ⟨ma_35, ka_35⟩, a_36, ⟨ma_36, ka_36⟩, hF_37⟩
  · have hG_38 := RP.frame hMr_13 go_.2.2.2.1 mq1_ kq1_ (by decide) (by decide) hG_10
    have g := g.more hF_27
    have hs_39 := jS.mv hs_12 hG_17
    refine lv_iconst (v := 0) hx hb dX11_classes_26 (by decide) ?_
    refine lv_istore_n (lv' := [(1, .int 0), (0, .ref a0_)]) hx hb dX11_classes_27 rfl hl (by decide) rfl (fun ls hl => ?_)
    have loop_40 : ∀ (n : Nat) (v28_1 : Int32) (w28_7_1_q3_ : Int32) (w28_8_6_q4_ : Int32) (w28_5_2_q5_ : Int32) (w28_5_1_q5_ : Nat) (w28_2_4_q0_ : Nat) (w28_2_5_q0_ : Nat), bd 0 9 v28_1 → bd 1 8 w28_7_1_q3_ → bd 1 1201 w28_8_6_q4_ → bd 0 7 w28_5_2_q5_ → w28_5_1_q5_ ∈ L → kd w28_5_1_q5_ = 9 → w28_2_4_q0_ ∈ L → kd w28_2_4_q0_ = 9 → w28_2_5_q0_ ∈ L → kd w28_2_5_q0_ = 6 → (9 - v28_1.toInt < (n : Int)) → ∀ (f : Nat → va_E) (H : Heap) (locs : List Loc) (ls : Array Slot), G3 (dC, dI) L kd tys s f0 [(0, 2), (0, 8), (0, 10), (0, 11), (0, 12), (0, 13), (2, 3), (2, 4), (2, 5), (2, 6), (2, 11), (2, 12), (2, 13), (2, 14), (2, 15), (3, 0), (3, 4), (4, 0), (4, 1), (4, 2), (4, 3), (4, 4), (4, 5), (4, 6), (4, 14), (5, 0), (5, 1), (5, 2), (5, 4), (5, 6), (5, 7), (5, 8), (6, 0), (6, 1), (6, 2), (6, 3), (6, 6), (6, 7), (6, 8), (6, 9), (6, 10), (6, 11), (6, 12), (7, 1), (7, 3), (7, 6), (7, 13), (7, 15), (7, 17), (7, 18), (8, 4), (8, 5), (8, 6), (8, 7), (8, 8), (8, 9), (8, 108), (9, 0), (9, 1), (9, 2), (9, 7), (9, 8), (9, 10), (9, 11), (9, 12), (10, 0), (10, 6), (10, 7), (10, 8), (11, 1), (11, 4), (11, 5), (11, 6), (11, 7)] [110, 111, 112, 113, 114, 115, 118, 119, 120, 121, 130, 131, 132, 133, 134, 135, 138, 139, 140, 141, 142, 143, 144, 145, 146, 147, 148, 149, 150, 152, 153, 154, 155, 156] f H locs [(7, 1, q3_, .int w28_7_1_q3_), (8, 6, q4_, .int w28_8_6_q4_), (8, 8, q4_, .int 0), (5, 2, q5_, .int w28_5_2_q5_), (5, 1, q5_, .ref w28_5_1_q5_), (2, 4, q0_, .ref w28_2_4_q0_), (2, 5, q0_, .ref w28_2_5_q0_), (5, 0, q5_, .ref q3_), (2, 3, q0_, .ref q3_), (8, 4, q4_, .ref a_1), (11, 1, a0_, .int x_2), (11, 0, a0_, .ref a_1), (11, 2, a0_, .ref q0_), (11, 3, a0_, .ref q1_), (11, 4, a0_, .ref q2_), (11, 5, a0_, .ref q3_), (2, 0, q0_, .ref q4_), (2, 1, q0_, .ref q5_), (2, 2, q0_, .ref q6_), (10, 0, q1_, .ref q7_), (0, 0, q6_, .ref q4_), (0, 1, q6_, .ref q5_)] → RP L kd f q1_ → dOK L kd f q3_ T_ → eOK f q6_ → cOK f q3_ → jS f q3_ J_ → lv_has ls 2 [(1, .int v28_1), (0, .ref a0_)] → W p l e ({ frames := 7, cells := 0, slots := 0, locals := 165 } : Room) s m [.ref a0_].toArray below meth c H locs 0 0 Q (F0 m 28 ls []) := by
      intro n28
      induction n28 with
      | zero =>
        intro v28_1 w28_7_1_q3_ w28_8_6_q4_ w28_5_2_q5_ w28_5_1_q5_ w28_2_4_q0_ w28_2_5_q0_ bv28_1 bw28_7_1_q3_ bw28_8_6_q4_ bw28_5_2_q5_ mw28_5_1_q5_ kw28_5_1_q5_ mw28_2_4_q0_ kw28_2_4_q0_ mw28_2_5_q0_ kw28_2_5_q0_ hm28 f H locs ls g hG28_P_q1_ hG28_d_q3_ hG28_e_q6_ hG28_c_q3_ hG28_s_q3_ hl
        exact absurd hm28 (by have h9_v28_1 := bv28_1; unfold bd at h9_v28_1; have h9_w28_7_1_q3_ := bw28_7_1_q3_; unfold bd at h9_w28_7_1_q3_; have h9_w28_8_6_q4_ := bw28_8_6_q4_; unfold bd at h9_w28_8_6_q4_; have h9_w28_5_2_q5_ := bw28_5_2_q5_; unfold bd at h9_w28_5_2_q5_; omega)
      | succ n28 ih28 =>
        intro v28_1 w28_7_1_q3_ w28_8_6_q4_ w28_5_2_q5_ w28_5_1_q5_ w28_2_4_q0_ w28_2_5_q0_ bv28_1 bw28_7_1_q3_ bw28_8_6_q4_ bw28_5_2_q5_ mw28_5_1_q5_ kw28_5_1_q5_ mw28_2_4_q0_ kw28_2_4_q0_ mw28_2_5_q0_ kw28_2_5_q0_ hm28 f H locs ls g hG28_P_q1_ hG28_d_q3_ hG28_e_q6_ hG28_c_q3_ hG28_s_q3_ hl
        refine lv_iload_n hx hb dX11_classes_28 rfl (lv_at hl 0 rfl) ?_
        refine lv_bipush (v := 8) hx hb dX11_classes_29 (by decide) ?_
        have kb_8 : bd 8 8 (8 : Int32) := ⟨by decide, by decide⟩
        refine lv_icmp_gt (tgt := 57) hx hb dX11_classes_31 (by decide) (fun c_41 => ?_) (fun c_41 => ?_)
        · have fc_41 := lt_f c_41
          have b_42 : bd 9 9 v28_1 := ltR fc_41 kb_8 bv28_1 (by decide)
          refine lv_aload_n hx hb dX11_classes_57 rfl (lv_at hl 1 rfl) ?_
          refine g_getk (C := RX11) (T := TX11) (N := 8) hx hb hts (mc_ inX11) hown hK g rfl 2 (by decide) rfl (hts _ (List.mem_cons_of_mem _ t_950)) (fun _ h9 => h9) 12 rfl dX11_classes_58 ?_
          have go_ := g
          refine g_callv (va_runV (As := []) (rest := []) ⟨hx, hb, hml, hown, hts⟩ (r_X2_finish l dC dI L kd tys f H.size g.2.2.2.1 q0_ mq0_ kq0_ q4_ mq4_ kq4_ 0 kb_0 (g.fcts [16, 2] rfl)) (cwV 0 hts (gV_ t_1406 t_1407 t_1408 t_183 t_1409) rfl rfl rfl (by decide +kernel) ⟨(Nat.le_of_ble_eq_true rfl), (Nat.le_of_ble_eq_true rfl)⟩) (pre3V g hK mq0_ kq0_ (by decide) (q := (RX2, TX2, 16)) rfl) rfl rfl hl.1 rfl (lv_room (Nat.le_of_ble_eq_true rfl)) dX11_classes_61 ⟨(Nat.le_of_ble_eq_true rfl), (Nat.le_of_ble_eq_true rfl)⟩) g hK (by decide) (by decide) (fx' := [(7, 1, q3_, .int w28_7_1_q3_), (5, 2, q5_, .int w28_5_2_q5_), (5, 1, q5_, .ref w28_5_1_q5_), (2, 4, q0_, .ref w28_2_4_q0_), (2, 5, q0_, .ref w28_2_5_q0_), (5, 0, q5_, .ref q3_), (2, 3, q0_, .ref q3_), (8, 4, q4_, .ref a_1), (11, 1, a0_, .int x_2), (11, 0, a0_, .ref a_1), (11, 2, a0_, .ref q0_), (11, 3, a0_, .ref q1_), (11, 4, a0_, .ref q2_), (11, 5, a0_, .ref q3_), (2, 0, q0_, .ref q4_), (2, 1, q0_, .ref q5_), (2, 2, q0_, .ref q6_), (10, 0, q1_, .ref q7_), (0, 0, q6_, .ref q4_), (0, 1, q6_, .ref q5_)]) rfl (fun fr_43 H locs hp hMr_43 g => ?_)
          rcases hp with ⟨x_44, h_45, hF_46⟩ | ⟨x_47, h_48, hF_49⟩
          · have hG_50 := RP.frame hMr_43 go_.2.2.2.1 mq1_ kq1_ (by decide) (by decide) hG28_P_q1_
            have hG_51 := dOK.frame hMr_43 go_.2.2.2.1 mq3_ kq3_ (by decide) (by decide) hG28_d_q3_
            have hG_52 := eOK.frame hMr_43 go_.2.2.2.1 mq6_ kq6_ (by decide) (by decide) hG28_e_q6_
            have hG_53 := cOK.frame hMr_43 go_.2.2.2.1 mq3_ kq3_ (by decide) (by decide) hG28_c_q3_
            have hG_54 := jS.frame hMr_43 go_.2.2.2.1 mq3_ kq3_ (by decide) (by decide) hG28_s_q3_
            have g := g.more hF_46
            refine lv_aload_n hx hb dX11_classes_64 rfl (lv_at hl 1 rfl) ?_
            refine lv_iconst (v := 0) hx hb dX11_classes_65 (by decide) ?_
            have go_ := g
            refine g_put (C := RX11) (T := TX11) (N := 8) hx hb hts (mc_ inX11) tyX11 tyX11_ok nmX11 hown hK g ma0_ ka0_ (by decide) rfl 1 (by decide) (hts _ (List.mem_cons_of_mem _ t_949)) (fun _ h9 => h9) rfl rfl (okV_i (bd_sub kb_0 (by decide))) rfl rfl (by decide) (Or.inr (Or.inl (by decide))) (fx' := [(8, 6, q4_, .int x_44), (8, 8, q4_, .int 0), (7, 1, q3_, .int w28_7_1_q3_), (5, 2, q5_, .int w28_5_2_q5_), (5, 1, q5_, .ref w28_5_1_q5_), (2, 4, q0_, .ref w28_2_4_q0_), (2, 5, q0_, .ref w28_2_5_q0_), (5, 0, q5_, .ref q3_), (2, 3, q0_, .ref q3_), (8, 4, q4_, .ref a_1), (11, 0, a0_, .ref a_1), (11, 2, a0_, .ref q0_), (11, 3, a0_, .ref q1_), (11, 4, a0_, .ref q2_), (11, 5, a0_, .ref q3_), (2, 0, q0_, .ref q4_), (2, 1, q0_, .ref q5_), (2, 2, q0_, .ref q6_), (10, 0, q1_, .ref q7_), (0, 0, q6_, .ref q4_), (0, 1, q6_, .ref q5_)]) rfl dX11_classes_66 (fun f H locs hM_55 g => ?_)
            have hG_56 := RP.frame hM_55 go_.2.2.2.1 mq1_ kq1_ (by decide) (by decide) hG_50
            have hG_57 := dOK.frame hM_55 go_.2.2.2.1 mq3_ kq3_ (by decide) (by decide) hG_51
            have hG_58 := eOK.frame hM_55 go_.2.2.2.1 mq6_ kq6_ (by decide) (by decide) hG_52
            have hG_59 := cOK.frame hM_55 go_.2.2.2.1 mq3_ kq3_ (by decide) (by decide) hG_53
            have hG_60 := jS.frame hM_55 go_.2.2.2.1 mq3_ kq3_ (by decide) (by decide) hG_54
            refine lv_aload_n hx hb dX11_classes_69 rfl (lv_at hl 1 rfl) ?_
            refine lv_aload_n hx hb dX11_classes_70 rfl (lv_at hl 1 rfl) ?_
            refine g_getk (C := RX11) (T := TX11) (N := 8) hx hb hts (mc_ inX11) hown hK g rfl 2 (by decide) rfl (hts _ (List.mem_cons_of_mem _ t_950)) (fun _ h9 => h9) 12 rfl dX11_classes_71 ?_
            have go_ := g
            refine g_calli (va_runV (As := []) (rest := [.ref a0_]) ⟨hx, hb, hml, hown, hts⟩ (r_X2_faultKind l dC dI L kd tys f H.size g.2.2.2.1 q0_ mq0_ kq0_ q4_ mq4_ kq4_ 0 kb_0 (g.fcts [16, 2] rfl)) (cwV 0 hts (gV_ t_1410 t_1411 t_1412 t_183 t_1413) rfl rfl rfl (by decide +kernel) ⟨(Nat.le_of_ble_eq_true rfl), (Nat.le_of_ble_eq_true rfl)⟩) (pre3V g hK mq0_ kq0_ (by decide) (q := (RX2, TX2, 16)) rfl) rfl rfl hl.1 rfl (lv_room (Nat.le_of_ble_eq_true rfl)) dX11_classes_74 ⟨(Nat.le_of_ble_eq_true rfl), (Nat.le_of_ble_eq_true rfl)⟩) g hK (by decide) (by decide) (fx' := [(11, 1, a0_, .int 0), (8, 6, q4_, .int x_44), (8, 8, q4_, .int 0), (7, 1, q3_, .int w28_7_1_q3_), (5, 2, q5_, .int w28_5_2_q5_), (5, 1, q5_, .ref w28_5_1_q5_), (2, 4, q0_, .ref w28_2_4_q0_), (2, 5, q0_, .ref w28_2_5_q0_), (5, 0, q5_, .ref q3_), (2, 3, q0_, .ref q3_), (8, 4, q4_, .ref a_1), (11, 0, a0_, .ref a_1), (11, 2, a0_, .ref q0_), (11, 3, a0_, .ref q1_), (11, 4, a0_, .ref q2_), (11, 5, a0_, .ref q3_), (2, 0, q0_, .ref q4_), (2, 1, q0_, .ref q5_), (2, 2, q0_, .ref q6_), (10, 0, q1_, .ref q7_), (0, 0, q6_, .ref q4_), (0, 1, q6_, .ref q5_)]) rfl (fun r_61 fr_61 H locs hp hMr_61 g => ?_)
            obtain ⟨h_62, -⟩ := hp
            have hG_63 := RP.frame hMr_61 go_.2.2.2.1 mq1_ kq1_ (by decide) (by decide) hG_56
            have hG_64 := dOK.frame hMr_61 go_.2.2.2.1 mq3_ kq3_ (by decide) (by decide) hG_57
            have hG_65 := eOK.frame hMr_61 go_.2.2.2.1 mq6_ kq6_ (by decide) (by decide) hG_58
            have hG_66 := cOK.frame hMr_61 go_.2.2.2.1 mq3_ kq3_ (by decide) (by decide) hG_59
            have hG_67 := jS.frame hMr_61 go_.2.2.2.1 mq3_ kq3_ (by decide) (by decide) hG_60
            have go_ := g
            refine g_put (C := RX11) (T := TX11) (N := 8) hx hb hts (mc_ inX11) tyX11 tyX11_ok nmX11 hown hK g ma0_ ka0_ (by decide) rfl 6 (by decide) (hts _ (List.mem_cons_of_mem _ t_954)) (fun _ h9 => h9) rfl rfl (okV_i (bd_sub h_62 (by decide))) rfl rfl (by decide) (Or.inr (Or.inl (by decide))) (fx' := [(11, 1, a0_, .int 0), (8, 6, q4_, .int x_44), (8, 8, q4_, .int 0), (7, 1, q3_, .int w28_7_1_q3_), (5, 2, q5_, .int w28_5_2_q5_), (5, 1, q5_, .ref w28_5_1_q5_), (2, 4, q0_, .ref w28_2_4_q0_), (2, 5, q0_, .ref w28_2_5_q0_), (5, 0, q5_, .ref q3_), (2, 3, q0_, .ref q3_), (8, 4, q4_, .ref a_1), (11, 0, a0_, .ref a_1), (11, 2, a0_, .ref q0_), (11, 3, a0_, .ref q1_), (11, 4, a0_, .ref q2_), (11, 5, a0_, .ref q3_), (2, 0, q0_, .ref q4_), (2, 1, q0_, .ref q5_), (2, 2, q0_, .ref q6_), (10, 0, q1_, .ref q7_), (0, 0, q6_, .ref q4_), (0, 1, q6_, .ref q5_)]) rfl dX11_classes_77 (fun f H locs hM_68 g => ?_)
            have hG_69 := RP.frame hM_68 go_.2.2.2.1 mq1_ kq1_ (by decide) (by decide) hG_63
            have hG_70 := dOK.frame hM_68 go_.2.2.2.1 mq3_ kq3_ (by decide) (by decide) hG_64
            have hG_71 := eOK.frame hM_68 go_.2.2.2.1 mq6_ kq6_ (by decide) (by decide) hG_65
            have hG_72 := cOK.frame hM_68 go_.2.2.2.1 mq3_ kq3_ (by decide) (by decide) hG_66
            have hG_73 := jS.frame hM_68 go_.2.2.2.1 mq3_ kq3_ (by decide) (by decide) hG_67
            refine lv_aload_n hx hb dX11_classes_80 rfl (lv_at hl 1 rfl) ?_
            refine lv_aload_n hx hb dX11_classes_81 rfl (lv_at hl 1 rfl) ?_
            refine g_getk (C := RX11) (T := TX11) (N := 8) hx hb hts (mc_ inX11) hown hK g rfl 2 (by decide) rfl (hts _ (List.mem_cons_of_mem _ t_950)) (fun _ h9 => h9) 13 rfl dX11_classes_82 ?_
            have go_ := g
            refine g_calli (va_runV (As := []) (rest := [.ref a0_]) ⟨hx, hb, hml, hown, hts⟩ (r_X2_faultPlace l dC dI L kd tys f H.size g.2.2.2.1 q0_ mq0_ kq0_ q4_ mq4_ kq4_ 0 kb_0 (g.fcts [17, 3] rfl)) (cwV 0 hts (gV_ t_1414 t_1415 t_1416 t_183 t_1417) rfl rfl rfl (by decide +kernel) ⟨(Nat.le_of_ble_eq_true rfl), (Nat.le_of_ble_eq_true rfl)⟩) (pre3V g hK mq0_ kq0_ (by decide) (q := (RX2, TX2, 16)) rfl) rfl rfl hl.1 rfl (lv_room (Nat.le_of_ble_eq_true rfl)) dX11_classes_85 ⟨(Nat.le_of_ble_eq_true rfl), (Nat.le_of_ble_eq_true rfl)⟩) g hK (by decide) (by decide) (fx' := [(11, 6, a0_, .int r_61), (11, 1, a0_, .int 0), (8, 6, q4_, .int x_44), (8, 8, q4_, .int 0), (7, 1, q3_, .int w28_7_1_q3_), (5, 2, q5_, .int w28_5_2_q5_), (5, 1, q5_, .ref w28_5_1_q5_), (2, 4, q0_, .ref w28_2_4_q0_), (2, 5, q0_, .ref w28_2_5_q0_), (5, 0, q5_, .ref q3_), (2, 3, q0_, .ref q3_), (8, 4, q4_, .ref a_1), (11, 0, a0_, .ref a_1), (11, 2, a0_, .ref q0_), (11, 3, a0_, .ref q1_), (11, 4, a0_, .ref q2_), (11, 5, a0_, .ref q3_), (2, 0, q0_, .ref q4_), (2, 1, q0_, .ref q5_), (2, 2, q0_, .ref q6_), (10, 0, q1_, .ref q7_), (0, 0, q6_, .ref q4_), (0, 1, q6_, .ref q5_)]) rfl (fun r_74 fr_74 H locs hp hMr_74 g => ?_)
            have hG_75 := RP.frame hMr_74 go_.2.2.2.1 mq1_ kq1_ (by decide) (by decide) hG_69
            have hG_76 := dOK.frame hMr_74 go_.2.2.2.1 mq3_ kq3_ (by decide) (by decide) hG_70
            have hG_77 := eOK.frame hMr_74 go_.2.2.2.1 mq6_ kq6_ (by decide) (by decide) hG_71
            have hG_78 := cOK.frame hMr_74 go_.2.2.2.1 mq3_ kq3_ (by decide) (by decide) hG_72
            have hG_79 := jS.frame hMr_74 go_.2.2.2.1 mq3_ kq3_ (by decide) (by decide) hG_73
            have go_ := g
            refine g_put (C := RX11) (T := TX11) (N := 8) hx hb hts (mc_ inX11) tyX11 tyX11_ok nmX11 hown hK g ma0_ ka0_ (by decide) rfl 7 (by decide) (hts _ (List.mem_cons_of_mem _ t_955)) (fun _ h9 => h9) rfl rfl (okV_i (bdT r_74)) rfl rfl (by decide) (Or.inr (Or.inl (by decide))) (fx' := [(11, 6, a0_, .int r_61), (11, 1, a0_, .int 0), (8, 6, q4_, .int x_44), (8, 8, q4_, .int 0), (7, 1, q3_, .int w28_7_1_q3_), (5, 2, q5_, .int w28_5_2_q5_), (5, 1, q5_, .ref w28_5_1_q5_), (2, 4, q0_, .ref w28_2_4_q0_), (2, 5, q0_, .ref w28_2_5_q0_), (5, 0, q5_, .ref q3_), (2, 3, q0_, .ref q3_), (8, 4, q4_, .ref a_1), (11, 0, a0_, .ref a_1), (11, 2, a0_, .ref q0_), (11, 3, a0_, .ref q1_), (11, 4, a0_, .ref q2_), (11, 5, a0_, .ref q3_), (2, 0, q0_, .ref q4_), (2, 1, q0_, .ref q5_), (2, 2, q0_, .ref q6_), (10, 0, q1_, .ref q7_), (0, 0, q6_, .ref q4_), (0, 1, q6_, .ref q5_)]) rfl dX11_classes_88 (fun f H locs hM_80 g => ?_)
            have hG_81 := RP.frame hM_80 go_.2.2.2.1 mq1_ kq1_ (by decide) (by decide) hG_75
            have hG_82 := dOK.frame hM_80 go_.2.2.2.1 mq3_ kq3_ (by decide) (by decide) hG_76
            have hG_83 := eOK.frame hM_80 go_.2.2.2.1 mq6_ kq6_ (by decide) (by decide) hG_77
            have hG_84 := cOK.frame hM_80 go_.2.2.2.1 mq3_ kq3_ (by decide) (by decide) hG_78
            have hG_85 := jS.frame hM_80 go_.2.2.2.1 mq3_ kq3_ (by decide) (by decide) hG_79
            refine lv_aload_n hx hb dX11_classes_91 rfl (lv_at hl 1 rfl) ?_
            refine g_getk (C := RX11) (T := TX11) (N := 8) hx hb hts (mc_ inX11) hown hK g rfl 6 (by decide) rfl (hts _ (List.mem_cons_of_mem _ t_954)) (fun _ h9 => h9) 1 rfl dX11_classes_92 ?_
            refine lv_if_eq (tgt := 100) hx hb dX11_classes_95 (by decide) (fun c_86 => ?_) (fun c_86 => ?_)
            · have fc_86 := eq_f c_86
              refine lv_aload_n hx hb dX11_classes_100 rfl (lv_at hl 1 rfl) ?_
              refine g_getk (C := RX11) (T := TX11) (N := 8) hx hb hts (mc_ inX11) hown hK g rfl 5 (by decide) rfl (hts _ (List.mem_cons_of_mem _ t_953)) (fun _ h9 => h9) 17 rfl dX11_classes_101 ?_
              refine lv_astore_n (lv' := [(1, .ref q3_), (0, .ref a0_)]) hx hb dX11_classes_104 rfl hl (by decide) rfl (fun ls hl => ?_)
              refine lv_aload_n hx hb dX11_classes_105 rfl (lv_at hl 1 rfl) ?_
              refine lv_aload_n hx hb dX11_classes_106 rfl (lv_at hl 1 rfl) ?_
              refine g_getk (C := RX11) (T := TX11) (N := 8) hx hb hts (mc_ inX11) hown hK g rfl 4 (by decide) rfl (hts _ (List.mem_cons_of_mem _ t_952)) (fun _ h9 => h9) 16 rfl dX11_classes_107 ?_
              have go_ := g
              refine g_put (C := RX11) (T := TX11) (N := 8) hx hb hts (mc_ inX11) tyX11 tyX11_ok nmX11 hown hK g ma0_ ka0_ (by decide) rfl 5 (by decide) (hts _ (List.mem_cons_of_mem _ t_953)) (fun _ h9 => h9) rfl rfl (okV_r mq2_ kq2_ (by decide)) rfl rfl (by decide) (Or.inr (Or.inl (by decide))) (fx' := [(11, 7, a0_, .int r_74), (11, 6, a0_, .int r_61), (11, 1, a0_, .int 0), (8, 6, q4_, .int x_44), (8, 8, q4_, .int 0), (7, 1, q3_, .int w28_7_1_q3_), (5, 2, q5_, .int w28_5_2_q5_), (5, 1, q5_, .ref w28_5_1_q5_), (2, 4, q0_, .ref w28_2_4_q0_), (2, 5, q0_, .ref w28_2_5_q0_), (5, 0, q5_, .ref q3_), (2, 3, q0_, .ref q3_), (8, 4, q4_, .ref a_1), (11, 0, a0_, .ref a_1), (11, 2, a0_, .ref q0_), (11, 3, a0_, .ref q1_), (11, 4, a0_, .ref q2_), (2, 0, q0_, .ref q4_), (2, 1, q0_, .ref q5_), (2, 2, q0_, .ref q6_), (10, 0, q1_, .ref q7_), (0, 0, q6_, .ref q4_), (0, 1, q6_, .ref q5_)]) rfl dX11_classes_110 (fun f H locs hM_87 g => ?_)
              have hG_88 := RP.frame hM_87 go_.2.2.2.1 mq1_ kq1_ (by decide) (by decide) hG_81
              have hG_89 := dOK.frame hM_87 go_.2.2.2.1 mq3_ kq3_ (by decide) (by decide) hG_82
              have hG_90 := eOK.frame hM_87 go_.2.2.2.1 mq6_ kq6_ (by decide) (by decide) hG_83
              have hG_91 := cOK.frame hM_87 go_.2.2.2.1 mq3_ kq3_ (by decide) (by decide) hG_84
              have hG_92 := jS.frame hM_87 go_.2.2.2.1 mq3_ kq3_ (by decide) (by decide) hG_85
              refine lv_aload_n hx hb dX11_classes_113 rfl (lv_at hl 1 rfl) ?_
              refine lv_aload_n hx hb dX11_classes_114 rfl (lv_at hl 0 rfl) ?_
              have go_ := g
              refine g_put (C := RX11) (T := TX11) (N := 8) hx hb hts (mc_ inX11) tyX11 tyX11_ok nmX11 hown hK g ma0_ ka0_ (by decide) rfl 4 (by decide) (hts _ (List.mem_cons_of_mem _ t_952)) (fun _ h9 => h9) rfl rfl (okV_r mq3_ kq3_ (by decide)) rfl rfl (by decide) (Or.inr (Or.inl (by decide))) (fx' := [(11, 5, a0_, .ref q2_), (11, 7, a0_, .int r_74), (11, 6, a0_, .int r_61), (11, 1, a0_, .int 0), (8, 6, q4_, .int x_44), (8, 8, q4_, .int 0), (7, 1, q3_, .int w28_7_1_q3_), (5, 2, q5_, .int w28_5_2_q5_), (5, 1, q5_, .ref w28_5_1_q5_), (2, 4, q0_, .ref w28_2_4_q0_), (2, 5, q0_, .ref w28_2_5_q0_), (5, 0, q5_, .ref q3_), (2, 3, q0_, .ref q3_), (8, 4, q4_, .ref a_1), (11, 0, a0_, .ref a_1), (11, 2, a0_, .ref q0_), (11, 3, a0_, .ref q1_), (2, 0, q0_, .ref q4_), (2, 1, q0_, .ref q5_), (2, 2, q0_, .ref q6_), (10, 0, q1_, .ref q7_), (0, 0, q6_, .ref q4_), (0, 1, q6_, .ref q5_)]) rfl dX11_classes_115 (fun f H locs hM_93 g => ?_)
              have hG_94 := RP.frame hM_93 go_.2.2.2.1 mq1_ kq1_ (by decide) (by decide) hG_88
              have hG_95 := dOK.frame hM_93 go_.2.2.2.1 mq3_ kq3_ (by decide) (by decide) hG_89
              have hG_96 := eOK.frame hM_93 go_.2.2.2.1 mq6_ kq6_ (by decide) (by decide) hG_90
              have hG_97 := cOK.frame hM_93 go_.2.2.2.1 mq3_ kq3_ (by decide) (by decide) hG_91
              have hG_98 := jS.frame hM_93 go_.2.2.2.1 mq3_ kq3_ (by decide) (by decide) hG_92
              refine lv_aload_n hx hb dX11_classes_118 rfl (lv_at hl 1 rfl) ?_
              refine g_getk (C := RX11) (T := TX11) (N := 8) hx hb hts (mc_ inX11) hown hK g rfl 3 (by decide) rfl (hts _ (List.mem_cons_of_mem _ t_951)) (fun _ h9 => h9) 17 rfl dX11_classes_119 ?_
              refine lv_aload_n hx hb dX11_classes_122 rfl (lv_at hl 1 rfl) ?_
              refine g_getk (C := RX11) (T := TX11) (N := 8) hx hb hts (mc_ inX11) hown hK g rfl 4 (by decide) rfl (hts _ (List.mem_cons_of_mem _ t_952)) (fun _ h9 => h9) 0 rfl dX11_classes_123 ?_
              obtain ⟨a_99, ma_99, ka_99, g⟩ := g_factr (K := 4) g mq1_ kq1_ (by decide) 4 rfl
              have go_ := g
              refine g_callv (va_runV (As := [.ref q3_]) (rest := []) ⟨hx, hb, hml, hown, hts⟩ (r_X10_useText l dC dI L kd tys f H.size g.2.2.2.1 q1_ mq1_ kq1_ q3_ mq3_ kq3_ a_99 ma_99 ka_99 hG_94 (g.fcts [0] rfl)) (cwV 1 hts (gV_ t_1418 t_1419 t_1420 t_194 t_1421) rfl rfl rfl (by decide +kernel) ⟨(Nat.le_of_ble_eq_true rfl), (Nat.le_of_ble_eq_true rfl)⟩) (pre3V g hK mq1_ kq1_ (by decide) (q := (RX10, TX10, 10)) rfl) rfl rfl hl.1 rfl (lv_room (Nat.le_of_ble_eq_true rfl)) dX11_classes_126 ⟨(Nat.le_of_ble_eq_true rfl), (Nat.le_of_ble_eq_true rfl)⟩) g hK (by decide) (by decide) (fx' := [(10, 4, q1_, .ref a_99), (11, 4, a0_, .ref q3_), (11, 5, a0_, .ref q2_), (11, 7, a0_, .int r_74), (11, 6, a0_, .int r_61), (11, 1, a0_, .int 0), (8, 6, q4_, .int x_44), (8, 8, q4_, .int 0), (7, 1, q3_, .int w28_7_1_q3_), (5, 2, q5_, .int w28_5_2_q5_), (5, 1, q5_, .ref w28_5_1_q5_), (2, 4, q0_, .ref w28_2_4_q0_), (2, 5, q0_, .ref w28_2_5_q0_), (5, 0, q5_, .ref q3_), (2, 3, q0_, .ref q3_), (8, 4, q4_, .ref a_1), (11, 0, a0_, .ref a_1), (11, 2, a0_, .ref q0_), (11, 3, a0_, .ref q1_), (2, 0, q0_, .ref q4_), (2, 1, q0_, .ref q5_), (2, 2, q0_, .ref q6_), (0, 0, q6_, .ref q4_), (0, 1, q6_, .ref q5_)]) rfl (fun fr_100 H locs hp hMr_100 g => ?_)
              obtain ⟨hG_101, hF_102⟩ := hp
              have hG_103 := dOK.frame hMr_100 go_.2.2.2.1 mq3_ kq3_ (by decide) (by decide) hG_95
              have hG_104 := eOK.frame hMr_100 go_.2.2.2.1 mq6_ kq6_ (by decide) (by decide) hG_96
              have hG_105 := cOK.frame hMr_100 go_.2.2.2.1 mq3_ kq3_ (by decide) (by decide) hG_97
              have hG_106 := jS.frame hMr_100 go_.2.2.2.1 mq3_ kq3_ (by decide) (by decide) hG_98
              have g := g.more hF_102
              refine lv_aload_n hx hb dX11_classes_129 rfl (lv_at hl 1 rfl) ?_
              refine g_getk (C := RX11) (T := TX11) (N := 8) hx hb hts (mc_ inX11) hown hK g rfl 4 (by decide) rfl (hts _ (List.mem_cons_of_mem _ t_952)) (fun _ h9 => h9) 12 rfl dX11_classes_130 ?_
              refine g_getk (C := RX7) (T := TX7) (N := 19) hx hb hts (mc_ inX7) hown hK g rfl 1 (by decide) rfl (hts _ (List.mem_cons_of_mem _ t_627)) (fun _ h9 => h9) 19 rfl dX11_classes_133 ?_
              subst hQ
              exact W.iret (v := w28_7_1_q3_) hx hb hr (fun t ht hW => ⟨⟨_, _, rfl, Or.inr (⟨hG_101, hG_103, hG_104, hG_105, bw28_7_1_q3_, r_61, h_62, x_44, h_45, w28_7_1_q3_, bw28_7_1_q3_, w28_5_2_q5_, bw28_5_2_q5_, w28_5_1_q5_, ⟨mw28_5_1_q5_, kw28_5_1_q5_⟩, w28_2_4_q0_, ⟨mw28_2_4_q0_, kw28_2_4_q0_⟩, w28_2_5_q0_, ⟨mw28_2_5_q0_, kw28_2_5_q0_⟩, a_1, ⟨ma_1, ka_1⟩, (g.fcts [0, 1, 2, 10, 12, 13, 15, 16, 17, 18, 19, 20, 21, 22, 23, 24, 25, 26] rfl)⟩), q3_of g hK ht hW⟩, g.2.2.1.F ht⟩) g.2.2.1.2.2 dX11_classes_136
            · have fc_86 := neq_f c_86
              have b_107 : bd 1 (-1) r_61 := neX fc_86 h_62 kb_0 (by decide)
              exact bd_no b_107 (by decide)
          · have hG_108 := RP.frame hMr_43 go_.2.2.2.1 mq1_ kq1_ (by decide) (by decide) hG28_P_q1_
            have hG_109 := dOK.frame hMr_43 go_.2.2.2.1 mq3_ kq3_ (by decide) (by decide) hG28_d_q3_
            have hG_110 := eOK.frame hMr_43 go_.2.2.2.1 mq6_ kq6_ (by decide) (by decide) hG28_e_q6_
            have hG_111 := cOK.frame hMr_43 go_.2.2.2.1 mq3_ kq3_ (by decide) (by decide) hG28_c_q3_
            have hG_112 := jS.frame hMr_43 go_.2.2.2.1 mq3_ kq3_ (by decide) (by decide) hG28_s_q3_
            have g := g.more hF_49
            refine lv_aload_n hx hb dX11_classes_64 rfl (lv_at hl 1 rfl) ?_
            refine lv_iconst (v := 0) hx hb dX11_classes_65 (by decide) ?_
            have go_ := g
            refine g_put (C := RX11) (T := TX11) (N := 8) hx hb hts (mc_ inX11) tyX11 tyX11_ok nmX11 hown hK g ma0_ ka0_ (by decide) rfl 1 (by decide) (hts _ (List.mem_cons_of_mem _ t_949)) (fun _ h9 => h9) rfl rfl (okV_i (bd_sub kb_0 (by decide))) rfl rfl (by decide) (Or.inr (Or.inl (by decide))) (fx' := [(8, 6, q4_, .int 1201), (8, 8, q4_, .int x_47), (7, 1, q3_, .int w28_7_1_q3_), (5, 2, q5_, .int w28_5_2_q5_), (5, 1, q5_, .ref w28_5_1_q5_), (2, 4, q0_, .ref w28_2_4_q0_), (2, 5, q0_, .ref w28_2_5_q0_), (5, 0, q5_, .ref q3_), (2, 3, q0_, .ref q3_), (8, 4, q4_, .ref a_1), (11, 0, a0_, .ref a_1), (11, 2, a0_, .ref q0_), (11, 3, a0_, .ref q1_), (11, 4, a0_, .ref q2_), (11, 5, a0_, .ref q3_), (2, 0, q0_, .ref q4_), (2, 1, q0_, .ref q5_), (2, 2, q0_, .ref q6_), (10, 0, q1_, .ref q7_), (0, 0, q6_, .ref q4_), (0, 1, q6_, .ref q5_)]) rfl dX11_classes_66 (fun f H locs hM_113 g => ?_)
            have hG_114 := RP.frame hM_113 go_.2.2.2.1 mq1_ kq1_ (by decide) (by decide) hG_108
            have hG_115 := dOK.frame hM_113 go_.2.2.2.1 mq3_ kq3_ (by decide) (by decide) hG_109
            have hG_116 := eOK.frame hM_113 go_.2.2.2.1 mq6_ kq6_ (by decide) (by decide) hG_110
            have hG_117 := cOK.frame hM_113 go_.2.2.2.1 mq3_ kq3_ (by decide) (by decide) hG_111
            have hG_118 := jS.frame hM_113 go_.2.2.2.1 mq3_ kq3_ (by decide) (by decide) hG_112
            refine lv_aload_n hx hb dX11_classes_69 rfl (lv_at hl 1 rfl) ?_
            refine lv_aload_n hx hb dX11_classes_70 rfl (lv_at hl 1 rfl) ?_
            refine g_getk (C := RX11) (T := TX11) (N := 8) hx hb hts (mc_ inX11) hown hK g rfl 2 (by decide) rfl (hts _ (List.mem_cons_of_mem _ t_950)) (fun _ h9 => h9) 12 rfl dX11_classes_71 ?_
            have kb_1201 : bd 1201 1201 (1201 : Int32) := ⟨by decide, by decide⟩
            have go_ := g
            refine g_calli (va_runV (As := []) (rest := [.ref a0_]) ⟨hx, hb, hml, hown, hts⟩ (r_X2_faultKind_2 l dC dI L kd tys f H.size g.2.2.2.1 q0_ mq0_ kq0_ q4_ mq4_ kq4_ 1201 kb_1201 x_47 h_48 (g.fcts [16, 1, 2] rfl)) (cwV 0 hts (gV_ t_1410 t_1411 t_1412 t_183 t_1413) rfl rfl rfl (by decide +kernel) ⟨(Nat.le_of_ble_eq_true rfl), (Nat.le_of_ble_eq_true rfl)⟩) (pre3V g hK mq0_ kq0_ (by decide) (q := (RX2, TX2, 16)) rfl) rfl rfl hl.1 rfl (lv_room (Nat.le_of_ble_eq_true rfl)) dX11_classes_74 ⟨(Nat.le_of_ble_eq_true rfl), (Nat.le_of_ble_eq_true rfl)⟩) g hK (by decide) (by decide) (fx' := [(11, 1, a0_, .int 0), (8, 6, q4_, .int 1201), (8, 8, q4_, .int x_47), (7, 1, q3_, .int w28_7_1_q3_), (5, 2, q5_, .int w28_5_2_q5_), (5, 1, q5_, .ref w28_5_1_q5_), (2, 4, q0_, .ref w28_2_4_q0_), (2, 5, q0_, .ref w28_2_5_q0_), (5, 0, q5_, .ref q3_), (2, 3, q0_, .ref q3_), (8, 4, q4_, .ref a_1), (11, 0, a0_, .ref a_1), (11, 2, a0_, .ref q0_), (11, 3, a0_, .ref q1_), (11, 4, a0_, .ref q2_), (11, 5, a0_, .ref q3_), (2, 0, q0_, .ref q4_), (2, 1, q0_, .ref q5_), (2, 2, q0_, .ref q6_), (10, 0, q1_, .ref q7_), (0, 0, q6_, .ref q4_), (0, 1, q6_, .ref q5_)]) rfl (fun r_119 fr_119 H locs hp hMr_119 g => ?_)
            obtain ⟨h_120, -⟩ := hp
            have hG_121 := RP.frame hMr_119 go_.2.2.2.1 mq1_ kq1_ (by decide) (by decide) hG_114
            have hG_122 := dOK.frame hMr_119 go_.2.2.2.1 mq3_ kq3_ (by decide) (by decide) hG_115
            have hG_123 := eOK.frame hMr_119 go_.2.2.2.1 mq6_ kq6_ (by decide) (by decide) hG_116
            have hG_124 := cOK.frame hMr_119 go_.2.2.2.1 mq3_ kq3_ (by decide) (by decide) hG_117
            have hG_125 := jS.frame hMr_119 go_.2.2.2.1 mq3_ kq3_ (by decide) (by decide) hG_118
            have go_ := g
            refine g_put (C := RX11) (T := TX11) (N := 8) hx hb hts (mc_ inX11) tyX11 tyX11_ok nmX11 hown hK g ma0_ ka0_ (by decide) rfl 6 (by decide) (hts _ (List.mem_cons_of_mem _ t_954)) (fun _ h9 => h9) rfl rfl (okV_i (bd_sub h_120 (by decide))) rfl rfl (by decide) (Or.inr (Or.inl (by decide))) (fx' := [(11, 1, a0_, .int 0), (8, 6, q4_, .int 1201), (8, 8, q4_, .int x_47), (7, 1, q3_, .int w28_7_1_q3_), (5, 2, q5_, .int w28_5_2_q5_), (5, 1, q5_, .ref w28_5_1_q5_), (2, 4, q0_, .ref w28_2_4_q0_), (2, 5, q0_, .ref w28_2_5_q0_), (5, 0, q5_, .ref q3_), (2, 3, q0_, .ref q3_), (8, 4, q4_, .ref a_1), (11, 0, a0_, .ref a_1), (11, 2, a0_, .ref q0_), (11, 3, a0_, .ref q1_), (11, 4, a0_, .ref q2_), (11, 5, a0_, .ref q3_), (2, 0, q0_, .ref q4_), (2, 1, q0_, .ref q5_), (2, 2, q0_, .ref q6_), (10, 0, q1_, .ref q7_), (0, 0, q6_, .ref q4_), (0, 1, q6_, .ref q5_)]) rfl dX11_classes_77 (fun f H locs hM_126 g => ?_)
            have hG_127 := RP.frame hM_126 go_.2.2.2.1 mq1_ kq1_ (by decide) (by decide) hG_121
            have hG_128 := dOK.frame hM_126 go_.2.2.2.1 mq3_ kq3_ (by decide) (by decide) hG_122
            have hG_129 := eOK.frame hM_126 go_.2.2.2.1 mq6_ kq6_ (by decide) (by decide) hG_123
            have hG_130 := cOK.frame hM_126 go_.2.2.2.1 mq3_ kq3_ (by decide) (by decide) hG_124
            have hG_131 := jS.frame hM_126 go_.2.2.2.1 mq3_ kq3_ (by decide) (by decide) hG_125
            refine lv_aload_n hx hb dX11_classes_80 rfl (lv_at hl 1 rfl) ?_
            refine lv_aload_n hx hb dX11_classes_81 rfl (lv_at hl 1 rfl) ?_
            refine g_getk (C := RX11) (T := TX11) (N := 8) hx hb hts (mc_ inX11) hown hK g rfl 2 (by decide) rfl (hts _ (List.mem_cons_of_mem _ t_950)) (fun _ h9 => h9) 13 rfl dX11_classes_82 ?_
            have go_ := g
            refine g_calli (va_runV (As := []) (rest := [.ref a0_]) ⟨hx, hb, hml, hown, hts⟩ (r_X2_faultPlace_2 l dC dI L kd tys f H.size g.2.2.2.1 q0_ mq0_ kq0_ q4_ mq4_ kq4_ 1201 kb_1201 x_47 h_48 (g.fcts [17, 2, 3] rfl)) (cwV 0 hts (gV_ t_1414 t_1415 t_1416 t_183 t_1417) rfl rfl rfl (by decide +kernel) ⟨(Nat.le_of_ble_eq_true rfl), (Nat.le_of_ble_eq_true rfl)⟩) (pre3V g hK mq0_ kq0_ (by decide) (q := (RX2, TX2, 16)) rfl) rfl rfl hl.1 rfl (lv_room (Nat.le_of_ble_eq_true rfl)) dX11_classes_85 ⟨(Nat.le_of_ble_eq_true rfl), (Nat.le_of_ble_eq_true rfl)⟩) g hK (by decide) (by decide) (fx' := [(11, 6, a0_, .int r_119), (11, 1, a0_, .int 0), (8, 6, q4_, .int 1201), (8, 8, q4_, .int x_47), (7, 1, q3_, .int w28_7_1_q3_), (5, 2, q5_, .int w28_5_2_q5_), (5, 1, q5_, .ref w28_5_1_q5_), (2, 4, q0_, .ref w28_2_4_q0_), (2, 5, q0_, .ref w28_2_5_q0_), (5, 0, q5_, .ref q3_), (2, 3, q0_, .ref q3_), (8, 4, q4_, .ref a_1), (11, 0, a0_, .ref a_1), (11, 2, a0_, .ref q0_), (11, 3, a0_, .ref q1_), (11, 4, a0_, .ref q2_), (11, 5, a0_, .ref q3_), (2, 0, q0_, .ref q4_), (2, 1, q0_, .ref q5_), (2, 2, q0_, .ref q6_), (10, 0, q1_, .ref q7_), (0, 0, q6_, .ref q4_), (0, 1, q6_, .ref q5_)]) rfl (fun r_132 fr_132 H locs hp hMr_132 g => ?_)
            have hG_133 := RP.frame hMr_132 go_.2.2.2.1 mq1_ kq1_ (by decide) (by decide) hG_127
            have hG_134 := dOK.frame hMr_132 go_.2.2.2.1 mq3_ kq3_ (by decide) (by decide) hG_128
            have hG_135 := eOK.frame hMr_132 go_.2.2.2.1 mq6_ kq6_ (by decide) (by decide) hG_129
            have hG_136 := cOK.frame hMr_132 go_.2.2.2.1 mq3_ kq3_ (by decide) (by decide) hG_130
            have hG_137 := jS.frame hMr_132 go_.2.2.2.1 mq3_ kq3_ (by decide) (by decide) hG_131
            have go_ := g
            refine g_put (C := RX11) (T := TX11) (N := 8) hx hb hts (mc_ inX11) tyX11 tyX11_ok nmX11 hown hK g ma0_ ka0_ (by decide) rfl 7 (by decide) (hts _ (List.mem_cons_of_mem _ t_955)) (fun _ h9 => h9) rfl rfl (okV_i (bdT r_132)) rfl rfl (by decide) (Or.inr (Or.inl (by decide))) (fx' := [(11, 6, a0_, .int r_119), (11, 1, a0_, .int 0), (8, 6, q4_, .int 1201), (8, 8, q4_, .int x_47), (7, 1, q3_, .int w28_7_1_q3_), (5, 2, q5_, .int w28_5_2_q5_), (5, 1, q5_, .ref w28_5_1_q5_), (2, 4, q0_, .ref w28_2_4_q0_), (2, 5, q0_, .ref w28_2_5_q0_), (5, 0, q5_, .ref q3_), (2, 3, q0_, .ref q3_), (8, 4, q4_, .ref a_1), (11, 0, a0_, .ref a_1), (11, 2, a0_, .ref q0_), (11, 3, a0_, .ref q1_), (11, 4, a0_, .ref q2_), (11, 5, a0_, .ref q3_), (2, 0, q0_, .ref q4_), (2, 1, q0_, .ref q5_), (2, 2, q0_, .ref q6_), (10, 0, q1_, .ref q7_), (0, 0, q6_, .ref q4_), (0, 1, q6_, .ref q5_)]) rfl dX11_classes_88 (fun f H locs hM_138 g => ?_)
            have hG_139 := RP.frame hM_138 go_.2.2.2.1 mq1_ kq1_ (by decide) (by decide) hG_133
            have hG_140 := dOK.frame hM_138 go_.2.2.2.1 mq3_ kq3_ (by decide) (by decide) hG_134
            have hG_141 := eOK.frame hM_138 go_.2.2.2.1 mq6_ kq6_ (by decide) (by decide) hG_135
            have hG_142 := cOK.frame hM_138 go_.2.2.2.1 mq3_ kq3_ (by decide) (by decide) hG_136
            have hG_143 := jS.frame hM_138 go_.2.2.2.1 mq3_ kq3_ (by decide) (by decide) hG_137
            refine lv_aload_n hx hb dX11_classes_91 rfl (lv_at hl 1 rfl) ?_
            refine g_getk (C := RX11) (T := TX11) (N := 8) hx hb hts (mc_ inX11) hown hK g rfl 6 (by decide) rfl (hts _ (List.mem_cons_of_mem _ t_954)) (fun _ h9 => h9) 1 rfl dX11_classes_92 ?_
            refine lv_if_eq (tgt := 100) hx hb dX11_classes_95 (by decide) (fun c_144 => ?_) (fun c_144 => ?_)
            · have fc_144 := eq_f c_144
              have b_145 : bd 1 0 r_119 := eqX fc_144 h_120 kb_0 (by decide)
              exact bd_no b_145 (by decide)
            · have fc_144 := neq_f c_144
              refine lv_iconst (v := (-1)) hx hb dX11_classes_98 (by decide) ?_
              subst hQ
              exact W.iret (v := (-1)) hx hb hr (fun t ht hW => ⟨⟨_, _, rfl, Or.inl ⟨hG_139, hG_140, hG_141, rfl, r_119, h_120, 1201, kb_1201, x_47, h_48, w28_5_1_q5_, ⟨mw28_5_1_q5_, kw28_5_1_q5_⟩, w28_2_4_q0_, ⟨mw28_2_4_q0_, kw28_2_4_q0_⟩, w28_2_5_q0_, ⟨mw28_2_5_q0_, kw28_2_5_q0_⟩, a_1, ⟨ma_1, ka_1⟩, (g.fcts [1, 2, 3, 4, 7, 8, 9, 10, 11, 12, 16, 17, 21] rfl)⟩, q3_of g hK ht hW⟩, g.2.2.1.F ht⟩) g.2.2.1.2.2 dX11_classes_99
        · have fc_41 := nlt_f c_41
          have b_146 : bd 0 8 v28_1 := leL fc_41 bv28_1 kb_8 (by decide)
          refine lv_aload_n hx hb dX11_classes_34 rfl (lv_at hl 1 rfl) ?_
          refine g_getk (C := RX11) (T := TX11) (N := 8) hx hb hts (mc_ inX11) hown hK g rfl 2 (by decide) rfl (hts _ (List.mem_cons_of_mem _ t_950)) (fun _ h9 => h9) 12 rfl dX11_classes_35 ?_
          have go_ := g
          refine g_calli (va_runV (As := []) (rest := []) ⟨hx, hb, hml, hown, hts⟩ (r_X2_atClass l dC dI L kd tys f H.size g.2.2.2.1 q0_ mq0_ kq0_ q4_ mq4_ kq4_ 0 kb_0 (g.fcts [16, 2] rfl)) (cwV 0 hts (gV_ t_1402 t_1403 t_1404 t_183 t_1405) rfl rfl rfl (by decide +kernel) ⟨(Nat.le_of_ble_eq_true rfl), (Nat.le_of_ble_eq_true rfl)⟩) (pre3V g hK mq0_ kq0_ (by decide) (q := (RX2, TX2, 16)) rfl) rfl rfl hl.1 rfl (lv_room (Nat.le_of_ble_eq_true rfl)) dX11_classes_38 ⟨(Nat.le_of_ble_eq_true rfl), (Nat.le_of_ble_eq_true rfl)⟩) g hK (by decide) (by decide) (fx' := [(7, 1, q3_, .int w28_7_1_q3_), (8, 6, q4_, .int w28_8_6_q4_), (8, 8, q4_, .int 0), (5, 2, q5_, .int w28_5_2_q5_), (5, 1, q5_, .ref w28_5_1_q5_), (2, 4, q0_, .ref w28_2_4_q0_), (2, 5, q0_, .ref w28_2_5_q0_), (5, 0, q5_, .ref q3_), (2, 3, q0_, .ref q3_), (8, 4, q4_, .ref a_1), (11, 1, a0_, .int x_2), (11, 0, a0_, .ref a_1), (11, 2, a0_, .ref q0_), (11, 3, a0_, .ref q1_), (11, 4, a0_, .ref q2_), (11, 5, a0_, .ref q3_), (2, 0, q0_, .ref q4_), (2, 1, q0_, .ref q5_), (2, 2, q0_, .ref q6_), (10, 0, q1_, .ref q7_), (0, 0, q6_, .ref q4_), (0, 1, q6_, .ref q5_)]) rfl (fun r_147 fr_147 H locs hp hMr_147 g => ?_)
          rcases hp with ⟨h_148, -⟩ | ⟨h_149, -⟩
          · have hG_150 := RP.frame hMr_147 go_.2.2.2.1 mq1_ kq1_ (by decide) (by decide) hG28_P_q1_
            have hG_151 := dOK.frame hMr_147 go_.2.2.2.1 mq3_ kq3_ (by decide) (by decide) hG28_d_q3_
            have hG_152 := eOK.frame hMr_147 go_.2.2.2.1 mq6_ kq6_ (by decide) (by decide) hG28_e_q6_
            have hG_153 := cOK.frame hMr_147 go_.2.2.2.1 mq3_ kq3_ (by decide) (by decide) hG28_c_q3_
            have hG_154 := jS.frame hMr_147 go_.2.2.2.1 mq3_ kq3_ (by decide) (by decide) hG28_s_q3_
            obtain rfl : r_147 = 0 := h_148
            refine lv_if_eq (tgt := 57) hx hb dX11_classes_41 (by decide) (fun c_ => ?_) (fun c_ => absurd (by decide) c_)
            refine lv_aload_n hx hb dX11_classes_57 rfl (lv_at hl 1 rfl) ?_
            refine g_getk (C := RX11) (T := TX11) (N := 8) hx hb hts (mc_ inX11) hown hK g rfl 2 (by decide) rfl (hts _ (List.mem_cons_of_mem _ t_950)) (fun _ h9 => h9) 12 rfl dX11_classes_58 ?_
            have go_ := g
            refine g_callv (va_runV (As := []) (rest := []) ⟨hx, hb, hml, hown, hts⟩ (r_X2_finish l dC dI L kd tys fr_147 H.size g.2.2.2.1 q0_ mq0_ kq0_ q4_ mq4_ kq4_ 0 kb_0 (g.fcts [16, 2] rfl)) (cwV 0 hts (gV_ t_1406 t_1407 t_1408 t_183 t_1409) rfl rfl rfl (by decide +kernel) ⟨(Nat.le_of_ble_eq_true rfl), (Nat.le_of_ble_eq_true rfl)⟩) (pre3V g hK mq0_ kq0_ (by decide) (q := (RX2, TX2, 16)) rfl) rfl rfl hl.1 rfl (lv_room (Nat.le_of_ble_eq_true rfl)) dX11_classes_61 ⟨(Nat.le_of_ble_eq_true rfl), (Nat.le_of_ble_eq_true rfl)⟩) g hK (by decide) (by decide) (fx' := [(7, 1, q3_, .int w28_7_1_q3_), (5, 2, q5_, .int w28_5_2_q5_), (5, 1, q5_, .ref w28_5_1_q5_), (2, 4, q0_, .ref w28_2_4_q0_), (2, 5, q0_, .ref w28_2_5_q0_), (5, 0, q5_, .ref q3_), (2, 3, q0_, .ref q3_), (8, 4, q4_, .ref a_1), (11, 1, a0_, .int x_2), (11, 0, a0_, .ref a_1), (11, 2, a0_, .ref q0_), (11, 3, a0_, .ref q1_), (11, 4, a0_, .ref q2_), (11, 5, a0_, .ref q3_), (2, 0, q0_, .ref q4_), (2, 1, q0_, .ref q5_), (2, 2, q0_, .ref q6_), (10, 0, q1_, .ref q7_), (0, 0, q6_, .ref q4_), (0, 1, q6_, .ref q5_)]) rfl (fun fr_155 H locs hp hMr_155 g => ?_)
            rcases hp with ⟨x_156, h_157, hF_158⟩ | ⟨x_159, h_160, hF_161⟩
            · have hG_162 := RP.frame hMr_155 go_.2.2.2.1 mq1_ kq1_ (by decide) (by decide) hG_150
              have hG_163 := dOK.frame hMr_155 go_.2.2.2.1 mq3_ kq3_ (by decide) (by decide) hG_151
              have hG_164 := eOK.frame hMr_155 go_.2.2.2.1 mq6_ kq6_ (by decide) (by decide) hG_152
              have hG_165 := cOK.frame hMr_155 go_.2.2.2.1 mq3_ kq3_ (by decide) (by decide) hG_153
              have hG_166 := jS.frame hMr_155 go_.2.2.2.1 mq3_ kq3_ (by decide) (by decide) hG_154
              have g := g.more hF_158
              refine lv_aload_n hx hb dX11_classes_64 rfl (lv_at hl 1 rfl) ?_
              refine lv_iconst (v := 0) hx hb dX11_classes_65 (by decide) ?_
              have go_ := g
              refine g_put (C := RX11) (T := TX11) (N := 8) hx hb hts (mc_ inX11) tyX11 tyX11_ok nmX11 hown hK g ma0_ ka0_ (by decide) rfl 1 (by decide) (hts _ (List.mem_cons_of_mem _ t_949)) (fun _ h9 => h9) rfl rfl (okV_i (bd_sub kb_0 (by decide))) rfl rfl (by decide) (Or.inr (Or.inl (by decide))) (fx' := [(8, 6, q4_, .int x_156), (8, 8, q4_, .int 0), (7, 1, q3_, .int w28_7_1_q3_), (5, 2, q5_, .int w28_5_2_q5_), (5, 1, q5_, .ref w28_5_1_q5_), (2, 4, q0_, .ref w28_2_4_q0_), (2, 5, q0_, .ref w28_2_5_q0_), (5, 0, q5_, .ref q3_), (2, 3, q0_, .ref q3_), (8, 4, q4_, .ref a_1), (11, 0, a0_, .ref a_1), (11, 2, a0_, .ref q0_), (11, 3, a0_, .ref q1_), (11, 4, a0_, .ref q2_), (11, 5, a0_, .ref q3_), (2, 0, q0_, .ref q4_), (2, 1, q0_, .ref q5_), (2, 2, q0_, .ref q6_), (10, 0, q1_, .ref q7_), (0, 0, q6_, .ref q4_), (0, 1, q6_, .ref q5_)]) rfl dX11_classes_66 (fun f H locs hM_167 g => ?_)
              have hG_168 := RP.frame hM_167 go_.2.2.2.1 mq1_ kq1_ (by decide) (by decide) hG_162
              have hG_169 := dOK.frame hM_167 go_.2.2.2.1 mq3_ kq3_ (by decide) (by decide) hG_163
              have hG_170 := eOK.frame hM_167 go_.2.2.2.1 mq6_ kq6_ (by decide) (by decide) hG_164
              have hG_171 := cOK.frame hM_167 go_.2.2.2.1 mq3_ kq3_ (by decide) (by decide) hG_165
              have hG_172 := jS.frame hM_167 go_.2.2.2.1 mq3_ kq3_ (by decide) (by decide) hG_166
              refine lv_aload_n hx hb dX11_classes_69 rfl (lv_at hl 1 rfl) ?_
              refine lv_aload_n hx hb dX11_classes_70 rfl (lv_at hl 1 rfl) ?_
              refine g_getk (C := RX11) (T := TX11) (N := 8) hx hb hts (mc_ inX11) hown hK g rfl 2 (by decide) rfl (hts _ (List.mem_cons_of_mem _ t_950)) (fun _ h9 => h9) 12 rfl dX11_classes_71 ?_
              have go_ := g
              refine g_calli (va_runV (As := []) (rest := [.ref a0_]) ⟨hx, hb, hml, hown, hts⟩ (r_X2_faultKind l dC dI L kd tys f H.size g.2.2.2.1 q0_ mq0_ kq0_ q4_ mq4_ kq4_ 0 kb_0 (g.fcts [16, 2] rfl)) (cwV 0 hts (gV_ t_1410 t_1411 t_1412 t_183 t_1413) rfl rfl rfl (by decide +kernel) ⟨(Nat.le_of_ble_eq_true rfl), (Nat.le_of_ble_eq_true rfl)⟩) (pre3V g hK mq0_ kq0_ (by decide) (q := (RX2, TX2, 16)) rfl) rfl rfl hl.1 rfl (lv_room (Nat.le_of_ble_eq_true rfl)) dX11_classes_74 ⟨(Nat.le_of_ble_eq_true rfl), (Nat.le_of_ble_eq_true rfl)⟩) g hK (by decide) (by decide) (fx' := [(11, 1, a0_, .int 0), (8, 6, q4_, .int x_156), (8, 8, q4_, .int 0), (7, 1, q3_, .int w28_7_1_q3_), (5, 2, q5_, .int w28_5_2_q5_), (5, 1, q5_, .ref w28_5_1_q5_), (2, 4, q0_, .ref w28_2_4_q0_), (2, 5, q0_, .ref w28_2_5_q0_), (5, 0, q5_, .ref q3_), (2, 3, q0_, .ref q3_), (8, 4, q4_, .ref a_1), (11, 0, a0_, .ref a_1), (11, 2, a0_, .ref q0_), (11, 3, a0_, .ref q1_), (11, 4, a0_, .ref q2_), (11, 5, a0_, .ref q3_), (2, 0, q0_, .ref q4_), (2, 1, q0_, .ref q5_), (2, 2, q0_, .ref q6_), (10, 0, q1_, .ref q7_), (0, 0, q6_, .ref q4_), (0, 1, q6_, .ref q5_)]) rfl (fun r_173 fr_173 H locs hp hMr_173 g => ?_)
              obtain ⟨h_174, -⟩ := hp
              have hG_175 := RP.frame hMr_173 go_.2.2.2.1 mq1_ kq1_ (by decide) (by decide) hG_168
              have hG_176 := dOK.frame hMr_173 go_.2.2.2.1 mq3_ kq3_ (by decide) (by decide) hG_169
              have hG_177 := eOK.frame hMr_173 go_.2.2.2.1 mq6_ kq6_ (by decide) (by decide) hG_170
              have hG_178 := cOK.frame hMr_173 go_.2.2.2.1 mq3_ kq3_ (by decide) (by decide) hG_171
              have hG_179 := jS.frame hMr_173 go_.2.2.2.1 mq3_ kq3_ (by decide) (by decide) hG_172
              have go_ := g
              refine g_put (C := RX11) (T := TX11) (N := 8) hx hb hts (mc_ inX11) tyX11 tyX11_ok nmX11 hown hK g ma0_ ka0_ (by decide) rfl 6 (by decide) (hts _ (List.mem_cons_of_mem _ t_954)) (fun _ h9 => h9) rfl rfl (okV_i (bd_sub h_174 (by decide))) rfl rfl (by decide) (Or.inr (Or.inl (by decide))) (fx' := [(11, 1, a0_, .int 0), (8, 6, q4_, .int x_156), (8, 8, q4_, .int 0), (7, 1, q3_, .int w28_7_1_q3_), (5, 2, q5_, .int w28_5_2_q5_), (5, 1, q5_, .ref w28_5_1_q5_), (2, 4, q0_, .ref w28_2_4_q0_), (2, 5, q0_, .ref w28_2_5_q0_), (5, 0, q5_, .ref q3_), (2, 3, q0_, .ref q3_), (8, 4, q4_, .ref a_1), (11, 0, a0_, .ref a_1), (11, 2, a0_, .ref q0_), (11, 3, a0_, .ref q1_), (11, 4, a0_, .ref q2_), (11, 5, a0_, .ref q3_), (2, 0, q0_, .ref q4_), (2, 1, q0_, .ref q5_), (2, 2, q0_, .ref q6_), (10, 0, q1_, .ref q7_), (0, 0, q6_, .ref q4_), (0, 1, q6_, .ref q5_)]) rfl dX11_classes_77 (fun f H locs hM_180 g => ?_)
              have hG_181 := RP.frame hM_180 go_.2.2.2.1 mq1_ kq1_ (by decide) (by decide) hG_175
              have hG_182 := dOK.frame hM_180 go_.2.2.2.1 mq3_ kq3_ (by decide) (by decide) hG_176
              have hG_183 := eOK.frame hM_180 go_.2.2.2.1 mq6_ kq6_ (by decide) (by decide) hG_177
              have hG_184 := cOK.frame hM_180 go_.2.2.2.1 mq3_ kq3_ (by decide) (by decide) hG_178
              have hG_185 := jS.frame hM_180 go_.2.2.2.1 mq3_ kq3_ (by decide) (by decide) hG_179
              refine lv_aload_n hx hb dX11_classes_80 rfl (lv_at hl 1 rfl) ?_
              refine lv_aload_n hx hb dX11_classes_81 rfl (lv_at hl 1 rfl) ?_
              refine g_getk (C := RX11) (T := TX11) (N := 8) hx hb hts (mc_ inX11) hown hK g rfl 2 (by decide) rfl (hts _ (List.mem_cons_of_mem _ t_950)) (fun _ h9 => h9) 13 rfl dX11_classes_82 ?_
              have go_ := g
              refine g_calli (va_runV (As := []) (rest := [.ref a0_]) ⟨hx, hb, hml, hown, hts⟩ (r_X2_faultPlace l dC dI L kd tys f H.size g.2.2.2.1 q0_ mq0_ kq0_ q4_ mq4_ kq4_ 0 kb_0 (g.fcts [17, 3] rfl)) (cwV 0 hts (gV_ t_1414 t_1415 t_1416 t_183 t_1417) rfl rfl rfl (by decide +kernel) ⟨(Nat.le_of_ble_eq_true rfl), (Nat.le_of_ble_eq_true rfl)⟩) (pre3V g hK mq0_ kq0_ (by decide) (q := (RX2, TX2, 16)) rfl) rfl rfl hl.1 rfl (lv_room (Nat.le_of_ble_eq_true rfl)) dX11_classes_85 ⟨(Nat.le_of_ble_eq_true rfl), (Nat.le_of_ble_eq_true rfl)⟩) g hK (by decide) (by decide) (fx' := [(11, 6, a0_, .int r_173), (11, 1, a0_, .int 0), (8, 6, q4_, .int x_156), (8, 8, q4_, .int 0), (7, 1, q3_, .int w28_7_1_q3_), (5, 2, q5_, .int w28_5_2_q5_), (5, 1, q5_, .ref w28_5_1_q5_), (2, 4, q0_, .ref w28_2_4_q0_), (2, 5, q0_, .ref w28_2_5_q0_), (5, 0, q5_, .ref q3_), (2, 3, q0_, .ref q3_), (8, 4, q4_, .ref a_1), (11, 0, a0_, .ref a_1), (11, 2, a0_, .ref q0_), (11, 3, a0_, .ref q1_), (11, 4, a0_, .ref q2_), (11, 5, a0_, .ref q3_), (2, 0, q0_, .ref q4_), (2, 1, q0_, .ref q5_), (2, 2, q0_, .ref q6_), (10, 0, q1_, .ref q7_), (0, 0, q6_, .ref q4_), (0, 1, q6_, .ref q5_)]) rfl (fun r_186 fr_186 H locs hp hMr_186 g => ?_)
              have hG_187 := RP.frame hMr_186 go_.2.2.2.1 mq1_ kq1_ (by decide) (by decide) hG_181
              have hG_188 := dOK.frame hMr_186 go_.2.2.2.1 mq3_ kq3_ (by decide) (by decide) hG_182
              have hG_189 := eOK.frame hMr_186 go_.2.2.2.1 mq6_ kq6_ (by decide) (by decide) hG_183
              have hG_190 := cOK.frame hMr_186 go_.2.2.2.1 mq3_ kq3_ (by decide) (by decide) hG_184
              have hG_191 := jS.frame hMr_186 go_.2.2.2.1 mq3_ kq3_ (by decide) (by decide) hG_185
              have go_ := g
              refine g_put (C := RX11) (T := TX11) (N := 8) hx hb hts (mc_ inX11) tyX11 tyX11_ok nmX11 hown hK g ma0_ ka0_ (by decide) rfl 7 (by decide) (hts _ (List.mem_cons_of_mem _ t_955)) (fun _ h9 => h9) rfl rfl (okV_i (bdT r_186)) rfl rfl (by decide) (Or.inr (Or.inl (by decide))) (fx' := [(11, 6, a0_, .int r_173), (11, 1, a0_, .int 0), (8, 6, q4_, .int x_156), (8, 8, q4_, .int 0), (7, 1, q3_, .int w28_7_1_q3_), (5, 2, q5_, .int w28_5_2_q5_), (5, 1, q5_, .ref w28_5_1_q5_), (2, 4, q0_, .ref w28_2_4_q0_), (2, 5, q0_, .ref w28_2_5_q0_), (5, 0, q5_, .ref q3_), (2, 3, q0_, .ref q3_), (8, 4, q4_, .ref a_1), (11, 0, a0_, .ref a_1), (11, 2, a0_, .ref q0_), (11, 3, a0_, .ref q1_), (11, 4, a0_, .ref q2_), (11, 5, a0_, .ref q3_), (2, 0, q0_, .ref q4_), (2, 1, q0_, .ref q5_), (2, 2, q0_, .ref q6_), (10, 0, q1_, .ref q7_), (0, 0, q6_, .ref q4_), (0, 1, q6_, .ref q5_)]) rfl dX11_classes_88 (fun f H locs hM_192 g => ?_)
              have hG_193 := RP.frame hM_192 go_.2.2.2.1 mq1_ kq1_ (by decide) (by decide) hG_187
              have hG_194 := dOK.frame hM_192 go_.2.2.2.1 mq3_ kq3_ (by decide) (by decide) hG_188
              have hG_195 := eOK.frame hM_192 go_.2.2.2.1 mq6_ kq6_ (by decide) (by decide) hG_189
              have hG_196 := cOK.frame hM_192 go_.2.2.2.1 mq3_ kq3_ (by decide) (by decide) hG_190
              have hG_197 := jS.frame hM_192 go_.2.2.2.1 mq3_ kq3_ (by decide) (by decide) hG_191
              refine lv_aload_n hx hb dX11_classes_91 rfl (lv_at hl 1 rfl) ?_
              refine g_getk (C := RX11) (T := TX11) (N := 8) hx hb hts (mc_ inX11) hown hK g rfl 6 (by decide) rfl (hts _ (List.mem_cons_of_mem _ t_954)) (fun _ h9 => h9) 1 rfl dX11_classes_92 ?_
              refine lv_if_eq (tgt := 100) hx hb dX11_classes_95 (by decide) (fun c_198 => ?_) (fun c_198 => ?_)
              · have fc_198 := eq_f c_198
                refine lv_aload_n hx hb dX11_classes_100 rfl (lv_at hl 1 rfl) ?_
                refine g_getk (C := RX11) (T := TX11) (N := 8) hx hb hts (mc_ inX11) hown hK g rfl 5 (by decide) rfl (hts _ (List.mem_cons_of_mem _ t_953)) (fun _ h9 => h9) 17 rfl dX11_classes_101 ?_
                refine lv_astore_n (lv' := [(1, .ref q3_), (0, .ref a0_)]) hx hb dX11_classes_104 rfl hl (by decide) rfl (fun ls hl => ?_)
                refine lv_aload_n hx hb dX11_classes_105 rfl (lv_at hl 1 rfl) ?_
                refine lv_aload_n hx hb dX11_classes_106 rfl (lv_at hl 1 rfl) ?_
                refine g_getk (C := RX11) (T := TX11) (N := 8) hx hb hts (mc_ inX11) hown hK g rfl 4 (by decide) rfl (hts _ (List.mem_cons_of_mem _ t_952)) (fun _ h9 => h9) 16 rfl dX11_classes_107 ?_
                have go_ := g
                refine g_put (C := RX11) (T := TX11) (N := 8) hx hb hts (mc_ inX11) tyX11 tyX11_ok nmX11 hown hK g ma0_ ka0_ (by decide) rfl 5 (by decide) (hts _ (List.mem_cons_of_mem _ t_953)) (fun _ h9 => h9) rfl rfl (okV_r mq2_ kq2_ (by decide)) rfl rfl (by decide) (Or.inr (Or.inl (by decide))) (fx' := [(11, 7, a0_, .int r_186), (11, 6, a0_, .int r_173), (11, 1, a0_, .int 0), (8, 6, q4_, .int x_156), (8, 8, q4_, .int 0), (7, 1, q3_, .int w28_7_1_q3_), (5, 2, q5_, .int w28_5_2_q5_), (5, 1, q5_, .ref w28_5_1_q5_), (2, 4, q0_, .ref w28_2_4_q0_), (2, 5, q0_, .ref w28_2_5_q0_), (5, 0, q5_, .ref q3_), (2, 3, q0_, .ref q3_), (8, 4, q4_, .ref a_1), (11, 0, a0_, .ref a_1), (11, 2, a0_, .ref q0_), (11, 3, a0_, .ref q1_), (11, 4, a0_, .ref q2_), (2, 0, q0_, .ref q4_), (2, 1, q0_, .ref q5_), (2, 2, q0_, .ref q6_), (10, 0, q1_, .ref q7_), (0, 0, q6_, .ref q4_), (0, 1, q6_, .ref q5_)]) rfl dX11_classes_110 (fun f H locs hM_199 g => ?_)
                have hG_200 := RP.frame hM_199 go_.2.2.2.1 mq1_ kq1_ (by decide) (by decide) hG_193
                have hG_201 := dOK.frame hM_199 go_.2.2.2.1 mq3_ kq3_ (by decide) (by decide) hG_194
                have hG_202 := eOK.frame hM_199 go_.2.2.2.1 mq6_ kq6_ (by decide) (by decide) hG_195
                have hG_203 := cOK.frame hM_199 go_.2.2.2.1 mq3_ kq3_ (by decide) (by decide) hG_196
                have hG_204 := jS.frame hM_199 go_.2.2.2.1 mq3_ kq3_ (by decide) (by decide) hG_197
                refine lv_aload_n hx hb dX11_classes_113 rfl (lv_at hl 1 rfl) ?_
                refine lv_aload_n hx hb dX11_classes_114 rfl (lv_at hl 0 rfl) ?_
                have go_ := g
                refine g_put (C := RX11) (T := TX11) (N := 8) hx hb hts (mc_ inX11) tyX11 tyX11_ok nmX11 hown hK g ma0_ ka0_ (by decide) rfl 4 (by decide) (hts _ (List.mem_cons_of_mem _ t_952)) (fun _ h9 => h9) rfl rfl (okV_r mq3_ kq3_ (by decide)) rfl rfl (by decide) (Or.inr (Or.inl (by decide))) (fx' := [(11, 5, a0_, .ref q2_), (11, 7, a0_, .int r_186), (11, 6, a0_, .int r_173), (11, 1, a0_, .int 0), (8, 6, q4_, .int x_156), (8, 8, q4_, .int 0), (7, 1, q3_, .int w28_7_1_q3_), (5, 2, q5_, .int w28_5_2_q5_), (5, 1, q5_, .ref w28_5_1_q5_), (2, 4, q0_, .ref w28_2_4_q0_), (2, 5, q0_, .ref w28_2_5_q0_), (5, 0, q5_, .ref q3_), (2, 3, q0_, .ref q3_), (8, 4, q4_, .ref a_1), (11, 0, a0_, .ref a_1), (11, 2, a0_, .ref q0_), (11, 3, a0_, .ref q1_), (2, 0, q0_, .ref q4_), (2, 1, q0_, .ref q5_), (2, 2, q0_, .ref q6_), (10, 0, q1_, .ref q7_), (0, 0, q6_, .ref q4_), (0, 1, q6_, .ref q5_)]) rfl dX11_classes_115 (fun f H locs hM_205 g => ?_)
                have hG_206 := RP.frame hM_205 go_.2.2.2.1 mq1_ kq1_ (by decide) (by decide) hG_200
                have hG_207 := dOK.frame hM_205 go_.2.2.2.1 mq3_ kq3_ (by decide) (by decide) hG_201
                have hG_208 := eOK.frame hM_205 go_.2.2.2.1 mq6_ kq6_ (by decide) (by decide) hG_202
                have hG_209 := cOK.frame hM_205 go_.2.2.2.1 mq3_ kq3_ (by decide) (by decide) hG_203
                have hG_210 := jS.frame hM_205 go_.2.2.2.1 mq3_ kq3_ (by decide) (by decide) hG_204
                refine lv_aload_n hx hb dX11_classes_118 rfl (lv_at hl 1 rfl) ?_
                refine g_getk (C := RX11) (T := TX11) (N := 8) hx hb hts (mc_ inX11) hown hK g rfl 3 (by decide) rfl (hts _ (List.mem_cons_of_mem _ t_951)) (fun _ h9 => h9) 17 rfl dX11_classes_119 ?_
                refine lv_aload_n hx hb dX11_classes_122 rfl (lv_at hl 1 rfl) ?_
                refine g_getk (C := RX11) (T := TX11) (N := 8) hx hb hts (mc_ inX11) hown hK g rfl 4 (by decide) rfl (hts _ (List.mem_cons_of_mem _ t_952)) (fun _ h9 => h9) 0 rfl dX11_classes_123 ?_
                obtain ⟨a_211, ma_211, ka_211, g⟩ := g_factr (K := 4) g mq1_ kq1_ (by decide) 4 rfl
                have go_ := g
                refine g_callv (va_runV (As := [.ref q3_]) (rest := []) ⟨hx, hb, hml, hown, hts⟩ (r_X10_useText l dC dI L kd tys f H.size g.2.2.2.1 q1_ mq1_ kq1_ q3_ mq3_ kq3_ a_211 ma_211 ka_211 hG_206 (g.fcts [0] rfl)) (cwV 1 hts (gV_ t_1418 t_1419 t_1420 t_194 t_1421) rfl rfl rfl (by decide +kernel) ⟨(Nat.le_of_ble_eq_true rfl), (Nat.le_of_ble_eq_true rfl)⟩) (pre3V g hK mq1_ kq1_ (by decide) (q := (RX10, TX10, 10)) rfl) rfl rfl hl.1 rfl (lv_room (Nat.le_of_ble_eq_true rfl)) dX11_classes_126 ⟨(Nat.le_of_ble_eq_true rfl), (Nat.le_of_ble_eq_true rfl)⟩) g hK (by decide) (by decide) (fx' := [(10, 4, q1_, .ref a_211), (11, 4, a0_, .ref q3_), (11, 5, a0_, .ref q2_), (11, 7, a0_, .int r_186), (11, 6, a0_, .int r_173), (11, 1, a0_, .int 0), (8, 6, q4_, .int x_156), (8, 8, q4_, .int 0), (7, 1, q3_, .int w28_7_1_q3_), (5, 2, q5_, .int w28_5_2_q5_), (5, 1, q5_, .ref w28_5_1_q5_), (2, 4, q0_, .ref w28_2_4_q0_), (2, 5, q0_, .ref w28_2_5_q0_), (5, 0, q5_, .ref q3_), (2, 3, q0_, .ref q3_), (8, 4, q4_, .ref a_1), (11, 0, a0_, .ref a_1), (11, 2, a0_, .ref q0_), (11, 3, a0_, .ref q1_), (2, 0, q0_, .ref q4_), (2, 1, q0_, .ref q5_), (2, 2, q0_, .ref q6_), (0, 0, q6_, .ref q4_), (0, 1, q6_, .ref q5_)]) rfl (fun fr_212 H locs hp hMr_212 g => ?_)
                obtain ⟨hG_213, hF_214⟩ := hp
                have hG_215 := dOK.frame hMr_212 go_.2.2.2.1 mq3_ kq3_ (by decide) (by decide) hG_207
                have hG_216 := eOK.frame hMr_212 go_.2.2.2.1 mq6_ kq6_ (by decide) (by decide) hG_208
                have hG_217 := cOK.frame hMr_212 go_.2.2.2.1 mq3_ kq3_ (by decide) (by decide) hG_209
                have hG_218 := jS.frame hMr_212 go_.2.2.2.1 mq3_ kq3_ (by decide) (by decide) hG_210
                have g := g.more hF_214
                refine lv_aload_n hx hb dX11_classes_129 rfl (lv_at hl 1 rfl) ?_
                refine g_getk (C := RX11) (T := TX11) (N := 8) hx hb hts (mc_ inX11) hown hK g rfl 4 (by decide) rfl (hts _ (List.mem_cons_of_mem _ t_952)) (fun _ h9 => h9) 12 rfl dX11_classes_130 ?_
                refine g_getk (C := RX7) (T := TX7) (N := 19) hx hb hts (mc_ inX7) hown hK g rfl 1 (by decide) rfl (hts _ (List.mem_cons_of_mem _ t_627)) (fun _ h9 => h9) 19 rfl dX11_classes_133 ?_
                subst hQ
                exact W.iret (v := w28_7_1_q3_) hx hb hr (fun t ht hW => ⟨⟨_, _, rfl, Or.inr (⟨hG_213, hG_215, hG_216, hG_217, bw28_7_1_q3_, r_173, h_174, x_156, h_157, w28_7_1_q3_, bw28_7_1_q3_, w28_5_2_q5_, bw28_5_2_q5_, w28_5_1_q5_, ⟨mw28_5_1_q5_, kw28_5_1_q5_⟩, w28_2_4_q0_, ⟨mw28_2_4_q0_, kw28_2_4_q0_⟩, w28_2_5_q0_, ⟨mw28_2_5_q0_, kw28_2_5_q0_⟩, a_1, ⟨ma_1, ka_1⟩, (g.fcts [0, 1, 2, 10, 12, 13, 15, 16, 17, 18, 19, 20, 21, 22, 23, 24, 25, 26] rfl)⟩), q3_of g hK ht hW⟩, g.2.2.1.F ht⟩) g.2.2.1.2.2 dX11_classes_136
              · have fc_198 := neq_f c_198
                have b_219 : bd 1 (-1) r_173 := neX fc_198 h_174 kb_0 (by decide)
                exact bd_no b_219 (by decide)
            · have hG_220 := RP.frame hMr_155 go_.2.2.2.1 mq1_ kq1_ (by decide) (by decide) hG_150
              have hG_221 := dOK.frame hMr_155 go_.2.2.2.1 mq3_ kq3_ (by decide) (by decide) hG_151
              have hG_222 := eOK.frame hMr_155 go_.2.2.2.1 mq6_ kq6_ (by decide) (by decide) hG_152
              have hG_223 := cOK.frame hMr_155 go_.2.2.2.1 mq3_ kq3_ (by decide) (by decide) hG_153
              have hG_224 := jS.frame hMr_155 go_.2.2.2.1 mq3_ kq3_ (by decide) (by decide) hG_154
              have g := g.more hF_161
              refine lv_aload_n hx hb dX11_classes_64 rfl (lv_at hl 1 rfl) ?_
              refine lv_iconst (v := 0) hx hb dX11_classes_65 (by decide) ?_
              have go_ := g
              refine g_put (C := RX11) (T := TX11) (N := 8) hx hb hts (mc_ inX11) tyX11 tyX11_ok nmX11 hown hK g ma0_ ka0_ (by decide) rfl 1 (by decide) (hts _ (List.mem_cons_of_mem _ t_949)) (fun _ h9 => h9) rfl rfl (okV_i (bd_sub kb_0 (by decide))) rfl rfl (by decide) (Or.inr (Or.inl (by decide))) (fx' := [(8, 6, q4_, .int 1201), (8, 8, q4_, .int x_159), (7, 1, q3_, .int w28_7_1_q3_), (5, 2, q5_, .int w28_5_2_q5_), (5, 1, q5_, .ref w28_5_1_q5_), (2, 4, q0_, .ref w28_2_4_q0_), (2, 5, q0_, .ref w28_2_5_q0_), (5, 0, q5_, .ref q3_), (2, 3, q0_, .ref q3_), (8, 4, q4_, .ref a_1), (11, 0, a0_, .ref a_1), (11, 2, a0_, .ref q0_), (11, 3, a0_, .ref q1_), (11, 4, a0_, .ref q2_), (11, 5, a0_, .ref q3_), (2, 0, q0_, .ref q4_), (2, 1, q0_, .ref q5_), (2, 2, q0_, .ref q6_), (10, 0, q1_, .ref q7_), (0, 0, q6_, .ref q4_), (0, 1, q6_, .ref q5_)]) rfl dX11_classes_66 (fun f H locs hM_225 g => ?_)
              have hG_226 := RP.frame hM_225 go_.2.2.2.1 mq1_ kq1_ (by decide) (by decide) hG_220
              have hG_227 := dOK.frame hM_225 go_.2.2.2.1 mq3_ kq3_ (by decide) (by decide) hG_221
              have hG_228 := eOK.frame hM_225 go_.2.2.2.1 mq6_ kq6_ (by decide) (by decide) hG_222
              have hG_229 := cOK.frame hM_225 go_.2.2.2.1 mq3_ kq3_ (by decide) (by decide) hG_223
              have hG_230 := jS.frame hM_225 go_.2.2.2.1 mq3_ kq3_ (by decide) (by decide) hG_224
              refine lv_aload_n hx hb dX11_classes_69 rfl (lv_at hl 1 rfl) ?_
              refine lv_aload_n hx hb dX11_classes_70 rfl (lv_at hl 1 rfl) ?_
              refine g_getk (C := RX11) (T := TX11) (N := 8) hx hb hts (mc_ inX11) hown hK g rfl 2 (by decide) rfl (hts _ (List.mem_cons_of_mem _ t_950)) (fun _ h9 => h9) 12 rfl dX11_classes_71 ?_
              have kb_1201 : bd 1201 1201 (1201 : Int32) := ⟨by decide, by decide⟩
              have go_ := g
              refine g_calli (va_runV (As := []) (rest := [.ref a0_]) ⟨hx, hb, hml, hown, hts⟩ (r_X2_faultKind_2 l dC dI L kd tys f H.size g.2.2.2.1 q0_ mq0_ kq0_ q4_ mq4_ kq4_ 1201 kb_1201 x_159 h_160 (g.fcts [16, 1, 2] rfl)) (cwV 0 hts (gV_ t_1410 t_1411 t_1412 t_183 t_1413) rfl rfl rfl (by decide +kernel) ⟨(Nat.le_of_ble_eq_true rfl), (Nat.le_of_ble_eq_true rfl)⟩) (pre3V g hK mq0_ kq0_ (by decide) (q := (RX2, TX2, 16)) rfl) rfl rfl hl.1 rfl (lv_room (Nat.le_of_ble_eq_true rfl)) dX11_classes_74 ⟨(Nat.le_of_ble_eq_true rfl), (Nat.le_of_ble_eq_true rfl)⟩) g hK (by decide) (by decide) (fx' := [(11, 1, a0_, .int 0), (8, 6, q4_, .int 1201), (8, 8, q4_, .int x_159), (7, 1, q3_, .int w28_7_1_q3_), (5, 2, q5_, .int w28_5_2_q5_), (5, 1, q5_, .ref w28_5_1_q5_), (2, 4, q0_, .ref w28_2_4_q0_), (2, 5, q0_, .ref w28_2_5_q0_), (5, 0, q5_, .ref q3_), (2, 3, q0_, .ref q3_), (8, 4, q4_, .ref a_1), (11, 0, a0_, .ref a_1), (11, 2, a0_, .ref q0_), (11, 3, a0_, .ref q1_), (11, 4, a0_, .ref q2_), (11, 5, a0_, .ref q3_), (2, 0, q0_, .ref q4_), (2, 1, q0_, .ref q5_), (2, 2, q0_, .ref q6_), (10, 0, q1_, .ref q7_), (0, 0, q6_, .ref q4_), (0, 1, q6_, .ref q5_)]) rfl (fun r_231 fr_231 H locs hp hMr_231 g => ?_)
              obtain ⟨h_232, -⟩ := hp
              have hG_233 := RP.frame hMr_231 go_.2.2.2.1 mq1_ kq1_ (by decide) (by decide) hG_226
              have hG_234 := dOK.frame hMr_231 go_.2.2.2.1 mq3_ kq3_ (by decide) (by decide) hG_227
              have hG_235 := eOK.frame hMr_231 go_.2.2.2.1 mq6_ kq6_ (by decide) (by decide) hG_228
              have hG_236 := cOK.frame hMr_231 go_.2.2.2.1 mq3_ kq3_ (by decide) (by decide) hG_229
              have hG_237 := jS.frame hMr_231 go_.2.2.2.1 mq3_ kq3_ (by decide) (by decide) hG_230
              have go_ := g
              refine g_put (C := RX11) (T := TX11) (N := 8) hx hb hts (mc_ inX11) tyX11 tyX11_ok nmX11 hown hK g ma0_ ka0_ (by decide) rfl 6 (by decide) (hts _ (List.mem_cons_of_mem _ t_954)) (fun _ h9 => h9) rfl rfl (okV_i (bd_sub h_232 (by decide))) rfl rfl (by decide) (Or.inr (Or.inl (by decide))) (fx' := [(11, 1, a0_, .int 0), (8, 6, q4_, .int 1201), (8, 8, q4_, .int x_159), (7, 1, q3_, .int w28_7_1_q3_), (5, 2, q5_, .int w28_5_2_q5_), (5, 1, q5_, .ref w28_5_1_q5_), (2, 4, q0_, .ref w28_2_4_q0_), (2, 5, q0_, .ref w28_2_5_q0_), (5, 0, q5_, .ref q3_), (2, 3, q0_, .ref q3_), (8, 4, q4_, .ref a_1), (11, 0, a0_, .ref a_1), (11, 2, a0_, .ref q0_), (11, 3, a0_, .ref q1_), (11, 4, a0_, .ref q2_), (11, 5, a0_, .ref q3_), (2, 0, q0_, .ref q4_), (2, 1, q0_, .ref q5_), (2, 2, q0_, .ref q6_), (10, 0, q1_, .ref q7_), (0, 0, q6_, .ref q4_), (0, 1, q6_, .ref q5_)]) rfl dX11_classes_77 (fun f H locs hM_238 g => ?_)
              have hG_239 := RP.frame hM_238 go_.2.2.2.1 mq1_ kq1_ (by decide) (by decide) hG_233
              have hG_240 := dOK.frame hM_238 go_.2.2.2.1 mq3_ kq3_ (by decide) (by decide) hG_234
              have hG_241 := eOK.frame hM_238 go_.2.2.2.1 mq6_ kq6_ (by decide) (by decide) hG_235
              have hG_242 := cOK.frame hM_238 go_.2.2.2.1 mq3_ kq3_ (by decide) (by decide) hG_236
              have hG_243 := jS.frame hM_238 go_.2.2.2.1 mq3_ kq3_ (by decide) (by decide) hG_237
              refine lv_aload_n hx hb dX11_classes_80 rfl (lv_at hl 1 rfl) ?_
              refine lv_aload_n hx hb dX11_classes_81 rfl (lv_at hl 1 rfl) ?_
              refine g_getk (C := RX11) (T := TX11) (N := 8) hx hb hts (mc_ inX11) hown hK g rfl 2 (by decide) rfl (hts _ (List.mem_cons_of_mem _ t_950)) (fun _ h9 => h9) 13 rfl dX11_classes_82 ?_
              have go_ := g
              refine g_calli (va_runV (As := []) (rest := [.ref a0_]) ⟨hx, hb, hml, hown, hts⟩ (r_X2_faultPlace_2 l dC dI L kd tys f H.size g.2.2.2.1 q0_ mq0_ kq0_ q4_ mq4_ kq4_ 1201 kb_1201 x_159 h_160 (g.fcts [17, 2, 3] rfl)) (cwV 0 hts (gV_ t_1414 t_1415 t_1416 t_183 t_1417) rfl rfl rfl (by decide +kernel) ⟨(Nat.le_of_ble_eq_true rfl), (Nat.le_of_ble_eq_true rfl)⟩) (pre3V g hK mq0_ kq0_ (by decide) (q := (RX2, TX2, 16)) rfl) rfl rfl hl.1 rfl (lv_room (Nat.le_of_ble_eq_true rfl)) dX11_classes_85 ⟨(Nat.le_of_ble_eq_true rfl), (Nat.le_of_ble_eq_true rfl)⟩) g hK (by decide) (by decide) (fx' := [(11, 6, a0_, .int r_231), (11, 1, a0_, .int 0), (8, 6, q4_, .int 1201), (8, 8, q4_, .int x_159), (7, 1, q3_, .int w28_7_1_q3_), (5, 2, q5_, .int w28_5_2_q5_), (5, 1, q5_, .ref w28_5_1_q5_), (2, 4, q0_, .ref w28_2_4_q0_), (2, 5, q0_, .ref w28_2_5_q0_), (5, 0, q5_, .ref q3_), (2, 3, q0_, .ref q3_), (8, 4, q4_, .ref a_1), (11, 0, a0_, .ref a_1), (11, 2, a0_, .ref q0_), (11, 3, a0_, .ref q1_), (11, 4, a0_, .ref q2_), (11, 5, a0_, .ref q3_), (2, 0, q0_, .ref q4_), (2, 1, q0_, .ref q5_), (2, 2, q0_, .ref q6_), (10, 0, q1_, .ref q7_), (0, 0, q6_, .ref q4_), (0, 1, q6_, .ref q5_)]) rfl (fun r_244 fr_244 H locs hp hMr_244 g => ?_)
              have hG_245 := RP.frame hMr_244 go_.2.2.2.1 mq1_ kq1_ (by decide) (by decide) hG_239
              have hG_246 := dOK.frame hMr_244 go_.2.2.2.1 mq3_ kq3_ (by decide) (by decide) hG_240
              have hG_247 := eOK.frame hMr_244 go_.2.2.2.1 mq6_ kq6_ (by decide) (by decide) hG_241
              have hG_248 := cOK.frame hMr_244 go_.2.2.2.1 mq3_ kq3_ (by decide) (by decide) hG_242
              have hG_249 := jS.frame hMr_244 go_.2.2.2.1 mq3_ kq3_ (by decide) (by decide) hG_243
              have go_ := g
              refine g_put (C := RX11) (T := TX11) (N := 8) hx hb hts (mc_ inX11) tyX11 tyX11_ok nmX11 hown hK g ma0_ ka0_ (by decide) rfl 7 (by decide) (hts _ (List.mem_cons_of_mem _ t_955)) (fun _ h9 => h9) rfl rfl (okV_i (bdT r_244)) rfl rfl (by decide) (Or.inr (Or.inl (by decide))) (fx' := [(11, 6, a0_, .int r_231), (11, 1, a0_, .int 0), (8, 6, q4_, .int 1201), (8, 8, q4_, .int x_159), (7, 1, q3_, .int w28_7_1_q3_), (5, 2, q5_, .int w28_5_2_q5_), (5, 1, q5_, .ref w28_5_1_q5_), (2, 4, q0_, .ref w28_2_4_q0_), (2, 5, q0_, .ref w28_2_5_q0_), (5, 0, q5_, .ref q3_), (2, 3, q0_, .ref q3_), (8, 4, q4_, .ref a_1), (11, 0, a0_, .ref a_1), (11, 2, a0_, .ref q0_), (11, 3, a0_, .ref q1_), (11, 4, a0_, .ref q2_), (11, 5, a0_, .ref q3_), (2, 0, q0_, .ref q4_), (2, 1, q0_, .ref q5_), (2, 2, q0_, .ref q6_), (10, 0, q1_, .ref q7_), (0, 0, q6_, .ref q4_), (0, 1, q6_, .ref q5_)]) rfl dX11_classes_88 (fun f H locs hM_250 g => ?_)
              have hG_251 := RP.frame hM_250 go_.2.2.2.1 mq1_ kq1_ (by decide) (by decide) hG_245
              have hG_252 := dOK.frame hM_250 go_.2.2.2.1 mq3_ kq3_ (by decide) (by decide) hG_246
              have hG_253 := eOK.frame hM_250 go_.2.2.2.1 mq6_ kq6_ (by decide) (by decide) hG_247
              have hG_254 := cOK.frame hM_250 go_.2.2.2.1 mq3_ kq3_ (by decide) (by decide) hG_248
              have hG_255 := jS.frame hM_250 go_.2.2.2.1 mq3_ kq3_ (by decide) (by decide) hG_249
              refine lv_aload_n hx hb dX11_classes_91 rfl (lv_at hl 1 rfl) ?_
              refine g_getk (C := RX11) (T := TX11) (N := 8) hx hb hts (mc_ inX11) hown hK g rfl 6 (by decide) rfl (hts _ (List.mem_cons_of_mem _ t_954)) (fun _ h9 => h9) 1 rfl dX11_classes_92 ?_
              refine lv_if_eq (tgt := 100) hx hb dX11_classes_95 (by decide) (fun c_256 => ?_) (fun c_256 => ?_)
              · have fc_256 := eq_f c_256
                have b_257 : bd 1 0 r_231 := eqX fc_256 h_232 kb_0 (by decide)
                exact bd_no b_257 (by decide)
              · have fc_256 := neq_f c_256
                refine lv_iconst (v := (-1)) hx hb dX11_classes_98 (by decide) ?_
                subst hQ
                exact W.iret (v := (-1)) hx hb hr (fun t ht hW => ⟨⟨_, _, rfl, Or.inl ⟨hG_251, hG_252, hG_253, rfl, r_231, h_232, 1201, kb_1201, x_159, h_160, w28_5_1_q5_, ⟨mw28_5_1_q5_, kw28_5_1_q5_⟩, w28_2_4_q0_, ⟨mw28_2_4_q0_, kw28_2_4_q0_⟩, w28_2_5_q0_, ⟨mw28_2_5_q0_, kw28_2_5_q0_⟩, a_1, ⟨ma_1, ka_1⟩, (g.fcts [1, 2, 3, 4, 7, 8, 9, 10, 11, 12, 16, 17, 21] rfl)⟩, q3_of g hK ht hW⟩, g.2.2.1.F ht⟩) g.2.2.1.2.2 dX11_classes_99
          · have hG_258 := RP.frame hMr_147 go_.2.2.2.1 mq1_ kq1_ (by decide) (by decide) hG28_P_q1_
            have hG_259 := dOK.frame hMr_147 go_.2.2.2.1 mq3_ kq3_ (by decide) (by decide) hG28_d_q3_
            have hG_260 := eOK.frame hMr_147 go_.2.2.2.1 mq6_ kq6_ (by decide) (by decide) hG28_e_q6_
            have hG_261 := cOK.frame hMr_147 go_.2.2.2.1 mq3_ kq3_ (by decide) (by decide) hG28_c_q3_
            have hG_262 := jS.frame hMr_147 go_.2.2.2.1 mq3_ kq3_ (by decide) (by decide) hG28_s_q3_
            obtain rfl : r_147 = 1 := h_149
            refine lv_if_eq (tgt := 57) hx hb dX11_classes_41 (by decide) (fun c_ => absurd c_ (by decide)) (fun c_ => ?_)
            refine lv_aload_n hx hb dX11_classes_44 rfl (lv_at hl 1 rfl) ?_
            refine g_getk (C := RX11) (T := TX11) (N := 8) hx hb hts (mc_ inX11) hown hK g rfl 2 (by decide) rfl (hts _ (List.mem_cons_of_mem _ t_950)) (fun _ h9 => h9) 12 rfl dX11_classes_45 ?_
            have go_ := g
            refine g_callv (va_runV (As := []) (rest := []) ⟨hx, hb, hml, hown, hts⟩ (r_X2_readClass l dC dI L kd tys fr_147 H.size g.2.2.2.1 q0_ mq0_ kq0_ q4_ mq4_ kq4_ q5_ mq5_ kq5_ q6_ mq6_ kq6_ q3_ mq3_ kq3_ w28_2_4_q0_ mw28_2_4_q0_ kw28_2_4_q0_ w28_2_5_q0_ mw28_2_5_q0_ kw28_2_5_q0_ w28_5_1_q5_ mw28_5_1_q5_ kw28_5_1_q5_ 0 kb_0 T_ (fun j9 => jOK fr_147 q3_ j9) hG_260 hG_261 hG_259 (fun _ h9 => h9) (g.fcts [16, 17, 18, 8, 5, 6, 4, 20, 21, 7, 2] rfl)) (cwV 0 hts (gV_ t_1090 t_1091 t_1092 t_183 t_1093) rfl rfl rfl (by decide +kernel) ⟨(Nat.le_of_ble_eq_true rfl), (Nat.le_of_ble_eq_true rfl)⟩) (pre3V g hK mq0_ kq0_ (by decide) (q := (RX2, TX2, 16)) rfl) rfl rfl hl.1 rfl (lv_room (Nat.le_of_ble_eq_true rfl)) dX11_classes_48 ⟨(Nat.le_of_ble_eq_true rfl), (Nat.le_of_ble_eq_true rfl)⟩) g hK (by decide) (by decide) (fx' := [(5, 0, q5_, .ref q3_), (2, 3, q0_, .ref q3_), (8, 4, q4_, .ref a_1), (11, 1, a0_, .int x_2), (11, 0, a0_, .ref a_1), (11, 2, a0_, .ref q0_), (11, 3, a0_, .ref q1_), (11, 4, a0_, .ref q2_), (11, 5, a0_, .ref q3_), (2, 0, q0_, .ref q4_), (2, 1, q0_, .ref q5_), (2, 2, q0_, .ref q6_), (10, 0, q1_, .ref q7_), (0, 0, q6_, .ref q4_), (0, 1, q6_, .ref q5_)]) rfl (fun fr_263 H locs hp hMr_263 g => ?_)
            rcases hp with ⟨hG_264, hG_265, hG_266, hG_267, x_268, h_269, x_270, h_271, x_272, h_273, a_274, ⟨ma_274, ka_274⟩, a_275, ⟨ma_275, ka_275⟩, a_276, ⟨ma_276, ka_276⟩, hF_277⟩ | ⟨hG_278, hG_279, x_280, h_281, x_282, h_283, a_284, ⟨ma_284, ka_284⟩, a_285, ⟨ma_285, ka_285⟩, a_286, ⟨ma_286, ka_286⟩, hF_287⟩
            · have hG_288 := RP.frame hMr_263 go_.2.2.2.1 mq1_ kq1_ (by decide) (by decide) hG_258
              have g := g.more hF_277
              have hs_289 := jS.mv hG_262 hG_267
              have kb_1 : bd 1 1 (1 : Int32) := ⟨by decide, by decide⟩
              obtain ⟨y_290, ey_290⟩ : ∃ z : Int32, z = v28_1 + 1 := ⟨_, rfl⟩
              refine lv_iinc (v := y_290) (lv' := [(1, .int y_290), (0, .ref a0_)]) hx hb dX11_classes_51 hl (k := 0) rfl (by rw [ey_290]; rfl) (by decide) rfl (fun ls hl => ?_)
              have ty_290 := add_bd ey_290 b_146 kb_1 (by decide)
              have b_291 : bd 1 9 y_290 := add_rg ty_290 b_146 kb_1 (by decide)
              refine lv_goto (tgt := 28) hx hb dX11_classes_54 (by decide) ?_
              have hl9 := lv_sub hl [0, 1] (by rfl : lv_pick [(1, .int y_290), (0, .ref a0_)] [0, 1] = [(1, .int y_290), (0, .ref a0_)])
              have g9 := g.sub (fx' := [(7, 1, q3_, .int x_268), (8, 6, q4_, .int x_270), (8, 8, q4_, .int 0), (5, 2, q5_, .int x_272), (5, 1, q5_, .ref a_274), (2, 4, q0_, .ref a_275), (2, 5, q0_, .ref a_276), (5, 0, q5_, .ref q3_), (2, 3, q0_, .ref q3_), (8, 4, q4_, .ref a_1), (11, 1, a0_, .int x_2), (11, 0, a0_, .ref a_1), (11, 2, a0_, .ref q0_), (11, 3, a0_, .ref q1_), (11, 4, a0_, .ref q2_), (11, 5, a0_, .ref q3_), (2, 0, q0_, .ref q4_), (2, 1, q0_, .ref q5_), (2, 2, q0_, .ref q6_), (10, 0, q1_, .ref q7_), (0, 0, q6_, .ref q4_), (0, 1, q6_, .ref q5_)]) [0, 1, 2, 3, 4, 5, 6, 7, 8, 9, 10, 11, 12, 13, 14, 15, 16, 17, 18, 19, 20, 21] rfl
              exact ih28  y_290 x_268 x_270 x_272 a_274 a_275 a_276 (bd_sub b_291 (by decide)) h_269 h_271 h_273 ma_274 ka_274 ma_275 ka_275 ma_276 ka_276 (by have h9_0 := b_291; unfold bd at h9_0; have h9_1 := bv28_1; unfold bd at h9_1; have h9_2 := bw28_5_2_q5_; unfold bd at h9_2; have h9_3 := bw28_7_1_q3_; unfold bd at h9_3; have h9_4 := bw28_8_6_q4_; unfold bd at h9_4; have h9_5 := h_269; unfold bd at h9_5; have h9_6 := h_271; unfold bd at h9_6; have h9_7 := h_273; unfold bd at h9_7; have h9_8 := kb_0; unfold bd at h9_8; have h9_9 := kb_1; unfold bd at h9_9; have h9_10 := kb_8; unfold bd at h9_10; omega) _ _ _ _ g9 hG_288 hG_266 hG_264 hG_265 hs_289 hl9
            · have hG_292 := RP.frame hMr_263 go_.2.2.2.1 mq1_ kq1_ (by decide) (by decide) hG_258
              have g := g.more hF_287
              have kb_1 : bd 1 1 (1 : Int32) := ⟨by decide, by decide⟩
              obtain ⟨y_293, ey_293⟩ : ∃ z : Int32, z = v28_1 + 1 := ⟨_, rfl⟩
              refine lv_iinc (v := y_293) (lv' := [(1, .int y_293), (0, .ref a0_)]) hx hb dX11_classes_51 hl (k := 0) rfl (by rw [ey_293]; rfl) (by decide) rfl (fun ls hl => ?_)
              have ty_293 := add_bd ey_293 b_146 kb_1 (by decide)
              have b_294 : bd 1 9 y_293 := add_rg ty_293 b_146 kb_1 (by decide)
              refine lv_goto (tgt := 28) hx hb dX11_classes_54 (by decide) ?_
              refine lv_iload_n hx hb dX11_classes_28 rfl (lv_at hl 0 rfl) ?_
              refine lv_bipush (v := 8) hx hb dX11_classes_29 (by decide) ?_
              refine lv_icmp_gt (tgt := 57) hx hb dX11_classes_31 (by decide) (fun c_295 => ?_) (fun c_295 => ?_)
              · have fc_295 := lt_f c_295
                have b_296 : bd 9 9 y_293 := ltR fc_295 kb_8 b_294 (by decide)
                have b_297 : bd 8 8 v28_1 := add_inv ty_293 b_296 b_146 kb_1 (by decide)
                refine lv_aload_n hx hb dX11_classes_57 rfl (lv_at hl 1 rfl) ?_
                refine g_getk (C := RX11) (T := TX11) (N := 8) hx hb hts (mc_ inX11) hown hK g rfl 2 (by decide) rfl (hts _ (List.mem_cons_of_mem _ t_950)) (fun _ h9 => h9) 10 rfl dX11_classes_58 ?_
                have go_ := g
                refine g_callv (va_runV (As := []) (rest := []) ⟨hx, hb, hml, hown, hts⟩ (r_X2_finish_2 l dC dI L kd tys fr_263 H.size g.2.2.2.1 q0_ mq0_ kq0_ q4_ mq4_ kq4_ x_280 h_281 x_282 h_283 (g.fcts [14, 0, 1] rfl)) (cwV 0 hts (gV_ t_1406 t_1407 t_1408 t_183 t_1409) rfl rfl rfl (by decide +kernel) ⟨(Nat.le_of_ble_eq_true rfl), (Nat.le_of_ble_eq_true rfl)⟩) (pre3V g hK mq0_ kq0_ (by decide) (q := (RX2, TX2, 16)) rfl) rfl rfl hl.1 rfl (lv_room (Nat.le_of_ble_eq_true rfl)) dX11_classes_61 ⟨(Nat.le_of_ble_eq_true rfl), (Nat.le_of_ble_eq_true rfl)⟩) g hK (by decide) (by decide) (fx' := [(8, 8, q4_, .int x_282), (5, 1, q5_, .ref a_284), (2, 4, q0_, .ref a_285), (2, 5, q0_, .ref a_286), (5, 0, q5_, .ref q3_), (2, 3, q0_, .ref q3_), (8, 4, q4_, .ref a_1), (11, 1, a0_, .int x_2), (11, 0, a0_, .ref a_1), (11, 2, a0_, .ref q0_), (11, 3, a0_, .ref q1_), (11, 4, a0_, .ref q2_), (11, 5, a0_, .ref q3_), (2, 0, q0_, .ref q4_), (2, 1, q0_, .ref q5_), (2, 2, q0_, .ref q6_), (10, 0, q1_, .ref q7_), (0, 0, q6_, .ref q4_), (0, 1, q6_, .ref q5_)]) rfl (fun fr_298 H locs hp hMr_298 g => ?_)
                obtain ⟨x_299, h_300, hF_301⟩ := hp
                have hG_302 := RP.frame hMr_298 go_.2.2.2.1 mq1_ kq1_ (by decide) (by decide) hG_292
                have hG_303 := dOK.frame hMr_298 go_.2.2.2.1 mq3_ kq3_ (by decide) (by decide) hG_279
                have hG_304 := eOK.frame hMr_298 go_.2.2.2.1 mq6_ kq6_ (by decide) (by decide) hG_278
                have g := g.more hF_301
                refine lv_aload_n hx hb dX11_classes_64 rfl (lv_at hl 1 rfl) ?_
                refine lv_iconst (v := 0) hx hb dX11_classes_65 (by decide) ?_
                have go_ := g
                refine g_put (C := RX11) (T := TX11) (N := 8) hx hb hts (mc_ inX11) tyX11 tyX11_ok nmX11 hown hK g ma0_ ka0_ (by decide) rfl 1 (by decide) (hts _ (List.mem_cons_of_mem _ t_949)) (fun _ h9 => h9) rfl rfl (okV_i (bd_sub kb_0 (by decide))) rfl rfl (by decide) (Or.inr (Or.inl (by decide))) (fx' := [(8, 6, q4_, .int x_299), (8, 8, q4_, .int x_282), (5, 1, q5_, .ref a_284), (2, 4, q0_, .ref a_285), (2, 5, q0_, .ref a_286), (5, 0, q5_, .ref q3_), (2, 3, q0_, .ref q3_), (8, 4, q4_, .ref a_1), (11, 0, a0_, .ref a_1), (11, 2, a0_, .ref q0_), (11, 3, a0_, .ref q1_), (11, 4, a0_, .ref q2_), (11, 5, a0_, .ref q3_), (2, 0, q0_, .ref q4_), (2, 1, q0_, .ref q5_), (2, 2, q0_, .ref q6_), (10, 0, q1_, .ref q7_), (0, 0, q6_, .ref q4_), (0, 1, q6_, .ref q5_)]) rfl dX11_classes_66 (fun f H locs hM_305 g => ?_)
                have hG_306 := RP.frame hM_305 go_.2.2.2.1 mq1_ kq1_ (by decide) (by decide) hG_302
                have hG_307 := dOK.frame hM_305 go_.2.2.2.1 mq3_ kq3_ (by decide) (by decide) hG_303
                have hG_308 := eOK.frame hM_305 go_.2.2.2.1 mq6_ kq6_ (by decide) (by decide) hG_304
                refine lv_aload_n hx hb dX11_classes_69 rfl (lv_at hl 1 rfl) ?_
                refine lv_aload_n hx hb dX11_classes_70 rfl (lv_at hl 1 rfl) ?_
                refine g_getk (C := RX11) (T := TX11) (N := 8) hx hb hts (mc_ inX11) hown hK g rfl 2 (by decide) rfl (hts _ (List.mem_cons_of_mem _ t_950)) (fun _ h9 => h9) 10 rfl dX11_classes_71 ?_
                have go_ := g
                refine g_calli (va_runV (As := []) (rest := [.ref a0_]) ⟨hx, hb, hml, hown, hts⟩ (r_X2_faultKind_2 l dC dI L kd tys f H.size g.2.2.2.1 q0_ mq0_ kq0_ q4_ mq4_ kq4_ x_299 h_300 x_282 h_283 (g.fcts [14, 1, 2] rfl)) (cwV 0 hts (gV_ t_1410 t_1411 t_1412 t_183 t_1413) rfl rfl rfl (by decide +kernel) ⟨(Nat.le_of_ble_eq_true rfl), (Nat.le_of_ble_eq_true rfl)⟩) (pre3V g hK mq0_ kq0_ (by decide) (q := (RX2, TX2, 16)) rfl) rfl rfl hl.1 rfl (lv_room (Nat.le_of_ble_eq_true rfl)) dX11_classes_74 ⟨(Nat.le_of_ble_eq_true rfl), (Nat.le_of_ble_eq_true rfl)⟩) g hK (by decide) (by decide) (fx' := [(11, 1, a0_, .int 0), (8, 6, q4_, .int x_299), (8, 8, q4_, .int x_282), (5, 1, q5_, .ref a_284), (2, 4, q0_, .ref a_285), (2, 5, q0_, .ref a_286), (5, 0, q5_, .ref q3_), (2, 3, q0_, .ref q3_), (8, 4, q4_, .ref a_1), (11, 0, a0_, .ref a_1), (11, 2, a0_, .ref q0_), (11, 3, a0_, .ref q1_), (11, 4, a0_, .ref q2_), (11, 5, a0_, .ref q3_), (2, 0, q0_, .ref q4_), (2, 1, q0_, .ref q5_), (2, 2, q0_, .ref q6_), (10, 0, q1_, .ref q7_), (0, 0, q6_, .ref q4_), (0, 1, q6_, .ref q5_)]) rfl (fun r_309 fr_309 H locs hp hMr_309 g => ?_)
                obtain ⟨h_310, -⟩ := hp
                have hG_311 := RP.frame hMr_309 go_.2.2.2.1 mq1_ kq1_ (by decide) (by decide) hG_306
                have hG_312 := dOK.frame hMr_309 go_.2.2.2.1 mq3_ kq3_ (by decide) (by decide) hG_307
                have hG_313 := eOK.frame hMr_309 go_.2.2.2.1 mq6_ kq6_ (by decide) (by decide) hG_308
                have go_ := g
                refine g_put (C := RX11) (T := TX11) (N := 8) hx hb hts (mc_ inX11) tyX11 tyX11_ok nmX11 hown hK g ma0_ ka0_ (by decide) rfl 6 (by decide) (hts _ (List.mem_cons_of_mem _ t_954)) (fun _ h9 => h9) rfl rfl (okV_i (bd_sub h_310 (by decide))) rfl rfl (by decide) (Or.inr (Or.inl (by decide))) (fx' := [(11, 1, a0_, .int 0), (8, 6, q4_, .int x_299), (8, 8, q4_, .int x_282), (5, 1, q5_, .ref a_284), (2, 4, q0_, .ref a_285), (2, 5, q0_, .ref a_286), (5, 0, q5_, .ref q3_), (2, 3, q0_, .ref q3_), (8, 4, q4_, .ref a_1), (11, 0, a0_, .ref a_1), (11, 2, a0_, .ref q0_), (11, 3, a0_, .ref q1_), (11, 4, a0_, .ref q2_), (11, 5, a0_, .ref q3_), (2, 0, q0_, .ref q4_), (2, 1, q0_, .ref q5_), (2, 2, q0_, .ref q6_), (10, 0, q1_, .ref q7_), (0, 0, q6_, .ref q4_), (0, 1, q6_, .ref q5_)]) rfl dX11_classes_77 (fun f H locs hM_314 g => ?_)
                have hG_315 := RP.frame hM_314 go_.2.2.2.1 mq1_ kq1_ (by decide) (by decide) hG_311
                have hG_316 := dOK.frame hM_314 go_.2.2.2.1 mq3_ kq3_ (by decide) (by decide) hG_312
                have hG_317 := eOK.frame hM_314 go_.2.2.2.1 mq6_ kq6_ (by decide) (by decide) hG_313
                refine lv_aload_n hx hb dX11_classes_80 rfl (lv_at hl 1 rfl) ?_
                refine lv_aload_n hx hb dX11_classes_81 rfl (lv_at hl 1 rfl) ?_
                refine g_getk (C := RX11) (T := TX11) (N := 8) hx hb hts (mc_ inX11) hown hK g rfl 2 (by decide) rfl (hts _ (List.mem_cons_of_mem _ t_950)) (fun _ h9 => h9) 11 rfl dX11_classes_82 ?_
                have go_ := g
                refine g_calli (va_runV (As := []) (rest := [.ref a0_]) ⟨hx, hb, hml, hown, hts⟩ (r_X2_faultPlace_2 l dC dI L kd tys f H.size g.2.2.2.1 q0_ mq0_ kq0_ q4_ mq4_ kq4_ x_299 h_300 x_282 h_283 (g.fcts [15, 2, 3] rfl)) (cwV 0 hts (gV_ t_1414 t_1415 t_1416 t_183 t_1417) rfl rfl rfl (by decide +kernel) ⟨(Nat.le_of_ble_eq_true rfl), (Nat.le_of_ble_eq_true rfl)⟩) (pre3V g hK mq0_ kq0_ (by decide) (q := (RX2, TX2, 16)) rfl) rfl rfl hl.1 rfl (lv_room (Nat.le_of_ble_eq_true rfl)) dX11_classes_85 ⟨(Nat.le_of_ble_eq_true rfl), (Nat.le_of_ble_eq_true rfl)⟩) g hK (by decide) (by decide) (fx' := [(11, 6, a0_, .int r_309), (11, 1, a0_, .int 0), (8, 6, q4_, .int x_299), (8, 8, q4_, .int x_282), (5, 1, q5_, .ref a_284), (2, 4, q0_, .ref a_285), (2, 5, q0_, .ref a_286), (5, 0, q5_, .ref q3_), (2, 3, q0_, .ref q3_), (8, 4, q4_, .ref a_1), (11, 0, a0_, .ref a_1), (11, 2, a0_, .ref q0_), (11, 3, a0_, .ref q1_), (11, 4, a0_, .ref q2_), (11, 5, a0_, .ref q3_), (2, 0, q0_, .ref q4_), (2, 1, q0_, .ref q5_), (2, 2, q0_, .ref q6_), (10, 0, q1_, .ref q7_), (0, 0, q6_, .ref q4_), (0, 1, q6_, .ref q5_)]) rfl (fun r_318 fr_318 H locs hp hMr_318 g => ?_)
                have hG_319 := RP.frame hMr_318 go_.2.2.2.1 mq1_ kq1_ (by decide) (by decide) hG_315
                have hG_320 := dOK.frame hMr_318 go_.2.2.2.1 mq3_ kq3_ (by decide) (by decide) hG_316
                have hG_321 := eOK.frame hMr_318 go_.2.2.2.1 mq6_ kq6_ (by decide) (by decide) hG_317
                have go_ := g
                refine g_put (C := RX11) (T := TX11) (N := 8) hx hb hts (mc_ inX11) tyX11 tyX11_ok nmX11 hown hK g ma0_ ka0_ (by decide) rfl 7 (by decide) (hts _ (List.mem_cons_of_mem _ t_955)) (fun _ h9 => h9) rfl rfl (okV_i (bdT r_318)) rfl rfl (by decide) (Or.inr (Or.inl (by decide))) (fx' := [(11, 6, a0_, .int r_309), (11, 1, a0_, .int 0), (8, 6, q4_, .int x_299), (8, 8, q4_, .int x_282), (5, 1, q5_, .ref a_284), (2, 4, q0_, .ref a_285), (2, 5, q0_, .ref a_286), (5, 0, q5_, .ref q3_), (2, 3, q0_, .ref q3_), (8, 4, q4_, .ref a_1), (11, 0, a0_, .ref a_1), (11, 2, a0_, .ref q0_), (11, 3, a0_, .ref q1_), (11, 4, a0_, .ref q2_), (11, 5, a0_, .ref q3_), (2, 0, q0_, .ref q4_), (2, 1, q0_, .ref q5_), (2, 2, q0_, .ref q6_), (10, 0, q1_, .ref q7_), (0, 0, q6_, .ref q4_), (0, 1, q6_, .ref q5_)]) rfl dX11_classes_88 (fun f H locs hM_322 g => ?_)
                have hG_323 := RP.frame hM_322 go_.2.2.2.1 mq1_ kq1_ (by decide) (by decide) hG_319
                have hG_324 := dOK.frame hM_322 go_.2.2.2.1 mq3_ kq3_ (by decide) (by decide) hG_320
                have hG_325 := eOK.frame hM_322 go_.2.2.2.1 mq6_ kq6_ (by decide) (by decide) hG_321
                refine lv_aload_n hx hb dX11_classes_91 rfl (lv_at hl 1 rfl) ?_
                refine g_getk (C := RX11) (T := TX11) (N := 8) hx hb hts (mc_ inX11) hown hK g rfl 6 (by decide) rfl (hts _ (List.mem_cons_of_mem _ t_954)) (fun _ h9 => h9) 1 rfl dX11_classes_92 ?_
                refine lv_if_eq (tgt := 100) hx hb dX11_classes_95 (by decide) (fun c_326 => ?_) (fun c_326 => ?_)
                · have fc_326 := eq_f c_326
                  have b_327 : bd 1 0 r_309 := eqX fc_326 h_310 kb_0 (by decide)
                  exact bd_no b_327 (by decide)
                · have fc_326 := neq_f c_326
                  refine lv_iconst (v := (-1)) hx hb dX11_classes_98 (by decide) ?_
                  subst hQ
                  exact W.iret (v := (-1)) hx hb hr (fun t ht hW => ⟨⟨_, _, rfl, Or.inl ⟨hG_323, hG_324, hG_325, rfl, r_309, h_310, x_299, h_300, x_282, h_283, a_284, ⟨ma_284, ka_284⟩, a_285, ⟨ma_285, ka_285⟩, a_286, ⟨ma_286, ka_286⟩, a_1, ⟨ma_1, ka_1⟩, (g.fcts [1, 2, 3, 4, 5, 6, 7, 8, 9, 10, 14, 15, 19] rfl)⟩, q3_of g hK ht hW⟩, g.2.2.1.F ht⟩) g.2.2.1.2.2 dX11_classes_99
              · have fc_295 := nlt_f c_295
                have b_328 : bd 1 8 y_293 := leL fc_295 b_294 kb_8 (by decide)
                have b_329 : bd 0 7 v28_1 := add_inv ty_293 b_328 b_146 kb_1 (by decide)
                refine lv_aload_n hx hb dX11_classes_34 rfl (lv_at hl 1 rfl) ?_
                refine g_getk (C := RX11) (T := TX11) (N := 8) hx hb hts (mc_ inX11) hown hK g rfl 2 (by decide) rfl (hts _ (List.mem_cons_of_mem _ t_950)) (fun _ h9 => h9) 10 rfl dX11_classes_35 ?_
                have go_ := g
                refine g_calli (va_runV (As := []) (rest := []) ⟨hx, hb, hml, hown, hts⟩ (r_X2_atClass_2 l dC dI L kd tys fr_263 H.size g.2.2.2.1 q0_ mq0_ kq0_ q4_ mq4_ kq4_ x_280 h_281 x_282 h_283 (g.fcts [14, 0, 1] rfl)) (cwV 0 hts (gV_ t_1402 t_1403 t_1404 t_183 t_1405) rfl rfl rfl (by decide +kernel) ⟨(Nat.le_of_ble_eq_true rfl), (Nat.le_of_ble_eq_true rfl)⟩) (pre3V g hK mq0_ kq0_ (by decide) (q := (RX2, TX2, 16)) rfl) rfl rfl hl.1 rfl (lv_room (Nat.le_of_ble_eq_true rfl)) dX11_classes_38 ⟨(Nat.le_of_ble_eq_true rfl), (Nat.le_of_ble_eq_true rfl)⟩) g hK (by decide) (by decide) (fx' := [(8, 6, q4_, .int x_280), (8, 8, q4_, .int x_282), (5, 1, q5_, .ref a_284), (2, 4, q0_, .ref a_285), (2, 5, q0_, .ref a_286), (5, 0, q5_, .ref q3_), (2, 3, q0_, .ref q3_), (8, 4, q4_, .ref a_1), (11, 1, a0_, .int x_2), (11, 0, a0_, .ref a_1), (11, 2, a0_, .ref q0_), (11, 3, a0_, .ref q1_), (11, 4, a0_, .ref q2_), (11, 5, a0_, .ref q3_), (2, 0, q0_, .ref q4_), (2, 1, q0_, .ref q5_), (2, 2, q0_, .ref q6_), (10, 0, q1_, .ref q7_), (0, 0, q6_, .ref q4_), (0, 1, q6_, .ref q5_)]) rfl (fun r_330 fr_330 H locs hp hMr_330 g => ?_)
                obtain ⟨h_331, -⟩ := hp
                have hG_332 := RP.frame hMr_330 go_.2.2.2.1 mq1_ kq1_ (by decide) (by decide) hG_292
                have hG_333 := dOK.frame hMr_330 go_.2.2.2.1 mq3_ kq3_ (by decide) (by decide) hG_279
                have hG_334 := eOK.frame hMr_330 go_.2.2.2.1 mq6_ kq6_ (by decide) (by decide) hG_278
                obtain rfl : r_330 = 0 := h_331
                refine lv_if_eq (tgt := 57) hx hb dX11_classes_41 (by decide) (fun c_ => ?_) (fun c_ => absurd (by decide) c_)
                refine lv_aload_n hx hb dX11_classes_57 rfl (lv_at hl 1 rfl) ?_
                refine g_getk (C := RX11) (T := TX11) (N := 8) hx hb hts (mc_ inX11) hown hK g rfl 2 (by decide) rfl (hts _ (List.mem_cons_of_mem _ t_950)) (fun _ h9 => h9) 10 rfl dX11_classes_58 ?_
                have go_ := g
                refine g_callv (va_runV (As := []) (rest := []) ⟨hx, hb, hml, hown, hts⟩ (r_X2_finish_2 l dC dI L kd tys fr_330 H.size g.2.2.2.1 q0_ mq0_ kq0_ q4_ mq4_ kq4_ x_280 h_281 x_282 h_283 (g.fcts [14, 0, 1] rfl)) (cwV 0 hts (gV_ t_1406 t_1407 t_1408 t_183 t_1409) rfl rfl rfl (by decide +kernel) ⟨(Nat.le_of_ble_eq_true rfl), (Nat.le_of_ble_eq_true rfl)⟩) (pre3V g hK mq0_ kq0_ (by decide) (q := (RX2, TX2, 16)) rfl) rfl rfl hl.1 rfl (lv_room (Nat.le_of_ble_eq_true rfl)) dX11_classes_61 ⟨(Nat.le_of_ble_eq_true rfl), (Nat.le_of_ble_eq_true rfl)⟩) g hK (by decide) (by decide) (fx' := [(8, 8, q4_, .int x_282), (5, 1, q5_, .ref a_284), (2, 4, q0_, .ref a_285), (2, 5, q0_, .ref a_286), (5, 0, q5_, .ref q3_), (2, 3, q0_, .ref q3_), (8, 4, q4_, .ref a_1), (11, 1, a0_, .int x_2), (11, 0, a0_, .ref a_1), (11, 2, a0_, .ref q0_), (11, 3, a0_, .ref q1_), (11, 4, a0_, .ref q2_), (11, 5, a0_, .ref q3_), (2, 0, q0_, .ref q4_), (2, 1, q0_, .ref q5_), (2, 2, q0_, .ref q6_), (10, 0, q1_, .ref q7_), (0, 0, q6_, .ref q4_), (0, 1, q6_, .ref q5_)]) rfl (fun fr_335 H locs hp hMr_335 g => ?_)
                obtain ⟨x_336, h_337, hF_338⟩ := hp
                have hG_339 := RP.frame hMr_335 go_.2.2.2.1 mq1_ kq1_ (by decide) (by decide) hG_332
                have hG_340 := dOK.frame hMr_335 go_.2.2.2.1 mq3_ kq3_ (by decide) (by decide) hG_333
                have hG_341 := eOK.frame hMr_335 go_.2.2.2.1 mq6_ kq6_ (by decide) (by decide) hG_334
                have g := g.more hF_338
                refine lv_aload_n hx hb dX11_classes_64 rfl (lv_at hl 1 rfl) ?_
                refine lv_iconst (v := 0) hx hb dX11_classes_65 (by decide) ?_
                have go_ := g
                refine g_put (C := RX11) (T := TX11) (N := 8) hx hb hts (mc_ inX11) tyX11 tyX11_ok nmX11 hown hK g ma0_ ka0_ (by decide) rfl 1 (by decide) (hts _ (List.mem_cons_of_mem _ t_949)) (fun _ h9 => h9) rfl rfl (okV_i (bd_sub kb_0 (by decide))) rfl rfl (by decide) (Or.inr (Or.inl (by decide))) (fx' := [(8, 6, q4_, .int x_336), (8, 8, q4_, .int x_282), (5, 1, q5_, .ref a_284), (2, 4, q0_, .ref a_285), (2, 5, q0_, .ref a_286), (5, 0, q5_, .ref q3_), (2, 3, q0_, .ref q3_), (8, 4, q4_, .ref a_1), (11, 0, a0_, .ref a_1), (11, 2, a0_, .ref q0_), (11, 3, a0_, .ref q1_), (11, 4, a0_, .ref q2_), (11, 5, a0_, .ref q3_), (2, 0, q0_, .ref q4_), (2, 1, q0_, .ref q5_), (2, 2, q0_, .ref q6_), (10, 0, q1_, .ref q7_), (0, 0, q6_, .ref q4_), (0, 1, q6_, .ref q5_)]) rfl dX11_classes_66 (fun f H locs hM_342 g => ?_)
                have hG_343 := RP.frame hM_342 go_.2.2.2.1 mq1_ kq1_ (by decide) (by decide) hG_339
                have hG_344 := dOK.frame hM_342 go_.2.2.2.1 mq3_ kq3_ (by decide) (by decide) hG_340
                have hG_345 := eOK.frame hM_342 go_.2.2.2.1 mq6_ kq6_ (by decide) (by decide) hG_341
                refine lv_aload_n hx hb dX11_classes_69 rfl (lv_at hl 1 rfl) ?_
                refine lv_aload_n hx hb dX11_classes_70 rfl (lv_at hl 1 rfl) ?_
                refine g_getk (C := RX11) (T := TX11) (N := 8) hx hb hts (mc_ inX11) hown hK g rfl 2 (by decide) rfl (hts _ (List.mem_cons_of_mem _ t_950)) (fun _ h9 => h9) 10 rfl dX11_classes_71 ?_
                have go_ := g
                refine g_calli (va_runV (As := []) (rest := [.ref a0_]) ⟨hx, hb, hml, hown, hts⟩ (r_X2_faultKind_2 l dC dI L kd tys f H.size g.2.2.2.1 q0_ mq0_ kq0_ q4_ mq4_ kq4_ x_336 h_337 x_282 h_283 (g.fcts [14, 1, 2] rfl)) (cwV 0 hts (gV_ t_1410 t_1411 t_1412 t_183 t_1413) rfl rfl rfl (by decide +kernel) ⟨(Nat.le_of_ble_eq_true rfl), (Nat.le_of_ble_eq_true rfl)⟩) (pre3V g hK mq0_ kq0_ (by decide) (q := (RX2, TX2, 16)) rfl) rfl rfl hl.1 rfl (lv_room (Nat.le_of_ble_eq_true rfl)) dX11_classes_74 ⟨(Nat.le_of_ble_eq_true rfl), (Nat.le_of_ble_eq_true rfl)⟩) g hK (by decide) (by decide) (fx' := [(11, 1, a0_, .int 0), (8, 6, q4_, .int x_336), (8, 8, q4_, .int x_282), (5, 1, q5_, .ref a_284), (2, 4, q0_, .ref a_285), (2, 5, q0_, .ref a_286), (5, 0, q5_, .ref q3_), (2, 3, q0_, .ref q3_), (8, 4, q4_, .ref a_1), (11, 0, a0_, .ref a_1), (11, 2, a0_, .ref q0_), (11, 3, a0_, .ref q1_), (11, 4, a0_, .ref q2_), (11, 5, a0_, .ref q3_), (2, 0, q0_, .ref q4_), (2, 1, q0_, .ref q5_), (2, 2, q0_, .ref q6_), (10, 0, q1_, .ref q7_), (0, 0, q6_, .ref q4_), (0, 1, q6_, .ref q5_)]) rfl (fun r_346 fr_346 H locs hp hMr_346 g => ?_)
                obtain ⟨h_347, -⟩ := hp
                have hG_348 := RP.frame hMr_346 go_.2.2.2.1 mq1_ kq1_ (by decide) (by decide) hG_343
                have hG_349 := dOK.frame hMr_346 go_.2.2.2.1 mq3_ kq3_ (by decide) (by decide) hG_344
                have hG_350 := eOK.frame hMr_346 go_.2.2.2.1 mq6_ kq6_ (by decide) (by decide) hG_345
                have go_ := g
                refine g_put (C := RX11) (T := TX11) (N := 8) hx hb hts (mc_ inX11) tyX11 tyX11_ok nmX11 hown hK g ma0_ ka0_ (by decide) rfl 6 (by decide) (hts _ (List.mem_cons_of_mem _ t_954)) (fun _ h9 => h9) rfl rfl (okV_i (bd_sub h_347 (by decide))) rfl rfl (by decide) (Or.inr (Or.inl (by decide))) (fx' := [(11, 1, a0_, .int 0), (8, 6, q4_, .int x_336), (8, 8, q4_, .int x_282), (5, 1, q5_, .ref a_284), (2, 4, q0_, .ref a_285), (2, 5, q0_, .ref a_286), (5, 0, q5_, .ref q3_), (2, 3, q0_, .ref q3_), (8, 4, q4_, .ref a_1), (11, 0, a0_, .ref a_1), (11, 2, a0_, .ref q0_), (11, 3, a0_, .ref q1_), (11, 4, a0_, .ref q2_), (11, 5, a0_, .ref q3_), (2, 0, q0_, .ref q4_), (2, 1, q0_, .ref q5_), (2, 2, q0_, .ref q6_), (10, 0, q1_, .ref q7_), (0, 0, q6_, .ref q4_), (0, 1, q6_, .ref q5_)]) rfl dX11_classes_77 (fun f H locs hM_351 g => ?_)
                have hG_352 := RP.frame hM_351 go_.2.2.2.1 mq1_ kq1_ (by decide) (by decide) hG_348
                have hG_353 := dOK.frame hM_351 go_.2.2.2.1 mq3_ kq3_ (by decide) (by decide) hG_349
                have hG_354 := eOK.frame hM_351 go_.2.2.2.1 mq6_ kq6_ (by decide) (by decide) hG_350
                refine lv_aload_n hx hb dX11_classes_80 rfl (lv_at hl 1 rfl) ?_
                refine lv_aload_n hx hb dX11_classes_81 rfl (lv_at hl 1 rfl) ?_
                refine g_getk (C := RX11) (T := TX11) (N := 8) hx hb hts (mc_ inX11) hown hK g rfl 2 (by decide) rfl (hts _ (List.mem_cons_of_mem _ t_950)) (fun _ h9 => h9) 11 rfl dX11_classes_82 ?_
                have go_ := g
                refine g_calli (va_runV (As := []) (rest := [.ref a0_]) ⟨hx, hb, hml, hown, hts⟩ (r_X2_faultPlace_2 l dC dI L kd tys f H.size g.2.2.2.1 q0_ mq0_ kq0_ q4_ mq4_ kq4_ x_336 h_337 x_282 h_283 (g.fcts [15, 2, 3] rfl)) (cwV 0 hts (gV_ t_1414 t_1415 t_1416 t_183 t_1417) rfl rfl rfl (by decide +kernel) ⟨(Nat.le_of_ble_eq_true rfl), (Nat.le_of_ble_eq_true rfl)⟩) (pre3V g hK mq0_ kq0_ (by decide) (q := (RX2, TX2, 16)) rfl) rfl rfl hl.1 rfl (lv_room (Nat.le_of_ble_eq_true rfl)) dX11_classes_85 ⟨(Nat.le_of_ble_eq_true rfl), (Nat.le_of_ble_eq_true rfl)⟩) g hK (by decide) (by decide) (fx' := [(11, 6, a0_, .int r_346), (11, 1, a0_, .int 0), (8, 6, q4_, .int x_336), (8, 8, q4_, .int x_282), (5, 1, q5_, .ref a_284), (2, 4, q0_, .ref a_285), (2, 5, q0_, .ref a_286), (5, 0, q5_, .ref q3_), (2, 3, q0_, .ref q3_), (8, 4, q4_, .ref a_1), (11, 0, a0_, .ref a_1), (11, 2, a0_, .ref q0_), (11, 3, a0_, .ref q1_), (11, 4, a0_, .ref q2_), (11, 5, a0_, .ref q3_), (2, 0, q0_, .ref q4_), (2, 1, q0_, .ref q5_), (2, 2, q0_, .ref q6_), (10, 0, q1_, .ref q7_), (0, 0, q6_, .ref q4_), (0, 1, q6_, .ref q5_)]) rfl (fun r_355 fr_355 H locs hp hMr_355 g => ?_)
                have hG_356 := RP.frame hMr_355 go_.2.2.2.1 mq1_ kq1_ (by decide) (by decide) hG_352
                have hG_357 := dOK.frame hMr_355 go_.2.2.2.1 mq3_ kq3_ (by decide) (by decide) hG_353
                have hG_358 := eOK.frame hMr_355 go_.2.2.2.1 mq6_ kq6_ (by decide) (by decide) hG_354
                have go_ := g
                refine g_put (C := RX11) (T := TX11) (N := 8) hx hb hts (mc_ inX11) tyX11 tyX11_ok nmX11 hown hK g ma0_ ka0_ (by decide) rfl 7 (by decide) (hts _ (List.mem_cons_of_mem _ t_955)) (fun _ h9 => h9) rfl rfl (okV_i (bdT r_355)) rfl rfl (by decide) (Or.inr (Or.inl (by decide))) (fx' := [(11, 6, a0_, .int r_346), (11, 1, a0_, .int 0), (8, 6, q4_, .int x_336), (8, 8, q4_, .int x_282), (5, 1, q5_, .ref a_284), (2, 4, q0_, .ref a_285), (2, 5, q0_, .ref a_286), (5, 0, q5_, .ref q3_), (2, 3, q0_, .ref q3_), (8, 4, q4_, .ref a_1), (11, 0, a0_, .ref a_1), (11, 2, a0_, .ref q0_), (11, 3, a0_, .ref q1_), (11, 4, a0_, .ref q2_), (11, 5, a0_, .ref q3_), (2, 0, q0_, .ref q4_), (2, 1, q0_, .ref q5_), (2, 2, q0_, .ref q6_), (10, 0, q1_, .ref q7_), (0, 0, q6_, .ref q4_), (0, 1, q6_, .ref q5_)]) rfl dX11_classes_88 (fun f H locs hM_359 g => ?_)
                have hG_360 := RP.frame hM_359 go_.2.2.2.1 mq1_ kq1_ (by decide) (by decide) hG_356
                have hG_361 := dOK.frame hM_359 go_.2.2.2.1 mq3_ kq3_ (by decide) (by decide) hG_357
                have hG_362 := eOK.frame hM_359 go_.2.2.2.1 mq6_ kq6_ (by decide) (by decide) hG_358
                refine lv_aload_n hx hb dX11_classes_91 rfl (lv_at hl 1 rfl) ?_
                refine g_getk (C := RX11) (T := TX11) (N := 8) hx hb hts (mc_ inX11) hown hK g rfl 6 (by decide) rfl (hts _ (List.mem_cons_of_mem _ t_954)) (fun _ h9 => h9) 1 rfl dX11_classes_92 ?_
                refine lv_if_eq (tgt := 100) hx hb dX11_classes_95 (by decide) (fun c_363 => ?_) (fun c_363 => ?_)
                · have fc_363 := eq_f c_363
                  have b_364 : bd 1 0 r_346 := eqX fc_363 h_347 kb_0 (by decide)
                  exact bd_no b_364 (by decide)
                · have fc_363 := neq_f c_363
                  refine lv_iconst (v := (-1)) hx hb dX11_classes_98 (by decide) ?_
                  subst hQ
                  exact W.iret (v := (-1)) hx hb hr (fun t ht hW => ⟨⟨_, _, rfl, Or.inl ⟨hG_360, hG_361, hG_362, rfl, r_346, h_347, x_336, h_337, x_282, h_283, a_284, ⟨ma_284, ka_284⟩, a_285, ⟨ma_285, ka_285⟩, a_286, ⟨ma_286, ka_286⟩, a_1, ⟨ma_1, ka_1⟩, (g.fcts [1, 2, 3, 4, 5, 6, 7, 8, 9, 10, 14, 15, 19] rfl)⟩, q3_of g hK ht hW⟩, g.2.2.1.F ht⟩) g.2.2.1.2.2 dX11_classes_99
    have hl9 := lv_sub hl [0, 1] (by rfl : lv_pick [(1, .int 0), (0, .ref a0_)] [0, 1] = [(1, .int 0), (0, .ref a0_)])
    have g9 := g.sub (fx' := [(7, 1, q3_, .int x_18), (8, 6, q4_, .int x_20), (8, 8, q4_, .int 0), (5, 2, q5_, .int x_22), (5, 1, q5_, .ref a_24), (2, 4, q0_, .ref a_25), (2, 5, q0_, .ref a_26), (5, 0, q5_, .ref q3_), (2, 3, q0_, .ref q3_), (8, 4, q4_, .ref a_1), (11, 1, a0_, .int x_2), (11, 0, a0_, .ref a_1), (11, 2, a0_, .ref q0_), (11, 3, a0_, .ref q1_), (11, 4, a0_, .ref q2_), (11, 5, a0_, .ref q3_), (2, 0, q0_, .ref q4_), (2, 1, q0_, .ref q5_), (2, 2, q0_, .ref q6_), (10, 0, q1_, .ref q7_), (0, 0, q6_, .ref q4_), (0, 1, q6_, .ref q5_)]) [0, 1, 2, 3, 4, 5, 6, 7, 8, 9, 10, 11, 12, 13, 14, 15, 16, 17, 18, 19, 20, 21] rfl
    exact loop_40 (21) 0 x_18 x_20 x_22 a_24 a_25 a_26 (bd_sub kb_0 (by decide)) h_19 h_21 h_23 ma_24 ka_24 ma_25 ka_25 ma_26 ka_26 (by have h9_0 := h_19; unfold bd at h9_0; have h9_1 := h_21; unfold bd at h9_1; have h9_2 := h_23; unfold bd at h9_2; have h9_3 := kb_0; unfold bd at h9_3; omega) _ _ _ _ g9 hG_38 hG_16 hG_14 hG_15 hs_39 hl9
  · have hG_365 := RP.frame hMr_13 go_.2.2.2.1 mq1_ kq1_ (by decide) (by decide) hG_10
    have g := g.more hF_37
    refine lv_iconst (v := 0) hx hb dX11_classes_26 (by decide) ?_
    refine lv_istore_n (lv' := [(1, .int 0), (0, .ref a0_)]) hx hb dX11_classes_27 rfl hl (by decide) rfl (fun ls hl => ?_)
    refine lv_iload_n hx hb dX11_classes_28 rfl (lv_at hl 0 rfl) ?_
    refine lv_bipush (v := 8) hx hb dX11_classes_29 (by decide) ?_
    refine lv_icmp_gt (tgt := 57) hx hb dX11_classes_31 (by decide) (fun c_ => absurd c_ (by decide)) (fun c_ => ?_)
    refine lv_aload_n hx hb dX11_classes_34 rfl (lv_at hl 1 rfl) ?_
    refine g_getk (C := RX11) (T := TX11) (N := 8) hx hb hts (mc_ inX11) hown hK g rfl 2 (by decide) rfl (hts _ (List.mem_cons_of_mem _ t_950)) (fun _ h9 => h9) 10 rfl dX11_classes_35 ?_
    have go_ := g
    refine g_calli (va_runV (As := []) (rest := []) ⟨hx, hb, hml, hown, hts⟩ (r_X2_atClass_2 l dC dI L kd tys fr_13 H.size g.2.2.2.1 q0_ mq0_ kq0_ q4_ mq4_ kq4_ x_30 h_31 x_32 h_33 (g.fcts [14, 0, 1] rfl)) (cwV 0 hts (gV_ t_1402 t_1403 t_1404 t_183 t_1405) rfl rfl rfl (by decide +kernel) ⟨(Nat.le_of_ble_eq_true rfl), (Nat.le_of_ble_eq_true rfl)⟩) (pre3V g hK mq0_ kq0_ (by decide) (q := (RX2, TX2, 16)) rfl) rfl rfl hl.1 rfl (lv_room (Nat.le_of_ble_eq_true rfl)) dX11_classes_38 ⟨(Nat.le_of_ble_eq_true rfl), (Nat.le_of_ble_eq_true rfl)⟩) g hK (by decide) (by decide) (fx' := [(8, 6, q4_, .int x_30), (8, 8, q4_, .int x_32), (5, 1, q5_, .ref a_34), (2, 4, q0_, .ref a_35), (2, 5, q0_, .ref a_36), (5, 0, q5_, .ref q3_), (2, 3, q0_, .ref q3_), (8, 4, q4_, .ref a_1), (11, 1, a0_, .int x_2), (11, 0, a0_, .ref a_1), (11, 2, a0_, .ref q0_), (11, 3, a0_, .ref q1_), (11, 4, a0_, .ref q2_), (11, 5, a0_, .ref q3_), (2, 0, q0_, .ref q4_), (2, 1, q0_, .ref q5_), (2, 2, q0_, .ref q6_), (10, 0, q1_, .ref q7_), (0, 0, q6_, .ref q4_), (0, 1, q6_, .ref q5_)]) rfl (fun r_366 fr_366 H locs hp hMr_366 g => ?_)
    obtain ⟨h_367, -⟩ := hp
    have hG_368 := RP.frame hMr_366 go_.2.2.2.1 mq1_ kq1_ (by decide) (by decide) hG_365
    have hG_369 := dOK.frame hMr_366 go_.2.2.2.1 mq3_ kq3_ (by decide) (by decide) hG_29
    have hG_370 := eOK.frame hMr_366 go_.2.2.2.1 mq6_ kq6_ (by decide) (by decide) hG_28
    obtain rfl : r_366 = 0 := h_367
    refine lv_if_eq (tgt := 57) hx hb dX11_classes_41 (by decide) (fun c_ => ?_) (fun c_ => absurd (by decide) c_)
    refine lv_aload_n hx hb dX11_classes_57 rfl (lv_at hl 1 rfl) ?_
    refine g_getk (C := RX11) (T := TX11) (N := 8) hx hb hts (mc_ inX11) hown hK g rfl 2 (by decide) rfl (hts _ (List.mem_cons_of_mem _ t_950)) (fun _ h9 => h9) 10 rfl dX11_classes_58 ?_
    have go_ := g
    refine g_callv (va_runV (As := []) (rest := []) ⟨hx, hb, hml, hown, hts⟩ (r_X2_finish_2 l dC dI L kd tys fr_366 H.size g.2.2.2.1 q0_ mq0_ kq0_ q4_ mq4_ kq4_ x_30 h_31 x_32 h_33 (g.fcts [14, 0, 1] rfl)) (cwV 0 hts (gV_ t_1406 t_1407 t_1408 t_183 t_1409) rfl rfl rfl (by decide +kernel) ⟨(Nat.le_of_ble_eq_true rfl), (Nat.le_of_ble_eq_true rfl)⟩) (pre3V g hK mq0_ kq0_ (by decide) (q := (RX2, TX2, 16)) rfl) rfl rfl hl.1 rfl (lv_room (Nat.le_of_ble_eq_true rfl)) dX11_classes_61 ⟨(Nat.le_of_ble_eq_true rfl), (Nat.le_of_ble_eq_true rfl)⟩) g hK (by decide) (by decide) (fx' := [(8, 8, q4_, .int x_32), (5, 1, q5_, .ref a_34), (2, 4, q0_, .ref a_35), (2, 5, q0_, .ref a_36), (5, 0, q5_, .ref q3_), (2, 3, q0_, .ref q3_), (8, 4, q4_, .ref a_1), (11, 1, a0_, .int x_2), (11, 0, a0_, .ref a_1), (11, 2, a0_, .ref q0_), (11, 3, a0_, .ref q1_), (11, 4, a0_, .ref q2_), (11, 5, a0_, .ref q3_), (2, 0, q0_, .ref q4_), (2, 1, q0_, .ref q5_), (2, 2, q0_, .ref q6_), (10, 0, q1_, .ref q7_), (0, 0, q6_, .ref q4_), (0, 1, q6_, .ref q5_)]) rfl (fun fr_371 H locs hp hMr_371 g => ?_)
    obtain ⟨x_372, h_373, hF_374⟩ := hp
    have hG_375 := RP.frame hMr_371 go_.2.2.2.1 mq1_ kq1_ (by decide) (by decide) hG_368
    have hG_376 := dOK.frame hMr_371 go_.2.2.2.1 mq3_ kq3_ (by decide) (by decide) hG_369
    have hG_377 := eOK.frame hMr_371 go_.2.2.2.1 mq6_ kq6_ (by decide) (by decide) hG_370
    have g := g.more hF_374
    refine lv_aload_n hx hb dX11_classes_64 rfl (lv_at hl 1 rfl) ?_
    refine lv_iconst (v := 0) hx hb dX11_classes_65 (by decide) ?_
    have go_ := g
    refine g_put (C := RX11) (T := TX11) (N := 8) hx hb hts (mc_ inX11) tyX11 tyX11_ok nmX11 hown hK g ma0_ ka0_ (by decide) rfl 1 (by decide) (hts _ (List.mem_cons_of_mem _ t_949)) (fun _ h9 => h9) rfl rfl (okV_i (bd_sub kb_0 (by decide))) rfl rfl (by decide) (Or.inr (Or.inl (by decide))) (fx' := [(8, 6, q4_, .int x_372), (8, 8, q4_, .int x_32), (5, 1, q5_, .ref a_34), (2, 4, q0_, .ref a_35), (2, 5, q0_, .ref a_36), (5, 0, q5_, .ref q3_), (2, 3, q0_, .ref q3_), (8, 4, q4_, .ref a_1), (11, 0, a0_, .ref a_1), (11, 2, a0_, .ref q0_), (11, 3, a0_, .ref q1_), (11, 4, a0_, .ref q2_), (11, 5, a0_, .ref q3_), (2, 0, q0_, .ref q4_), (2, 1, q0_, .ref q5_), (2, 2, q0_, .ref q6_), (10, 0, q1_, .ref q7_), (0, 0, q6_, .ref q4_), (0, 1, q6_, .ref q5_)]) rfl dX11_classes_66 (fun f H locs hM_378 g => ?_)
    have hG_379 := RP.frame hM_378 go_.2.2.2.1 mq1_ kq1_ (by decide) (by decide) hG_375
    have hG_380 := dOK.frame hM_378 go_.2.2.2.1 mq3_ kq3_ (by decide) (by decide) hG_376
    have hG_381 := eOK.frame hM_378 go_.2.2.2.1 mq6_ kq6_ (by decide) (by decide) hG_377
    refine lv_aload_n hx hb dX11_classes_69 rfl (lv_at hl 1 rfl) ?_
    refine lv_aload_n hx hb dX11_classes_70 rfl (lv_at hl 1 rfl) ?_
    refine g_getk (C := RX11) (T := TX11) (N := 8) hx hb hts (mc_ inX11) hown hK g rfl 2 (by decide) rfl (hts _ (List.mem_cons_of_mem _ t_950)) (fun _ h9 => h9) 10 rfl dX11_classes_71 ?_
    have go_ := g
    refine g_calli (va_runV (As := []) (rest := [.ref a0_]) ⟨hx, hb, hml, hown, hts⟩ (r_X2_faultKind_2 l dC dI L kd tys f H.size g.2.2.2.1 q0_ mq0_ kq0_ q4_ mq4_ kq4_ x_372 h_373 x_32 h_33 (g.fcts [14, 1, 2] rfl)) (cwV 0 hts (gV_ t_1410 t_1411 t_1412 t_183 t_1413) rfl rfl rfl (by decide +kernel) ⟨(Nat.le_of_ble_eq_true rfl), (Nat.le_of_ble_eq_true rfl)⟩) (pre3V g hK mq0_ kq0_ (by decide) (q := (RX2, TX2, 16)) rfl) rfl rfl hl.1 rfl (lv_room (Nat.le_of_ble_eq_true rfl)) dX11_classes_74 ⟨(Nat.le_of_ble_eq_true rfl), (Nat.le_of_ble_eq_true rfl)⟩) g hK (by decide) (by decide) (fx' := [(11, 1, a0_, .int 0), (8, 6, q4_, .int x_372), (8, 8, q4_, .int x_32), (5, 1, q5_, .ref a_34), (2, 4, q0_, .ref a_35), (2, 5, q0_, .ref a_36), (5, 0, q5_, .ref q3_), (2, 3, q0_, .ref q3_), (8, 4, q4_, .ref a_1), (11, 0, a0_, .ref a_1), (11, 2, a0_, .ref q0_), (11, 3, a0_, .ref q1_), (11, 4, a0_, .ref q2_), (11, 5, a0_, .ref q3_), (2, 0, q0_, .ref q4_), (2, 1, q0_, .ref q5_), (2, 2, q0_, .ref q6_), (10, 0, q1_, .ref q7_), (0, 0, q6_, .ref q4_), (0, 1, q6_, .ref q5_)]) rfl (fun r_382 fr_382 H locs hp hMr_382 g => ?_)
    obtain ⟨h_383, -⟩ := hp
    have hG_384 := RP.frame hMr_382 go_.2.2.2.1 mq1_ kq1_ (by decide) (by decide) hG_379
    have hG_385 := dOK.frame hMr_382 go_.2.2.2.1 mq3_ kq3_ (by decide) (by decide) hG_380
    have hG_386 := eOK.frame hMr_382 go_.2.2.2.1 mq6_ kq6_ (by decide) (by decide) hG_381
    have go_ := g
    refine g_put (C := RX11) (T := TX11) (N := 8) hx hb hts (mc_ inX11) tyX11 tyX11_ok nmX11 hown hK g ma0_ ka0_ (by decide) rfl 6 (by decide) (hts _ (List.mem_cons_of_mem _ t_954)) (fun _ h9 => h9) rfl rfl (okV_i (bd_sub h_383 (by decide))) rfl rfl (by decide) (Or.inr (Or.inl (by decide))) (fx' := [(11, 1, a0_, .int 0), (8, 6, q4_, .int x_372), (8, 8, q4_, .int x_32), (5, 1, q5_, .ref a_34), (2, 4, q0_, .ref a_35), (2, 5, q0_, .ref a_36), (5, 0, q5_, .ref q3_), (2, 3, q0_, .ref q3_), (8, 4, q4_, .ref a_1), (11, 0, a0_, .ref a_1), (11, 2, a0_, .ref q0_), (11, 3, a0_, .ref q1_), (11, 4, a0_, .ref q2_), (11, 5, a0_, .ref q3_), (2, 0, q0_, .ref q4_), (2, 1, q0_, .ref q5_), (2, 2, q0_, .ref q6_), (10, 0, q1_, .ref q7_), (0, 0, q6_, .ref q4_), (0, 1, q6_, .ref q5_)]) rfl dX11_classes_77 (fun f H locs hM_387 g => ?_)
    have hG_388 := RP.frame hM_387 go_.2.2.2.1 mq1_ kq1_ (by decide) (by decide) hG_384
    have hG_389 := dOK.frame hM_387 go_.2.2.2.1 mq3_ kq3_ (by decide) (by decide) hG_385
    have hG_390 := eOK.frame hM_387 go_.2.2.2.1 mq6_ kq6_ (by decide) (by decide) hG_386
    refine lv_aload_n hx hb dX11_classes_80 rfl (lv_at hl 1 rfl) ?_
    refine lv_aload_n hx hb dX11_classes_81 rfl (lv_at hl 1 rfl) ?_
    refine g_getk (C := RX11) (T := TX11) (N := 8) hx hb hts (mc_ inX11) hown hK g rfl 2 (by decide) rfl (hts _ (List.mem_cons_of_mem _ t_950)) (fun _ h9 => h9) 11 rfl dX11_classes_82 ?_
    have go_ := g
    refine g_calli (va_runV (As := []) (rest := [.ref a0_]) ⟨hx, hb, hml, hown, hts⟩ (r_X2_faultPlace_2 l dC dI L kd tys f H.size g.2.2.2.1 q0_ mq0_ kq0_ q4_ mq4_ kq4_ x_372 h_373 x_32 h_33 (g.fcts [15, 2, 3] rfl)) (cwV 0 hts (gV_ t_1414 t_1415 t_1416 t_183 t_1417) rfl rfl rfl (by decide +kernel) ⟨(Nat.le_of_ble_eq_true rfl), (Nat.le_of_ble_eq_true rfl)⟩) (pre3V g hK mq0_ kq0_ (by decide) (q := (RX2, TX2, 16)) rfl) rfl rfl hl.1 rfl (lv_room (Nat.le_of_ble_eq_true rfl)) dX11_classes_85 ⟨(Nat.le_of_ble_eq_true rfl), (Nat.le_of_ble_eq_true rfl)⟩) g hK (by decide) (by decide) (fx' := [(11, 6, a0_, .int r_382), (11, 1, a0_, .int 0), (8, 6, q4_, .int x_372), (8, 8, q4_, .int x_32), (5, 1, q5_, .ref a_34), (2, 4, q0_, .ref a_35), (2, 5, q0_, .ref a_36), (5, 0, q5_, .ref q3_), (2, 3, q0_, .ref q3_), (8, 4, q4_, .ref a_1), (11, 0, a0_, .ref a_1), (11, 2, a0_, .ref q0_), (11, 3, a0_, .ref q1_), (11, 4, a0_, .ref q2_), (11, 5, a0_, .ref q3_), (2, 0, q0_, .ref q4_), (2, 1, q0_, .ref q5_), (2, 2, q0_, .ref q6_), (10, 0, q1_, .ref q7_), (0, 0, q6_, .ref q4_), (0, 1, q6_, .ref q5_)]) rfl (fun r_391 fr_391 H locs hp hMr_391 g => ?_)
    have hG_392 := RP.frame hMr_391 go_.2.2.2.1 mq1_ kq1_ (by decide) (by decide) hG_388
    have hG_393 := dOK.frame hMr_391 go_.2.2.2.1 mq3_ kq3_ (by decide) (by decide) hG_389
    have hG_394 := eOK.frame hMr_391 go_.2.2.2.1 mq6_ kq6_ (by decide) (by decide) hG_390
    have go_ := g
    refine g_put (C := RX11) (T := TX11) (N := 8) hx hb hts (mc_ inX11) tyX11 tyX11_ok nmX11 hown hK g ma0_ ka0_ (by decide) rfl 7 (by decide) (hts _ (List.mem_cons_of_mem _ t_955)) (fun _ h9 => h9) rfl rfl (okV_i (bdT r_391)) rfl rfl (by decide) (Or.inr (Or.inl (by decide))) (fx' := [(11, 6, a0_, .int r_382), (11, 1, a0_, .int 0), (8, 6, q4_, .int x_372), (8, 8, q4_, .int x_32), (5, 1, q5_, .ref a_34), (2, 4, q0_, .ref a_35), (2, 5, q0_, .ref a_36), (5, 0, q5_, .ref q3_), (2, 3, q0_, .ref q3_), (8, 4, q4_, .ref a_1), (11, 0, a0_, .ref a_1), (11, 2, a0_, .ref q0_), (11, 3, a0_, .ref q1_), (11, 4, a0_, .ref q2_), (11, 5, a0_, .ref q3_), (2, 0, q0_, .ref q4_), (2, 1, q0_, .ref q5_), (2, 2, q0_, .ref q6_), (10, 0, q1_, .ref q7_), (0, 0, q6_, .ref q4_), (0, 1, q6_, .ref q5_)]) rfl dX11_classes_88 (fun f H locs hM_395 g => ?_)
    have hG_396 := RP.frame hM_395 go_.2.2.2.1 mq1_ kq1_ (by decide) (by decide) hG_392
    have hG_397 := dOK.frame hM_395 go_.2.2.2.1 mq3_ kq3_ (by decide) (by decide) hG_393
    have hG_398 := eOK.frame hM_395 go_.2.2.2.1 mq6_ kq6_ (by decide) (by decide) hG_394
    refine lv_aload_n hx hb dX11_classes_91 rfl (lv_at hl 1 rfl) ?_
    refine g_getk (C := RX11) (T := TX11) (N := 8) hx hb hts (mc_ inX11) hown hK g rfl 6 (by decide) rfl (hts _ (List.mem_cons_of_mem _ t_954)) (fun _ h9 => h9) 1 rfl dX11_classes_92 ?_
    refine lv_if_eq (tgt := 100) hx hb dX11_classes_95 (by decide) (fun c_399 => ?_) (fun c_399 => ?_)
    · have fc_399 := eq_f c_399
      have b_400 : bd 1 0 r_382 := eqX fc_399 h_383 kb_0 (by decide)
      exact bd_no b_400 (by decide)
    · have fc_399 := neq_f c_399
      refine lv_iconst (v := (-1)) hx hb dX11_classes_98 (by decide) ?_
      subst hQ
      exact W.iret (v := (-1)) hx hb hr (fun t ht hW => ⟨⟨_, _, rfl, Or.inl ⟨hG_396, hG_397, hG_398, rfl, r_382, h_383, x_372, h_373, x_32, h_33, a_34, ⟨ma_34, ka_34⟩, a_35, ⟨ma_35, ka_35⟩, a_36, ⟨ma_36, ka_36⟩, a_1, ⟨ma_1, ka_1⟩, (g.fcts [1, 2, 3, 4, 5, 6, 7, 8, 9, 10, 14, 15, 19] rfl)⟩, q3_of g hK ht hW⟩, g.2.2.1.F ht⟩) g.2.2.1.2.2 dX11_classes_99
