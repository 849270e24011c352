set_option maxHeartbeats 4000000 in
set_option maxRecDepth 100000 in
theorem r_X3_leaveOutQ (l : Launch) (dC : Nat → ClassId) (dI : Nat → Nat → Nat) (L : List Nat) (kd : Nat → Nat) (tys : List (ClassId × FieldType)) (f0 : Nat → va_E) (sz : Nat) (hWT : WT L kd tys f0) (a0_ : Nat) (ma0_ : a0_ ∈ L) (ka0_ : kd a0_ = 3) (p_ : Nat) (mp_ : p_ ∈ L) (kp_ : kd p_ = 124) (m_ : Nat) (mm_ : m_ ∈ L) (km_ : kd m_ = 123) (A_ : Nat → Nat) (Q_ : RQ) (n_ : Int32) (bn_ : bd 0 10 n_) (k_ : Int32) (bk_ : bd 0 3 k_) (hJ_ : arP f0 p_ A_) (hQ_ : isQ L kd f0 m_ A_ Q_) (hw : wQ Q_ n_ k_) (x1_ : Nat) (mx1_ : x1_ ∈ L) (kx1_ : kd x1_ = 3) (p9_ : Nat) (mp9_ : p9_ ∈ L) (kp9_ : kd p9_ = 124) (m9_ : Nat) (mm9_ : m9_ ∈ L) (km9_ : kd m9_ = 123) (A9_ : Nat → Nat) (Q9_ : RQ) (n9_ : Int32) (bn9_ : bd 0 10 n9_) (k9_ : Int32) (bk9_ : bd 0 3 k9_) (hJ9_ : arP f0 p9_ A9_) (hQ9_ : isQ L kd f0 m9_ A9_ Q9_) (hw9 : wQ Q9_ n9_ k9_) (hap : a0_ ≠ x1_ ∧ m_ ≠ m9_ ∧ ∀ i j, i < 10 → j < 10 → A_ i ≠ A9_ j) (x2_ : Int32) (bx2_ : bd 0 9 x2_) (hfx : Fs L kd f0 [(3, 0, a0_, .int n_), (3, 4, a0_, .int k_), (3, 2, a0_, .ref m_), (3, 3, a0_, .ref p_), (3, 0, x1_, .int n9_), (3, 4, x1_, .int k9_), (3, 2, x1_, .ref m9_), (3, 3, x1_, .ref p9_)]) : Met l yX3_leaveOut (.code yX3_leaveOut cX3_leaveOut 8 (some .boolean) :: lw_g) ({ frames := 2, cells := 0, slots := 0, locals := 51 }) (va_Pc [.ref a0_, .ref x1_, .int x2_] (P3 (dC, dI) L tys f0 sz)) (va_Qi (fun (r : Int32) (f : Nat → va_E) => ((rowT L kd f0 f a0_ m_ A_ (fun Q1 n1 k1 => wQ Q1 n1 k1)) ∧ bd 0 1 r ∧ True)) (Q3 (dC, dI) L kd tys [(3, 0), (3, 4)] [103, 122, 123, 125] f0 sz) (pA L sz)) 0 0 (pA L sz) := by
  refine Met.ofW (cc := cX3_leaveOut) (maxL := 8) (ret := (some .boolean)) (by decide) rfl ?_
  intro p e s m args below meth c s₁ B hml hv
  obtain ⟨rfl, hsz, hP, hK, hD0⟩ := hv
  have hx := B.exec
  have hb := B.bytes
  have hr := B.returns
  have hts := atoms_spec (ws := (.code yX3_leaveOut cX3_leaveOut 8 (some .boolean) :: lw_g)) B.pre
  have hown : s.vm.findClass RX3 = some m.cls := findClass_of_methodNamed B.named
  have hlocks := B.notSynchronized
  subst hsz
  have g : G3 (dC, dI) L kd tys s f0 [(3, 0), (3, 4)] [103, 122, 123, 125] f0 s.heap [] [(3, 0, a0_, .int n_), (3, 4, a0_, .int k_), (3, 2, a0_, .ref m_), (3, 3, a0_, .ref p_), (3, 0, x1_, .int n9_), (3, 4, x1_, .int k9_), (3, 2, x1_, .ref m9_), (3, 3, x1_, .ref p9_)] := G3.start hP hD0 hWT hfx
  have hl := lv_entry ([.ref a0_, .ref x1_, .int x2_]) (n := 8) (Nat.le_of_ble_eq_true rfl)
  rw [lg_entry_eq]
  generalize (lg_sl ([.ref a0_, .ref x1_, .int x2_]) ++ List.replicate (8 - (lg_sl ([.ref a0_, .ref x1_, .int x2_])).length) Slot.unset).toArray = ls at hl ⊢
  have hl : lv_has ls 8 [(0, .ref a0_), (1, .ref x1_), (2, .int x2_)] := hl
  refine W_q (fun Q hQ => ?_)
  have hU_0 : QR L kd f0 f0 a0_ m_ A_ := QR.refl
  refine lv_iload_n hx hb dX3_leaveOut_0 rfl (lv_at hl 2 rfl) ?_
  refine lv_aload_n hx hb dX3_leaveOut_1 rfl (lv_at hl 1 rfl) ?_
  refine g_getk (C := RX3) (T := TX3) (N := 6) hx hb hts (mc_ inX3) hown hK g rfl 0 (by decide) rfl (hts _ (List.mem_cons_of_mem _ t_801)) (fun _ h9 => h9) 4 rfl dX3_leaveOut_2 ?_
  refine lv_icmp_lt (tgt := 10) hx hb dX3_leaveOut_5 (by decide) (fun c_1 => ?_) (fun c_1 => ?_)
  · have fc_1 := lt_f c_1
    have b_2 : bd 1 10 n9_ := ltR fc_1 bx2_ bn9_ (by decide)
    refine lv_aload_n hx hb dX3_leaveOut_10 rfl (lv_at hl 0 rfl) ?_
    have ho_3 := (fx_at g (i := 4) rfl).2.2.2
    have ho_4 := (fx_at g (i := 5) rfl).2.2.2
    have go_ := g
    refine g_callv (va_runV (As := []) (rest := []) ⟨hx, hb, hml, hown, hts⟩ (r_X3_wipeQ l dC dI L kd tys f0 s.heap.size g.2.2.2.1 a0_ ma0_ ka0_ p_ mp_ kp_ m_ mm_ km_ A_ Q_ n_ bn_ k_ bk_ hJ_ hQ_ (g.fcts [0, 1, 2, 3] rfl)) (cwV 0 hts (gV_ t_1778 t_1423 t_1424 t_196 t_1425) rfl rfl rfl (by decide +kernel) ⟨(Nat.le_of_ble_eq_true rfl), (Nat.le_of_ble_eq_true rfl)⟩) (pre3V g hK ma0_ ka0_ (by decide) (q := (RX3, TX3, 6)) rfl) rfl rfl hl.1 rfl (lv_room (Nat.le_of_ble_eq_true rfl)) dX3_leaveOut_11 ⟨(Nat.le_of_ble_eq_true rfl), (Nat.le_of_ble_eq_true rfl)⟩) g hK (by decide) (by decide) (fx' := [(3, 2, a0_, .ref m_), (3, 3, a0_, .ref p_), (3, 2, x1_, .ref m9_), (3, 3, x1_, .ref p9_)]) rfl (fun fr_5 H locs hp hMr_5 g => ?_)
    obtain ⟨hx_6, -⟩ := hp
    have hG_7 := isQ.frame hMr_5 go_.2.2.2.1 ma0_ ka0_ (by decide) (by decide) hQ_
    have hG_8 := arP.frame hMr_5 go_.2.2.2.1 mp_ kp_ (by decide) (by decide) hJ_
    have hG_9 := isQ.frame hMr_5 go_.2.2.2.1 mx1_ kx1_ (by decide) (by decide) hQ9_
    have hG_10 := arP.frame hMr_5 go_.2.2.2.1 mp9_ kp9_ (by decide) (by decide) hJ9_
    obtain ⟨Q_11, n_12, k_13, hQ_14, hU_15, h0_16, h4_17, b0_18, b4_19, hP_20⟩ := hx_6
    have hU_21 := QR.tr hU_0 hU_15
    have g := G3.add g ma0_ ka0_ (by decide) h0_16
    have g := G3.add g ma0_ ka0_ (by decide) h4_17
    have hQ_22 := QR.oth hU_15 hQ9_ hap.2.1 hap.2.2
    have g := G3.add g mx1_ kx1_ (by decide) (((hU_15 x1_ mx1_).1 kx1_ (fun z => hap.1 z.symm) 0).trans ho_3)
    have g := G3.add g mx1_ kx1_ (by decide) (((hU_15 x1_ mx1_).1 kx1_ (fun z => hap.1 z.symm) 4).trans ho_4)
    refine lv_aload_n hx hb dX3_leaveOut_14 rfl (lv_at hl 1 rfl) ?_
    refine g_getk (C := RX3) (T := TX3) (N := 6) hx hb hts (mc_ inX3) hown hK g rfl 2 (by decide) rfl (hts _ (List.mem_cons_of_mem _ t_807)) (fun _ h9 => h9) 6 rfl dX3_leaveOut_15 ?_
    refine lv_iload_n hx hb dX3_leaveOut_18 rfl (lv_at hl 2 rfl) ?_
    refine g_iald hx hb hK g mm9_ km9_ (by decide) rfl (in_bd bx2_ (by decide)) dX3_leaveOut_19 (fun x_25 bx_25 cx_25 => ?_)
    have vx_25 : x_25 = Q9_.1 x2_.toNatClampNeg := cx_25.trans (hQ_22.2.2.2.2.1 _)
    refine lv_iconst (v := (-1)) hx hb dX3_leaveOut_20 (by decide) ?_
    have kb_m1 : bd (-1) (-1) ((-1) : Int32) := ⟨by decide, by decide⟩
    refine lv_icmp_ne (tgt := 28) hx hb dX3_leaveOut_21 (by decide) (fun c_26 => ?_) (fun c_26 => ?_)
    · have fc_26 := neq_f c_26
      have b_27 : bd 0 11 x_25 := neX fc_26 bx_25 kb_m1 (by decide)
      refine lv_iconst (v := 0) hx hb dX3_leaveOut_28 (by decide) ?_
      refine lv_istore_n (lv' := [(3, .int 0), (0, .ref a0_), (1, .ref x1_), (2, .int x2_)]) hx hb dX3_leaveOut_29 rfl hl (by decide) rfl (fun ls hl => ?_)
      refine lv_iload_n hx hb dX3_leaveOut_30 rfl (lv_at hl 0 rfl) ?_
      refine lv_if_eq (tgt := 43) hx hb dX3_leaveOut_31 (by decide) (fun c_ => ?_) (fun c_ => absurd (by decide) c_)
      refine lv_iconst (v := 3) hx hb dX3_leaveOut_43 (by decide) ?_
      refine lv_istore (lv' := [(4, .int 3), (3, .int 0), (0, .ref a0_), (1, .ref x1_), (2, .int x2_)]) hx hb dX3_leaveOut_44 hl (by decide) rfl (fun ls hl => ?_)
      refine lv_iconst (v := 0) hx hb dX3_leaveOut_46 (by decide) ?_
      refine lv_istore (lv' := [(5, .int 0), (4, .int 3), (3, .int 0), (0, .ref a0_), (1, .ref x1_), (2, .int x2_)]) hx hb dX3_leaveOut_47 hl (by decide) rfl (fun ls hl => ?_)
      have loop_28 : ∀ (n : Nat) (v49_5 : Int32) (w49_3_4_a0_ : Int32) (w49_3_0_a0_ : Int32), bd 0 10 v49_5 → bd 0 3 w49_3_4_a0_ → bd 0 10 w49_3_0_a0_ → (10 - v49_5.toInt < (n : Int)) → ∀ (f : Nat → va_E) (H : Heap) (locs : List Loc) (ls : Array Slot), G3 (dC, dI) L kd tys s f0 [(3, 0), (3, 4)] [103, 122, 123, 125] f H locs [(3, 4, x1_, .int k9_), (3, 0, x1_, .int n9_), (3, 4, a0_, .int w49_3_4_a0_), (3, 0, a0_, .int w49_3_0_a0_), (3, 2, a0_, .ref m_), (3, 3, a0_, .ref p_), (3, 2, x1_, .ref m9_), (3, 3, x1_, .ref p9_)] → (∃ Q1 : RQ, isQ L kd f m_ A_ Q1 ∧ arP f p_ A_ ∧ QR L kd f0 f a0_ m_ A_ ∧ isQ L kd f m9_ A9_ Q9_ ∧ arP f p9_ A9_ ∧ wQ Q1 w49_3_0_a0_ w49_3_4_a0_) → lv_has ls 8 [(5, .int v49_5), (4, .int 3), (3, .int 0), (0, .ref a0_), (1, .ref x1_), (2, .int x2_)] → W p l e ({ frames := 2, cells := 0, slots := 0, locals := 51 } : Room) s m [.ref a0_, .ref x1_, .int x2_].toArray below meth c H locs 0 0 Q (F0 m 49 ls []) := by
        intro n49
        induction n49 with
        | zero =>
          intro v49_5 w49_3_4_a0_ w49_3_0_a0_ bv49_5 bw49_3_4_a0_ bw49_3_0_a0_ hm49 f H locs ls g  ⟨Q49, hQ49, hJ49, hU49, hQ949, hJ949, hw49⟩ hl
          exact absurd hm49 (by have h9_v49_5 := bv49_5; unfold bd at h9_v49_5; have h9_w49_3_4_a0_ := bw49_3_4_a0_; unfold bd at h9_w49_3_4_a0_; have h9_w49_3_0_a0_ := bw49_3_0_a0_; unfold bd at h9_w49_3_0_a0_; omega)
        | succ n49 ih49 =>
          intro v49_5 w49_3_4_a0_ w49_3_0_a0_ bv49_5 bw49_3_4_a0_ bw49_3_0_a0_ hm49 f H locs ls g  ⟨Q49, hQ49, hJ49, hU49, hQ949, hJ949, hw49⟩ hl
          refine lv_iload hx hb dX3_leaveOut_49 (lv_at hl 0 rfl) ?_
          refine lv_aload_n hx hb dX3_leaveOut_51 rfl (lv_at hl 4 rfl) ?_
          refine g_getk (C := RX3) (T := TX3) (N := 6) hx hb hts (mc_ inX3) hown hK g rfl 0 (by decide) rfl (hts _ (List.mem_cons_of_mem _ t_801)) (fun _ h9 => h9) 1 rfl dX3_leaveOut_52 ?_
          refine lv_icmp_ge (tgt := 164) hx hb dX3_leaveOut_55 (by decide) (fun c_29 => ?_) (fun c_29 => ?_)
          · have fc_29 := le_f c_29
            have b_30 : bd 1 10 v49_5 := leR fc_29 b_2 bv49_5 (by decide)
            refine lv_aload_n hx hb dX3_leaveOut_164 rfl (lv_at hl 3 rfl) ?_
            refine g_getk (C := RX3) (T := TX3) (N := 6) hx hb hts (mc_ inX3) hown hK g rfl 0 (by decide) rfl (hts _ (List.mem_cons_of_mem _ t_801)) (fun _ h9 => h9) 3 rfl dX3_leaveOut_165 ?_
            have kb_0 : bd 0 0 (0 : Int32) := ⟨by decide, by decide⟩
            refine lv_if_le (tgt := 175) hx hb dX3_leaveOut_168 (by decide) (fun c_31 => ?_) (fun c_31 => ?_)
            · have fc_31 := le_f c_31
              have b_32 : bd 0 0 w49_3_0_a0_ := leL fc_31 bw49_3_0_a0_ kb_0 (by decide)
              refine lv_iconst (v := 0) hx hb dX3_leaveOut_175 (by decide) ?_
              subst hQ
              exact W.zret (v := 0) hx hb hr (nar_z (bd_sub kb_0 (by decide) : bd 0 1 _).1 (bd_sub kb_0 (by decide) : bd 0 1 _).2) (fun t ht hW => ⟨⟨_, _, rfl, ⟨⟨Q49, w49_3_0_a0_, w49_3_4_a0_, hQ49, hU49, (fx_at g (i := 3) rfl).2.2.2, (fx_at g (i := 2) rfl).2.2.2, (bd_sub b_32 (by decide)), bw49_3_4_a0_, hw49⟩, (bd_sub kb_0 (by decide)), trivial⟩, q3_of g hK ht hW⟩, g.2.2.1.F ht⟩) g.2.2.1.2.2 dX3_leaveOut_176
            · have fc_31 := nle_f c_31
              have b_33 : bd 1 10 w49_3_0_a0_ := ltR fc_31 kb_0 bw49_3_0_a0_ (by decide)
              refine lv_iconst (v := 1) hx hb dX3_leaveOut_171 (by decide) ?_
              refine lv_goto (tgt := 176) hx hb dX3_leaveOut_172 (by decide) ?_
              have kb_1 : bd 1 1 (1 : Int32) := ⟨by decide, by decide⟩
              subst hQ
              exact W.zret (v := 1) hx hb hr (nar_z (bd_sub kb_1 (by decide) : bd 0 1 _).1 (bd_sub kb_1 (by decide) : bd 0 1 _).2) (fun t ht hW => ⟨⟨_, _, rfl, ⟨⟨Q49, w49_3_0_a0_, w49_3_4_a0_, hQ49, hU49, (fx_at g (i := 3) rfl).2.2.2, (fx_at g (i := 2) rfl).2.2.2, (bd_sub b_33 (by decide)), bw49_3_4_a0_, hw49⟩, (bd_sub kb_1 (by decide)), trivial⟩, q3_of g hK ht hW⟩, g.2.2.1.F ht⟩) g.2.2.1.2.2 dX3_leaveOut_176
          · have fc_29 := nle_f c_29
            have b_34 : bd 0 9 v49_5 := ltL fc_29 bv49_5 b_2 (by decide)
            refine lv_aload_n hx hb dX3_leaveOut_58 rfl (lv_at hl 4 rfl) ?_
            refine g_getr (K := 122) (C := RX3) (T := TX3) (N := 6) hx hb hts (mc_ inX3) hown hK g mx1_ kx1_ (by decide) rfl 1 (by decide) rfl (hts _ (List.mem_cons_of_mem _ t_804)) (fun _ h9 => h9) rfl dX3_leaveOut_59 (fun a_35 ma_35 ka_35 g => ?_)
            refine lv_iload hx hb dX3_leaveOut_62 (lv_at hl 0 rfl) ?_
            refine g_iald hx hb hK g ma_35 ka_35 (by decide) rfl (in_bd b_34 (by decide)) dX3_leaveOut_64 (fun x_36 bx_36 cx_36 => ?_)
            refine lv_istore (lv' := [(6, .int x_36), (5, .int v49_5), (4, .int 3), (3, .int 0), (0, .ref a0_), (1, .ref x1_), (2, .int x2_)]) hx hb dX3_leaveOut_65 hl (by decide) rfl (fun ls hl => ?_)
            refine lv_iload hx hb dX3_leaveOut_67 (lv_at hl 1 rfl) ?_
            refine lv_iload_n hx hb dX3_leaveOut_69 rfl (lv_at hl 6 rfl) ?_
            refine lv_icmp_eq (tgt := 158) hx hb dX3_leaveOut_70 (by decide) (fun c_37 => ?_) (fun c_37 => ?_)
            · have fc_37 := eq_f c_37
              have kb_1 : bd 1 1 (1 : Int32) := ⟨by decide, by decide⟩
              obtain ⟨y_38, ey_38⟩ : ∃ z : Int32, z = v49_5 + 1 := ⟨_, rfl⟩
              refine lv_iinc (v := y_38) (lv' := [(5, .int y_38), (6, .int x_36), (4, .int 3), (3, .int 0), (0, .ref a0_), (1, .ref x1_), (2, .int x2_)]) hx hb dX3_leaveOut_158 hl (k := 1) rfl (by rw [ey_38]; rfl) (by decide) rfl (fun ls hl => ?_)
              have ty_38 := add_bd ey_38 b_34 kb_1 (by decide)
              have b_39 : bd 1 10 y_38 := add_rg ty_38 b_34 kb_1 (by decide)
              refine lv_goto (tgt := 49) hx hb dX3_leaveOut_161 (by decide) ?_
              have hl9 := lv_sub hl [0, 2, 3, 4, 5, 6] (by rfl : lv_pick [(5, .int y_38), (6, .int x_36), (4, .int 3), (3, .int 0), (0, .ref a0_), (1, .ref x1_), (2, .int x2_)] [0, 2, 3, 4, 5, 6] = [(5, .int y_38), (4, .int 3), (3, .int 0), (0, .ref a0_), (1, .ref x1_), (2, .int x2_)])
              have g9 := g.sub (fx' := [(3, 4, x1_, .int k9_), (3, 0, x1_, .int n9_), (3, 4, a0_, .int w49_3_4_a0_), (3, 0, a0_, .int w49_3_0_a0_), (3, 2, a0_, .ref m_), (3, 3, a0_, .ref p_), (3, 2, x1_, .ref m9_), (3, 3, x1_, .ref p9_)]) [1, 2, 3, 4, 5, 6, 7, 8] rfl
              exact ih49  y_38 w49_3_4_a0_ w49_3_0_a0_ (bd_sub b_39 (by decide)) bw49_3_4_a0_ bw49_3_0_a0_ (by have h9_0 := b_39; unfold bd at h9_0; have h9_1 := bv49_5; unfold bd at h9_1; have h9_2 := bw49_3_0_a0_; unfold bd at h9_2; have h9_3 := bw49_3_4_a0_; unfold bd at h9_3; have h9_4 := kb_1; unfold bd at h9_4; have h9_5 := kb_m1; unfold bd at h9_5; omega) _ _ _ _ g9 ⟨_, hQ49, hJ49, hU49, hQ949, hJ949, hw49⟩ hl9
            · have fc_37 := neq_f c_37
              refine lv_iload hx hb dX3_leaveOut_73 (lv_at hl 0 rfl) ?_
              refine lv_iload hx hb dX3_leaveOut_75 (lv_at hl 2 rfl) ?_
              have kb_3 : bd 3 3 (3 : Int32) := ⟨by decide, by decide⟩
              refine lv_icmp_ne (tgt := 83) hx hb dX3_leaveOut_77 (by decide) (fun c_40 => ?_) (fun c_40 => ?_)
              · have fc_40 := neq_f c_40
                refine lv_aload_n hx hb dX3_leaveOut_83 rfl (lv_at hl 5 rfl) ?_
                refine g_getk (C := RX3) (T := TX3) (N := 6) hx hb hts (mc_ inX3) hown hK g rfl 2 (by decide) rfl (hts _ (List.mem_cons_of_mem _ t_807)) (fun _ h9 => h9) 7 rfl dX3_leaveOut_84 ?_
                refine lv_iload hx hb dX3_leaveOut_87 (lv_at hl 1 rfl) ?_
                refine g_iald hx hb hK g mm9_ km9_ (by decide) rfl (in_bd b_34 (by decide)) dX3_leaveOut_89 (fun x_41 bx_41 cx_41 => ?_)
                have vx_41 : x_41 = Q9_.1 v49_5.toNatClampNeg := cx_41.trans (hQ949.2.2.2.2.1 _)
                refine lv_iconst (v := (-1)) hx hb dX3_leaveOut_90 (by decide) ?_
                refine lv_icmp_ne (tgt := 110) hx hb dX3_leaveOut_91 (by decide) (fun c_42 => ?_) (fun c_42 => ?_)
                · have fc_42 := neq_f c_42
                  have b_43 : bd 0 11 x_41 := neX fc_42 bx_41 kb_m1 (by decide)
                  refine lv_aload_n hx hb dX3_leaveOut_110 rfl (lv_at hl 5 rfl) ?_
                  refine g_getk (C := RX3) (T := TX3) (N := 6) hx hb hts (mc_ inX3) hown hK g rfl 3 (by decide) rfl (hts _ (List.mem_cons_of_mem _ t_810)) (fun _ h9 => h9) 8 rfl dX3_leaveOut_111 ?_
                  refine lv_iload hx hb dX3_leaveOut_114 (lv_at hl 1 rfl) ?_
                  refine g_aaldX hx hb hK g mp9_ kp9_ (by decide) rfl (by decide) (in_bd b_34 (by decide)) dX3_leaveOut_116 (fun a_44 ea_44 ma_44 ua_44 wa_44 => ?_)
                  have ka_44 : kd a_44 = 103 := by omega
                  have lta_44 : v49_5.toNatClampNeg < 10 := in_toNat (in_bd b_34 (by decide))
                  have qa_44 : a_44 = A9_ v49_5.toNatClampNeg := ea_44.trans (hJ949 _ lta_44)
                  refine lv_astore (lv' := [(7, .ref a_44), (6, .int x_36), (5, .int v49_5), (4, .int 3), (3, .int 0), (0, .ref a0_), (1, .ref x1_), (2, .int x2_)]) hx hb dX3_leaveOut_117 hl (by decide) rfl (fun ls hl => ?_)
                  refine lv_aload_n hx hb dX3_leaveOut_119 rfl (lv_at hl 5 rfl) ?_
                  refine lv_iload hx hb dX3_leaveOut_120 (lv_at hl 1 rfl) ?_
                  refine lv_iload hx hb dX3_leaveOut_122 (lv_at hl 3 rfl) ?_
                  refine lv_icmp_le (tgt := 134) hx hb dX3_leaveOut_124 (by decide) (fun c_45 => ?_) (fun c_45 => ?_)
                  · have fc_45 := le_f c_45
                    refine lv_iload hx hb dX3_leaveOut_134 (lv_at hl 1 rfl) ?_
                    refine lv_aload_n hx hb dX3_leaveOut_136 rfl (lv_at hl 6 rfl) ?_
                    refine g_getk (C := RX3) (T := TX3) (N := 6) hx hb hts (mc_ inX3) hown hK g rfl 2 (by decide) rfl (hts _ (List.mem_cons_of_mem _ t_807)) (fun _ h9 => h9) 7 rfl dX3_leaveOut_137 ?_
                    refine lv_iload hx hb dX3_leaveOut_140 (lv_at hl 2 rfl) ?_
                    refine g_iald hx hb hK g mm9_ km9_ (by decide) rfl (in_bd b_34 (by decide)) dX3_leaveOut_142 (fun x_46 bx_46 cx_46 => ?_)
                    obtain rfl : x_41 = x_46 := el_same cx_41 cx_46 rfl
                    refine lv_aload hx hb dX3_leaveOut_143 (lv_at hl 0 rfl) ?_
                    refine lv_iconst (v := 0) hx hb dX3_leaveOut_145 (by decide) ?_
                    refine g_iald hx hb hK g ma_44 ka_44 (by decide) rfl (by unfold vp_in; decide) dX3_leaveOut_146 (fun x_47 bx_47 cx_47 => ?_)
                    have vx_47 : x_47 = Q9_.2 v49_5.toNatClampNeg := cx_47.trans (by rw [qa_44]; exact hQ949.2.2.2.2.2 _ lta_44)
                    refine lv_aload hx hb dX3_leaveOut_147 (lv_at hl 0 rfl) ?_
                    refine lv_iconst (v := 1) hx hb dX3_leaveOut_149 (by decide) ?_
                    refine g_iald hx hb hK g ma_44 ka_44 (by decide) rfl (by unfold vp_in; decide) dX3_leaveOut_150 (fun x_48 bx_48 cx_48 => ?_)
                    refine lv_aload hx hb dX3_leaveOut_151 (lv_at hl 0 rfl) ?_
                    refine lv_iconst (v := 2) hx hb dX3_leaveOut_153 (by decide) ?_
                    refine g_iald hx hb hK g ma_44 ka_44 (by decide) rfl (by unfold vp_in; decide) dX3_leaveOut_154 (fun x_49 bx_49 cx_49 => ?_)
                    have ho_50 := (fx_at g (i := 2) rfl).2.2.2
                    have ho_51 := (fx_at g (i := 1) rfl).2.2.2
                    have go_ := g
                    refine g_callv (va_runV (As := [.int x_36, .int x_41, .int x_47, .int x_48, .int x_49]) (rest := []) ⟨hx, hb, hml, hown, hts⟩ (r_X3_addCallQ l dC dI L kd tys f H.size g.2.2.2.1 a0_ ma0_ ka0_ p_ mp_ kp_ m_ mm_ km_ A_ Q49 w49_3_0_a0_ bw49_3_0_a0_ w49_3_4_a0_ bw49_3_4_a0_ hJ49 hQ49 hw49 x_36 bx_36 x_41 b_43 x_47 x_48 x_49 (g.fcts [4, 3, 5, 6] rfl)) (cwV 5 hts (gV_ t_1723 t_1515 t_1516 t_196 t_1517) rfl rfl rfl (by decide +kernel) ⟨(Nat.le_of_ble_eq_true rfl), (Nat.le_of_ble_eq_true rfl)⟩) (pre3V g hK ma0_ ka0_ (by decide) (q := (RX3, TX3, 6)) rfl) rfl rfl hl.1 rfl (lv_room (Nat.le_of_ble_eq_true rfl)) dX3_leaveOut_155 ⟨(Nat.le_of_ble_eq_true rfl), (Nat.le_of_ble_eq_true rfl)⟩) g hK (by decide) (by decide) (fx' := [(3, 1, x1_, .ref a_35), (3, 4, x1_, .int k9_), (3, 4, a0_, .int w49_3_4_a0_), (3, 2, a0_, .ref m_), (3, 3, a0_, .ref p_), (3, 2, x1_, .ref m9_), (3, 3, x1_, .ref p9_)]) rfl (fun fr_52 H locs hp hMr_52 g => ?_)
                    obtain ⟨hx_53, -⟩ := hp
                    have hG_54 := arP.frame hMr_52 go_.2.2.2.1 mp_ kp_ (by decide) (by decide) hJ49
                    have hG_55 := arP.frame hMr_52 go_.2.2.2.1 mp9_ kp9_ (by decide) (by decide) hJ949
                    obtain ⟨Q_56, n_57, k_58, hQ_59, hU_60, h0_61, h4_62, b0_63, b4_64, hP_65⟩ := hx_53
                    have hU_66 := QR.tr hU49 hU_60
                    have g := G3.add g ma0_ ka0_ (by decide) h0_61
                    obtain rfl : w49_3_4_a0_ = k_58 := by have h9 := (fx_at g (i := 3) rfl).2.2.2.symm.trans h4_62; cases h9; rfl
                    have hQ_67 := QR.oth hU_60 hQ949 hap.2.1 hap.2.2
                    have g := G3.add g mx1_ kx1_ (by decide) (((hU_60 x1_ mx1_).1 kx1_ (fun z => hap.1 z.symm) 0).trans ho_50)
                    have kb_1 : bd 1 1 (1 : Int32) := ⟨by decide, by decide⟩
                    obtain ⟨y_69, ey_69⟩ : ∃ z : Int32, z = v49_5 + 1 := ⟨_, rfl⟩
                    refine lv_iinc (v := y_69) (lv' := [(5, .int y_69), (7, .ref a_44), (6, .int x_36), (4, .int 3), (3, .int 0), (0, .ref a0_), (1, .ref x1_), (2, .int x2_)]) hx hb dX3_leaveOut_158 hl (k := 2) rfl (by rw [ey_69]; rfl) (by decide) rfl (fun ls hl => ?_)
                    have ty_69 := add_bd ey_69 b_34 kb_1 (by decide)
                    have b_70 : bd 1 10 y_69 := add_rg ty_69 b_34 kb_1 (by decide)
                    refine lv_goto (tgt := 49) hx hb dX3_leaveOut_161 (by decide) ?_
                    have hl9 := lv_sub hl [0, 3, 4, 5, 6, 7] (by rfl : lv_pick [(5, .int y_69), (7, .ref a_44), (6, .int x_36), (4, .int 3), (3, .int 0), (0, .ref a0_), (1, .ref x1_), (2, .int x2_)] [0, 3, 4, 5, 6, 7] = [(5, .int y_69), (4, .int 3), (3, .int 0), (0, .ref a0_), (1, .ref x1_), (2, .int x2_)])
                    have g9 := g.sub (fx' := [(3, 4, x1_, .int k9_), (3, 0, x1_, .int n9_), (3, 4, a0_, .int w49_3_4_a0_), (3, 0, a0_, .int n_57), (3, 2, a0_, .ref m_), (3, 3, a0_, .ref p_), (3, 2, x1_, .ref m9_), (3, 3, x1_, .ref p9_)]) [3, 0, 4, 1, 5, 6, 7, 8] rfl
                    exact ih49  y_69 w49_3_4_a0_ n_57 (bd_sub b_70 (by decide)) bw49_3_4_a0_ b0_63 (by have h9_0 := b0_63; unfold bd at h9_0; have h9_1 := b_70; unfold bd at h9_1; have h9_2 := bv49_5; unfold bd at h9_2; have h9_3 := bw49_3_0_a0_; unfold bd at h9_3; have h9_4 := bw49_3_4_a0_; unfold bd at h9_4; have h9_5 := kb_1; unfold bd at h9_5; have h9_6 := kb_3; unfold bd at h9_6; have h9_7 := kb_m1; unfold bd at h9_7; omega) _ _ _ _ g9 ⟨_, hQ_59, hG_54, hU_66, hQ_67, hG_55, hP_65.1⟩ hl9
                  · have fc_45 := nle_f c_45
                    have b_71 : bd 3 1 (3 : Int32) := ltL fc_45 kb_3 bx_36 (by decide)
                    exact bd_no (eqX rfl b_71 kb_3 (lo := 3) (hi := 1) (by decide)) (by decide)
                · have fc_42 := eq_f c_42
                  have b_72 : bd (-1) (-1) x_41 := eqX fc_42 bx_41 kb_m1 (by decide)
                  refine lv_aload_n hx hb dX3_leaveOut_94 rfl (lv_at hl 4 rfl) ?_
                  refine lv_aload_n hx hb dX3_leaveOut_95 rfl (lv_at hl 5 rfl) ?_
                  refine g_getk (C := RX3) (T := TX3) (N := 6) hx hb hts (mc_ inX3) hown hK g rfl 3 (by decide) rfl (hts _ (List.mem_cons_of_mem _ t_810)) (fun _ h9 => h9) 8 rfl dX3_leaveOut_96 ?_
                  refine lv_iload hx hb dX3_leaveOut_99 (lv_at hl 1 rfl) ?_
                  refine g_aaldX hx hb hK g mp9_ kp9_ (by decide) rfl (by decide) (in_bd b_34 (by decide)) dX3_leaveOut_101 (fun a_73 ea_73 ma_73 ua_73 wa_73 => ?_)
                  have ka_73 : kd a_73 = 103 := by omega
                  have lta_73 : v49_5.toNatClampNeg < 10 := in_toNat (in_bd b_34 (by decide))
                  have qa_73 : a_73 = A9_ v49_5.toNatClampNeg := ea_73.trans (hJ949 _ lta_73)
                  refine lv_iconst (v := 0) hx hb dX3_leaveOut_102 (by decide) ?_
                  refine g_iald hx hb hK g ma_73 ka_73 (by decide) rfl (by unfold vp_in; decide) dX3_leaveOut_103 (fun x_74 bx_74 cx_74 => ?_)
                  have vx_74 : x_74 = Q9_.2 v49_5.toNatClampNeg := cx_74.trans (by rw [qa_73]; exact hQ949.2.2.2.2.2 _ lta_73)
                  have b_75 : bd 0 7 x_74 := (by rw [vx_74]; exact hw9.2 _ (by have h9 := tnZ b_34.1; have h9_0 := bk9_; unfold bd at h9_0; have h9_1 := bk_; unfold bd at h9_1; have h9_2 := b4_19; unfold bd at h9_2; have h9_3 := b_2; unfold bd at h9_3; have h9_4 := bn_; unfold bd at h9_4; have h9_5 := b0_18; unfold bd at h9_5; have h9_6 := b_34; unfold bd at h9_6; have h9_7 := bw49_3_0_a0_; unfold bd at h9_7; have h9_8 := bw49_3_4_a0_; unfold bd at h9_8; have h9_9 := bx2_; unfold bd at h9_9; have h9_10 := b_27; unfold bd at h9_10; have h9_11 := bx_36; unfold bd at h9_11; have h9_12 := b_72; unfold bd at h9_12; have h8_0 := kb_3; unfold bd at h8_0; have h8_1 := kb_m1; unfold bd at h8_1; omega) (by have h8 := congrArg Int32.toInt vx_41; have h9_0 := bk9_; unfold bd at h9_0; have h9_1 := bk_; unfold bd at h9_1; have h9_2 := b4_19; unfold bd at h9_2; have h9_3 := b_2; unfold bd at h9_3; have h9_4 := bn_; unfold bd at h9_4; have h9_5 := b0_18; unfold bd at h9_5; have h9_6 := b_34; unfold bd at h9_6; have h9_7 := bw49_3_0_a0_; unfold bd at h9_7; have h9_8 := bw49_3_4_a0_; unfold bd at h9_8; have h9_9 := bx2_; unfold bd at h9_9; have h9_10 := b_27; unfold bd at h9_10; have h9_11 := bx_36; unfold bd at h9_11; have h9_12 := b_72; unfold bd at h9_12; have h8_0 := kb_3; unfold bd at h8_0; have h8_1 := kb_m1; unfold bd at h8_1; omega))
                  have ho_76 := (fx_at g (i := 2) rfl).2.2.2
                  have ho_77 := (fx_at g (i := 1) rfl).2.2.2
                  have go_ := g
                  refine g_callv (va_runV (As := [.int x_74]) (rest := []) ⟨hx, hb, hml, hown, hts⟩ (r_X3_addMakeQ l dC dI L kd tys f H.size g.2.2.2.1 a0_ ma0_ ka0_ p_ mp_ kp_ m_ mm_ km_ A_ Q49 w49_3_0_a0_ bw49_3_0_a0_ w49_3_4_a0_ bw49_3_4_a0_ hJ49 hQ49 hw49 x_74 b_75 (g.fcts [4, 3, 5, 6] rfl)) (cwV 1 hts (gV_ t_1729 t_1482 t_1483 t_196 t_1484) rfl rfl rfl (by decide +kernel) ⟨(Nat.le_of_ble_eq_true rfl), (Nat.le_of_ble_eq_true rfl)⟩) (pre3V g hK ma0_ ka0_ (by decide) (q := (RX3, TX3, 6)) rfl) rfl rfl hl.1 rfl (lv_room (Nat.le_of_ble_eq_true rfl)) dX3_leaveOut_104 ⟨(Nat.le_of_ble_eq_true rfl), (Nat.le_of_ble_eq_true rfl)⟩) g hK (by decide) (by decide) (fx' := [(3, 1, x1_, .ref a_35), (3, 2, a0_, .ref m_), (3, 3, a0_, .ref p_), (3, 2, x1_, .ref m9_), (3, 3, x1_, .ref p9_)]) rfl (fun fr_78 H locs hp hMr_78 g => ?_)
                  obtain ⟨hx_79, -⟩ := hp
                  have hG_80 := arP.frame hMr_78 go_.2.2.2.1 mp_ kp_ (by decide) (by decide) hJ49
                  have hG_81 := arP.frame hMr_78 go_.2.2.2.1 mp9_ kp9_ (by decide) (by decide) hJ949
                  obtain ⟨Q_82, n_83, k_84, hQ_85, hU_86, h0_87, h4_88, b0_89, b4_90, hP_91⟩ := hx_79
                  have hU_92 := QR.tr hU49 hU_86
                  have g := G3.add g ma0_ ka0_ (by decide) h0_87
                  have g := G3.add g ma0_ ka0_ (by decide) h4_88
                  have hQ_93 := QR.oth hU_86 hQ949 hap.2.1 hap.2.2
                  have g := G3.add g mx1_ kx1_ (by decide) (((hU_86 x1_ mx1_).1 kx1_ (fun z => hap.1 z.symm) 0).trans ho_76)
                  have g := G3.add g mx1_ kx1_ (by decide) (((hU_86 x1_ mx1_).1 kx1_ (fun z => hap.1 z.symm) 4).trans ho_77)
                  refine lv_goto (tgt := 158) hx hb dX3_leaveOut_107 (by decide) ?_
                  have kb_1 : bd 1 1 (1 : Int32) := ⟨by decide, by decide⟩
                  obtain ⟨y_96, ey_96⟩ : ∃ z : Int32, z = v49_5 + 1 := ⟨_, rfl⟩
                  refine lv_iinc (v := y_96) (lv' := [(5, .int y_96), (6, .int x_36), (4, .int 3), (3, .int 0), (0, .ref a0_), (1, .ref x1_), (2, .int x2_)]) hx hb dX3_leaveOut_158 hl (k := 1) rfl (by rw [ey_96]; rfl) (by decide) rfl (fun ls hl => ?_)
                  have ty_96 := add_bd ey_96 b_34 kb_1 (by decide)
                  have b_97 : bd 1 10 y_96 := add_rg ty_96 b_34 kb_1 (by decide)
                  refine lv_goto (tgt := 49) hx hb dX3_leaveOut_161 (by decide) ?_
                  have hl9 := lv_sub hl [0, 2, 3, 4, 5, 6] (by rfl : lv_pick [(5, .int y_96), (6, .int x_36), (4, .int 3), (3, .int 0), (0, .ref a0_), (1, .ref x1_), (2, .int x2_)] [0, 2, 3, 4, 5, 6] = [(5, .int y_96), (4, .int 3), (3, .int 0), (0, .ref a0_), (1, .ref x1_), (2, .int x2_)])
                  have g9 := g.sub (fx' := [(3, 4, x1_, .int k9_), (3, 0, x1_, .int n9_), (3, 4, a0_, .int k_84), (3, 0, a0_, .int n_83), (3, 2, a0_, .ref m_), (3, 3, a0_, .ref p_), (3, 2, x1_, .ref m9_), (3, 3, x1_, .ref p9_)]) [0, 1, 2, 3, 5, 6, 7, 8] rfl
                  exact ih49  y_96 k_84 n_83 (bd_sub b_97 (by decide)) b4_90 b0_89 (by have h9_0 := b0_89; unfold bd at h9_0; have h9_1 := b4_90; unfold bd at h9_1; have h9_2 := b_97; unfold bd at h9_2; have h9_3 := bv49_5; unfold bd at h9_3; have h9_4 := bw49_3_0_a0_; unfold bd at h9_4; have h9_5 := bw49_3_4_a0_; unfold bd at h9_5; have h9_6 := kb_1; unfold bd at h9_6; have h9_7 := kb_3; unfold bd at h9_7; have h9_8 := kb_m1; unfold bd at h9_8; omega) _ _ _ _ g9 ⟨_, hQ_85, hG_80, hU_92, hQ_93, hG_81, hP_91.1⟩ hl9
              · have fc_40 := eq_f c_40
                have b_98 : bd 3 2 x_36 := eqX fc_40 bx_36 kb_3 (by decide)
                exact bd_no b_98 (by decide)
      have kb_0 : bd 0 0 (0 : Int32) := ⟨by decide, by decide⟩
      have hl9 := lv_sub hl [0, 1, 2, 3, 4, 5] (by rfl : lv_pick [(5, .int 0), (4, .int 3), (3, .int 0), (0, .ref a0_), (1, .ref x1_), (2, .int x2_)] [0, 1, 2, 3, 4, 5] = [(5, .int 0), (4, .int 3), (3, .int 0), (0, .ref a0_), (1, .ref x1_), (2, .int x2_)])
      have g9 := g.sub (fx' := [(3, 4, x1_, .int k9_), (3, 0, x1_, .int n9_), (3, 4, a0_, .int k_13), (3, 0, a0_, .int n_12), (3, 2, a0_, .ref m_), (3, 3, a0_, .ref p_), (3, 2, x1_, .ref m9_), (3, 3, x1_, .ref p9_)]) [0, 1, 2, 3, 4, 5, 6, 7] rfl
      exact loop_28 (23) 0 k_13 n_12 (bd_sub kb_0 (by decide)) b4_19 b0_18 (by have h9_0 := b0_18; unfold bd at h9_0; have h9_1 := b4_19; unfold bd at h9_1; have h9_2 := kb_0; unfold bd at h9_2; have h9_3 := kb_m1; unfold bd at h9_3; omega) _ _ _ _ g9 ⟨_, hQ_14, hG_8, hU_21, hQ_22, hG_10, hP_20.1⟩ hl9
    · have fc_26 := eq_f c_26
      have b_99 : bd (-1) (-1) x_25 := eqX fc_26 bx_25 kb_m1 (by decide)
      refine lv_iconst (v := 1) hx hb dX3_leaveOut_24 (by decide) ?_
      refine lv_goto (tgt := 29) hx hb dX3_leaveOut_25 (by decide) ?_
      refine lv_istore_n (lv' := [(3, .int 1), (0, .ref a0_), (1, .ref x1_), (2, .int x2_)]) hx hb dX3_leaveOut_29 rfl hl (by decide) rfl (fun ls hl => ?_)
      refine lv_iload_n hx hb dX3_leaveOut_30 rfl (lv_at hl 0 rfl) ?_
      refine lv_if_eq (tgt := 43) hx hb dX3_leaveOut_31 (by decide) (fun c_ => absurd c_ (by decide)) (fun c_ => ?_)
      refine lv_aload_n hx hb dX3_leaveOut_34 rfl (lv_at hl 2 rfl) ?_
      refine g_getr (K := 122) (C := RX3) (T := TX3) (N := 6) hx hb hts (mc_ inX3) hown hK g mx1_ kx1_ (by decide) rfl 1 (by decide) rfl (hts _ (List.mem_cons_of_mem _ t_804)) (fun _ h9 => h9) rfl dX3_leaveOut_35 (fun a_100 ma_100 ka_100 g => ?_)
      refine lv_iload_n hx hb dX3_leaveOut_38 rfl (lv_at hl 3 rfl) ?_
      refine g_iald hx hb hK g ma_100 ka_100 (by decide) rfl (in_bd bx2_ (by decide)) dX3_leaveOut_39 (fun x_101 bx_101 cx_101 => ?_)
      refine lv_goto (tgt := 44) hx hb dX3_leaveOut_40 (by decide) ?_
      refine lv_istore (lv' := [(4, .int x_101), (3, .int 1), (0, .ref a0_), (1, .ref x1_), (2, .int x2_)]) hx hb dX3_leaveOut_44 hl (by decide) rfl (fun ls hl => ?_)
      refine lv_iconst (v := 0) hx hb dX3_leaveOut_46 (by decide) ?_
      refine lv_istore (lv' := [(5, .int 0), (4, .int x_101), (3, .int 1), (0, .ref a0_), (1, .ref x1_), (2, .int x2_)]) hx hb dX3_leaveOut_47 hl (by decide) rfl (fun ls hl => ?_)
      have loop_102 : ∀ (n : Nat) (v49_5 : Int32) (w49_3_4_a0_ : Int32) (w49_3_0_a0_ : Int32), bd 0 10 v49_5 → bd 0 3 w49_3_4_a0_ → bd 0 10 w49_3_0_a0_ → (10 - v49_5.toInt < (n : Int)) → ∀ (f : Nat → va_E) (H : Heap) (locs : List Loc) (ls : Array Slot), G3 (dC, dI) L kd tys s f0 [(3, 0), (3, 4)] [103, 122, 123, 125] f H locs [(3, 1, x1_, .ref a_100), (3, 4, x1_, .int k9_), (3, 0, x1_, .int n9_), (3, 4, a0_, .int w49_3_4_a0_), (3, 0, a0_, .int w49_3_0_a0_), (3, 2, a0_, .ref m_), (3, 3, a0_, .ref p_), (3, 2, x1_, .ref m9_), (3, 3, x1_, .ref p9_)] → (∃ Q1 : RQ, isQ L kd f m_ A_ Q1 ∧ arP f p_ A_ ∧ QR L kd f0 f a0_ m_ A_ ∧ isQ L kd f m9_ A9_ Q9_ ∧ arP f p9_ A9_ ∧ wQ Q1 w49_3_0_a0_ w49_3_4_a0_) → lv_has ls 8 [(5, .int v49_5), (4, .int x_101), (3, .int 1), (0, .ref a0_), (1, .ref x1_), (2, .int x2_)] → W p l e ({ frames := 2, cells := 0, slots := 0, locals := 51 } : Room) s m [.ref a0_, .ref x1_, .int x2_].toArray below meth c H locs 0 0 Q (F0 m 49 ls []) := by
        intro n49
        induction n49 with
        | zero =>
          intro v49_5 w49_3_4_a0_ w49_3_0_a0_ bv49_5 bw49_3_4_a0_ bw49_3_0_a0_ hm49 f H locs ls g  ⟨Q49, hQ49, hJ49, hU49, hQ949, hJ949, hw49⟩ hl
          exact absurd hm49 (by have h9_v49_5 := bv49_5; unfold bd at h9_v49_5; have h9_w49_3_4_a0_ := bw49_3_4_a0_; unfold bd at h9_w49_3_4_a0_; have h9_w49_3_0_a0_ := bw49_3_0_a0_; unfold bd at h9_w49_3_0_a0_; omega)
        | succ n49 ih49 =>
          intro v49_5 w49_3_4_a0_ w49_3_0_a0_ bv49_5 bw49_3_4_a0_ bw49_3_0_a0_ hm49 f H locs ls g  ⟨Q49, hQ49, hJ49, hU49, hQ949, hJ949, hw49⟩ hl
          refine lv_iload hx hb dX3_leaveOut_49 (lv_at hl 0 rfl) ?_
          refine lv_aload_n hx hb dX3_leaveOut_51 rfl (lv_at hl 4 rfl) ?_
          refine g_getk (C := RX3) (T := TX3) (N := 6) hx hb hts (mc_ inX3) hown hK g rfl 0 (by decide) rfl (hts _ (List.mem_cons_of_mem _ t_801)) (fun _ h9 => h9) 2 rfl dX3_leaveOut_52 ?_
          refine lv_icmp_ge (tgt := 164) hx hb dX3_leaveOut_55 (by decide) (fun c_103 => ?_) (fun c_103 => ?_)
          · have fc_103 := le_f c_103
            have b_104 : bd 1 10 v49_5 := leR fc_103 b_2 bv49_5 (by decide)
            refine lv_aload_n hx hb dX3_leaveOut_164 rfl (lv_at hl 3 rfl) ?_
            refine g_getk (C := RX3) (T := TX3) (N := 6) hx hb hts (mc_ inX3) hown hK g rfl 0 (by decide) rfl (hts _ (List.mem_cons_of_mem _ t_801)) (fun _ h9 => h9) 4 rfl dX3_leaveOut_165 ?_
            have kb_0 : bd 0 0 (0 : Int32) := ⟨by decide, by decide⟩
            refine lv_if_le (tgt := 175) hx hb dX3_leaveOut_168 (by decide) (fun c_105 => ?_) (fun c_105 => ?_)
            · have fc_105 := le_f c_105
              have b_106 : bd 0 0 w49_3_0_a0_ := leL fc_105 bw49_3_0_a0_ kb_0 (by decide)
              refine lv_iconst (v := 0) hx hb dX3_leaveOut_175 (by decide) ?_
              subst hQ
              exact W.zret (v := 0) hx hb hr (nar_z (bd_sub kb_0 (by decide) : bd 0 1 _).1 (bd_sub kb_0 (by decide) : bd 0 1 _).2) (fun t ht hW => ⟨⟨_, _, rfl, ⟨⟨Q49, w49_3_0_a0_, w49_3_4_a0_, hQ49, hU49, (fx_at g (i := 4) rfl).2.2.2, (fx_at g (i := 3) rfl).2.2.2, (bd_sub b_106 (by decide)), bw49_3_4_a0_, hw49⟩, (bd_sub kb_0 (by decide)), trivial⟩, q3_of g hK ht hW⟩, g.2.2.1.F ht⟩) g.2.2.1.2.2 dX3_leaveOut_176
            · have fc_105 := nle_f c_105
              have b_107 : bd 1 10 w49_3_0_a0_ := ltR fc_105 kb_0 bw49_3_0_a0_ (by decide)
              refine lv_iconst (v := 1) hx hb dX3_leaveOut_171 (by decide) ?_
              refine lv_goto (tgt := 176) hx hb dX3_leaveOut_172 (by decide) ?_
              have kb_1 : bd 1 1 (1 : Int32) := ⟨by decide, by decide⟩
              subst hQ
              exact W.zret (v := 1) hx hb hr (nar_z (bd_sub kb_1 (by decide) : bd 0 1 _).1 (bd_sub kb_1 (by decide) : bd 0 1 _).2) (fun t ht hW => ⟨⟨_, _, rfl, ⟨⟨Q49, w49_3_0_a0_, w49_3_4_a0_, hQ49, hU49, (fx_at g (i := 4) rfl).2.2.2, (fx_at g (i := 3) rfl).2.2.2, (bd_sub b_107 (by decide)), bw49_3_4_a0_, hw49⟩, (bd_sub kb_1 (by decide)), trivial⟩, q3_of g hK ht hW⟩, g.2.2.1.F ht⟩) g.2.2.1.2.2 dX3_leaveOut_176
          · have fc_103 := nle_f c_103
            have b_108 : bd 0 9 v49_5 := ltL fc_103 bv49_5 b_2 (by decide)
            refine lv_aload_n hx hb dX3_leaveOut_58 rfl (lv_at hl 4 rfl) ?_
            refine g_getk (C := RX3) (T := TX3) (N := 6) hx hb hts (mc_ inX3) hown hK g rfl 1 (by decide) rfl (hts _ (List.mem_cons_of_mem _ t_804)) (fun _ h9 => h9) 0 rfl dX3_leaveOut_59 ?_
            refine lv_iload hx hb dX3_leaveOut_62 (lv_at hl 0 rfl) ?_
            refine g_iald hx hb hK g ma_100 ka_100 (by decide) rfl (in_bd b_108 (by decide)) dX3_leaveOut_64 (fun x_109 bx_109 cx_109 => ?_)
            refine lv_istore (lv' := [(6, .int x_109), (5, .int v49_5), (4, .int x_101), (3, .int 1), (0, .ref a0_), (1, .ref x1_), (2, .int x2_)]) hx hb dX3_leaveOut_65 hl (by decide) rfl (fun ls hl => ?_)
            refine lv_iload hx hb dX3_leaveOut_67 (lv_at hl 1 rfl) ?_
            refine lv_iload_n hx hb dX3_leaveOut_69 rfl (lv_at hl 6 rfl) ?_
            refine lv_icmp_eq (tgt := 158) hx hb dX3_leaveOut_70 (by decide) (fun c_110 => ?_) (fun c_110 => ?_)
            · have fc_110 := eq_f c_110
              have kb_1 : bd 1 1 (1 : Int32) := ⟨by decide, by decide⟩
              obtain ⟨y_111, ey_111⟩ : ∃ z : Int32, z = v49_5 + 1 := ⟨_, rfl⟩
              refine lv_iinc (v := y_111) (lv' := [(5, .int y_111), (6, .int x_109), (4, .int x_101), (3, .int 1), (0, .ref a0_), (1, .ref x1_), (2, .int x2_)]) hx hb dX3_leaveOut_158 hl (k := 1) rfl (by rw [ey_111]; rfl) (by decide) rfl (fun ls hl => ?_)
              have ty_111 := add_bd ey_111 b_108 kb_1 (by decide)
              have b_112 : bd 1 10 y_111 := add_rg ty_111 b_108 kb_1 (by decide)
              refine lv_goto (tgt := 49) hx hb dX3_leaveOut_161 (by decide) ?_
              have hl9 := lv_sub hl [0, 2, 3, 4, 5, 6] (by rfl : lv_pick [(5, .int y_111), (6, .int x_109), (4, .int x_101), (3, .int 1), (0, .ref a0_), (1, .ref x1_), (2, .int x2_)] [0, 2, 3, 4, 5, 6] = [(5, .int y_111), (4, .int x_101), (3, .int 1), (0, .ref a0_), (1, .ref x1_), (2, .int x2_)])
              have g9 := g.sub (fx' := [(3, 1, x1_, .ref a_100), (3, 4, x1_, .int k9_), (3, 0, x1_, .int n9_), (3, 4, a0_, .int w49_3_4_a0_), (3, 0, a0_, .int w49_3_0_a0_), (3, 2, a0_, .ref m_), (3, 3, a0_, .ref p_), (3, 2, x1_, .ref m9_), (3, 3, x1_, .ref p9_)]) [0, 1, 2, 3, 4, 5, 6, 7, 8] rfl
              exact ih49  y_111 w49_3_4_a0_ w49_3_0_a0_ (bd_sub b_112 (by decide)) bw49_3_4_a0_ bw49_3_0_a0_ (by have h9_0 := b_112; unfold bd at h9_0; have h9_1 := bv49_5; unfold bd at h9_1; have h9_2 := bw49_3_0_a0_; unfold bd at h9_2; have h9_3 := bw49_3_4_a0_; unfold bd at h9_3; have h9_4 := kb_1; unfold bd at h9_4; have h9_5 := kb_m1; unfold bd at h9_5; omega) _ _ _ _ g9 ⟨_, hQ49, hJ49, hU49, hQ949, hJ949, hw49⟩ hl9
            · have fc_110 := neq_f c_110
              refine lv_iload hx hb dX3_leaveOut_73 (lv_at hl 0 rfl) ?_
              refine lv_iload hx hb dX3_leaveOut_75 (lv_at hl 2 rfl) ?_
              refine lv_icmp_ne (tgt := 83) hx hb dX3_leaveOut_77 (by decide) (fun c_113 => ?_) (fun c_113 => ?_)
              · have fc_113 := neq_f c_113
                refine lv_aload_n hx hb dX3_leaveOut_83 rfl (lv_at hl 5 rfl) ?_
                refine g_getk (C := RX3) (T := TX3) (N := 6) hx hb hts (mc_ inX3) hown hK g rfl 2 (by decide) rfl (hts _ (List.mem_cons_of_mem _ t_807)) (fun _ h9 => h9) 7 rfl dX3_leaveOut_84 ?_
                refine lv_iload hx hb dX3_leaveOut_87 (lv_at hl 1 rfl) ?_
                refine g_iald hx hb hK g mm9_ km9_ (by decide) rfl (in_bd b_108 (by decide)) dX3_leaveOut_89 (fun x_114 bx_114 cx_114 => ?_)
                have vx_114 : x_114 = Q9_.1 v49_5.toNatClampNeg := cx_114.trans (hQ949.2.2.2.2.1 _)
                refine lv_iconst (v := (-1)) hx hb dX3_leaveOut_90 (by decide) ?_
                refine lv_icmp_ne (tgt := 110) hx hb dX3_leaveOut_91 (by decide) (fun c_115 => ?_) (fun c_115 => ?_)
                · have fc_115 := neq_f c_115
                  have b_116 : bd 0 11 x_114 := neX fc_115 bx_114 kb_m1 (by decide)
                  refine lv_aload_n hx hb dX3_leaveOut_110 rfl (lv_at hl 5 rfl) ?_
                  refine g_getk (C := RX3) (T := TX3) (N := 6) hx hb hts (mc_ inX3) hown hK g rfl 3 (by decide) rfl (hts _ (List.mem_cons_of_mem _ t_810)) (fun _ h9 => h9) 8 rfl dX3_leaveOut_111 ?_
                  refine lv_iload hx hb dX3_leaveOut_114 (lv_at hl 1 rfl) ?_
                  refine g_aaldX hx hb hK g mp9_ kp9_ (by decide) rfl (by decide) (in_bd b_108 (by decide)) dX3_leaveOut_116 (fun a_117 ea_117 ma_117 ua_117 wa_117 => ?_)
                  have ka_117 : kd a_117 = 103 := by omega
                  have lta_117 : v49_5.toNatClampNeg < 10 := in_toNat (in_bd b_108 (by decide))
                  have qa_117 : a_117 = A9_ v49_5.toNatClampNeg := ea_117.trans (hJ949 _ lta_117)
                  refine lv_astore (lv' := [(7, .ref a_117), (6, .int x_109), (5, .int v49_5), (4, .int x_101), (3, .int 1), (0, .ref a0_), (1, .ref x1_), (2, .int x2_)]) hx hb dX3_leaveOut_117 hl (by decide) rfl (fun ls hl => ?_)
                  refine lv_aload_n hx hb dX3_leaveOut_119 rfl (lv_at hl 5 rfl) ?_
                  refine lv_iload hx hb dX3_leaveOut_120 (lv_at hl 1 rfl) ?_
                  refine lv_iload hx hb dX3_leaveOut_122 (lv_at hl 3 rfl) ?_
                  refine lv_icmp_le (tgt := 134) hx hb dX3_leaveOut_124 (by decide) (fun c_118 => ?_) (fun c_118 => ?_)
                  · have fc_118 := le_f c_118
                    refine lv_iload hx hb dX3_leaveOut_134 (lv_at hl 1 rfl) ?_
                    refine lv_aload_n hx hb dX3_leaveOut_136 rfl (lv_at hl 6 rfl) ?_
                    refine g_getk (C := RX3) (T := TX3) (N := 6) hx hb hts (mc_ inX3) hown hK g rfl 2 (by decide) rfl (hts _ (List.mem_cons_of_mem _ t_807)) (fun _ h9 => h9) 7 rfl dX3_leaveOut_137 ?_
                    refine lv_iload hx hb dX3_leaveOut_140 (lv_at hl 2 rfl) ?_
                    refine g_iald hx hb hK g mm9_ km9_ (by decide) rfl (in_bd b_108 (by decide)) dX3_leaveOut_142 (fun x_119 bx_119 cx_119 => ?_)
                    obtain rfl : x_114 = x_119 := el_same cx_114 cx_119 rfl
                    refine lv_aload hx hb dX3_leaveOut_143 (lv_at hl 0 rfl) ?_
                    refine lv_iconst (v := 0) hx hb dX3_leaveOut_145 (by decide) ?_
                    refine g_iald hx hb hK g ma_117 ka_117 (by decide) rfl (by unfold vp_in; decide) dX3_leaveOut_146 (fun x_120 bx_120 cx_120 => ?_)
                    have vx_120 : x_120 = Q9_.2 v49_5.toNatClampNeg := cx_120.trans (by rw [qa_117]; exact hQ949.2.2.2.2.2 _ lta_117)
                    refine lv_aload hx hb dX3_leaveOut_147 (lv_at hl 0 rfl) ?_
                    refine lv_iconst (v := 1) hx hb dX3_leaveOut_149 (by decide) ?_
                    refine g_iald hx hb hK g ma_117 ka_117 (by decide) rfl (by unfold vp_in; decide) dX3_leaveOut_150 (fun x_121 bx_121 cx_121 => ?_)
                    refine lv_aload hx hb dX3_leaveOut_151 (lv_at hl 0 rfl) ?_
                    refine lv_iconst (v := 2) hx hb dX3_leaveOut_153 (by decide) ?_
                    refine g_iald hx hb hK g ma_117 ka_117 (by decide) rfl (by unfold vp_in; decide) dX3_leaveOut_154 (fun x_122 bx_122 cx_122 => ?_)
                    have ho_123 := (fx_at g (i := 2) rfl).2.2.2
                    have ho_124 := (fx_at g (i := 1) rfl).2.2.2
                    have go_ := g
                    refine g_callv (va_runV (As := [.int x_109, .int x_114, .int x_120, .int x_121, .int x_122]) (rest := []) ⟨hx, hb, hml, hown, hts⟩ (r_X3_addCallQ l dC dI L kd tys f H.size g.2.2.2.1 a0_ ma0_ ka0_ p_ mp_ kp_ m_ mm_ km_ A_ Q49 w49_3_0_a0_ bw49_3_0_a0_ w49_3_4_a0_ bw49_3_4_a0_ hJ49 hQ49 hw49 x_109 bx_109 x_114 b_116 x_120 x_121 x_122 (g.fcts [4, 3, 5, 6] rfl)) (cwV 5 hts (gV_ t_1723 t_1515 t_1516 t_196 t_1517) rfl rfl rfl (by decide +kernel) ⟨(Nat.le_of_ble_eq_true rfl), (Nat.le_of_ble_eq_true rfl)⟩) (pre3V g hK ma0_ ka0_ (by decide) (q := (RX3, TX3, 6)) rfl) rfl rfl hl.1 rfl (lv_room (Nat.le_of_ble_eq_true rfl)) dX3_leaveOut_155 ⟨(Nat.le_of_ble_eq_true rfl), (Nat.le_of_ble_eq_true rfl)⟩) g hK (by decide) (by decide) (fx' := [(3, 1, x1_, .ref a_100), (3, 4, x1_, .int k9_), (3, 4, a0_, .int w49_3_4_a0_), (3, 2, a0_, .ref m_), (3, 3, a0_, .ref p_), (3, 2, x1_, .ref m9_), (3, 3, x1_, .ref p9_)]) rfl (fun fr_125 H locs hp hMr_125 g => ?_)
                    obtain ⟨hx_126, -⟩ := hp
                    have hG_127 := arP.frame hMr_125 go_.2.2.2.1 mp_ kp_ (by decide) (by decide) hJ49
                    have hG_128 := arP.frame hMr_125 go_.2.2.2.1 mp9_ kp9_ (by decide) (by decide) hJ949
                    obtain ⟨Q_129, n_130, k_131, hQ_132, hU_133, h0_134, h4_135, b0_136, b4_137, hP_138⟩ := hx_126
                    have hU_139 := QR.tr hU49 hU_133
                    have g := G3.add g ma0_ ka0_ (by decide) h0_134
                    obtain rfl : w49_3_4_a0_ = k_131 := by have h9 := (fx_at g (i := 3) rfl).2.2.2.symm.trans h4_135; cases h9; rfl
                    have hQ_140 := QR.oth hU_133 hQ949 hap.2.1 hap.2.2
                    have g := G3.add g mx1_ kx1_ (by decide) (((hU_133 x1_ mx1_).1 kx1_ (fun z => hap.1 z.symm) 0).trans ho_123)
                    have kb_1 : bd 1 1 (1 : Int32) := ⟨by decide, by decide⟩
                    obtain ⟨y_142, ey_142⟩ : ∃ z : Int32, z = v49_5 + 1 := ⟨_, rfl⟩
                    refine lv_iinc (v := y_142) (lv' := [(5, .int y_142), (7, .ref a_117), (6, .int x_109), (4, .int x_101), (3, .int 1), (0, .ref a0_), (1, .ref x1_), (2, .int x2_)]) hx hb dX3_leaveOut_158 hl (k := 2) rfl (by rw [ey_142]; rfl) (by decide) rfl (fun ls hl => ?_)
                    have ty_142 := add_bd ey_142 b_108 kb_1 (by decide)
                    have b_143 : bd 1 10 y_142 := add_rg ty_142 b_108 kb_1 (by decide)
                    refine lv_goto (tgt := 49) hx hb dX3_leaveOut_161 (by decide) ?_
                    have hl9 := lv_sub hl [0, 3, 4, 5, 6, 7] (by rfl : lv_pick [(5, .int y_142), (7, .ref a_117), (6, .int x_109), (4, .int x_101), (3, .int 1), (0, .ref a0_), (1, .ref x1_), (2, .int x2_)] [0, 3, 4, 5, 6, 7] = [(5, .int y_142), (4, .int x_101), (3, .int 1), (0, .ref a0_), (1, .ref x1_), (2, .int x2_)])
                    have g9 := g.sub (fx' := [(3, 1, x1_, .ref a_100), (3, 4, x1_, .int k9_), (3, 0, x1_, .int n9_), (3, 4, a0_, .int w49_3_4_a0_), (3, 0, a0_, .int n_130), (3, 2, a0_, .ref m_), (3, 3, a0_, .ref p_), (3, 2, x1_, .ref m9_), (3, 3, x1_, .ref p9_)]) [2, 3, 0, 4, 1, 5, 6, 7, 8] rfl
                    exact ih49  y_142 w49_3_4_a0_ n_130 (bd_sub b_143 (by decide)) bw49_3_4_a0_ b0_136 (by have h9_0 := b0_136; unfold bd at h9_0; have h9_1 := b_143; unfold bd at h9_1; have h9_2 := bv49_5; unfold bd at h9_2; have h9_3 := bw49_3_0_a0_; unfold bd at h9_3; have h9_4 := bw49_3_4_a0_; unfold bd at h9_4; have h9_5 := kb_1; unfold bd at h9_5; have h9_6 := kb_m1; unfold bd at h9_6; omega) _ _ _ _ g9 ⟨_, hQ_132, hG_127, hU_139, hQ_140, hG_128, hP_138.1⟩ hl9
                  · have fc_118 := nle_f c_118
                    have b_144 : bd 0 1 x_101 := ltL fc_118 bx_101 bx_109 (by decide)
                    have b_145 : bd 1 2 x_109 := ltR fc_118 bx_101 bx_109 (by decide)
                    refine lv_iload hx hb dX3_leaveOut_127 (lv_at hl 1 rfl) ?_
                    refine lv_iconst (v := 1) hx hb dX3_leaveOut_129 (by decide) ?_
                    have kb_1 : bd 1 1 (1 : Int32) := ⟨by decide, by decide⟩
                    refine lv_isub hx hb dX3_leaveOut_130 ?_
                    refine lv_topi (fun y_146 ey_146 => ?_)
                    have ty_146 := sub_bd ey_146 b_145 kb_1 (by decide)
                    have b_147 : bd 0 1 y_146 := sub_rg ty_146 b_145 kb_1 (by decide)
                    refine lv_goto (tgt := 136) hx hb dX3_leaveOut_131 (by decide) ?_
                    refine lv_aload_n hx hb dX3_leaveOut_136 rfl (lv_at hl 6 rfl) ?_
                    refine g_getk (C := RX3) (T := TX3) (N := 6) hx hb hts (mc_ inX3) hown hK g rfl 2 (by decide) rfl (hts _ (List.mem_cons_of_mem _ t_807)) (fun _ h9 => h9) 7 rfl dX3_leaveOut_137 ?_
                    refine lv_iload hx hb dX3_leaveOut_140 (lv_at hl 2 rfl) ?_
                    refine g_iald hx hb hK g mm9_ km9_ (by decide) rfl (in_bd b_108 (by decide)) dX3_leaveOut_142 (fun x_148 bx_148 cx_148 => ?_)
                    obtain rfl : x_114 = x_148 := el_same cx_114 cx_148 rfl
                    refine lv_aload hx hb dX3_leaveOut_143 (lv_at hl 0 rfl) ?_
                    refine lv_iconst (v := 0) hx hb dX3_leaveOut_145 (by decide) ?_
                    refine g_iald hx hb hK g ma_117 ka_117 (by decide) rfl (by unfold vp_in; decide) dX3_leaveOut_146 (fun x_149 bx_149 cx_149 => ?_)
                    have vx_149 : x_149 = Q9_.2 v49_5.toNatClampNeg := cx_149.trans (by rw [qa_117]; exact hQ949.2.2.2.2.2 _ lta_117)
                    refine lv_aload hx hb dX3_leaveOut_147 (lv_at hl 0 rfl) ?_
                    refine lv_iconst (v := 1) hx hb dX3_leaveOut_149 (by decide) ?_
                    refine g_iald hx hb hK g ma_117 ka_117 (by decide) rfl (by unfold vp_in; decide) dX3_leaveOut_150 (fun x_150 bx_150 cx_150 => ?_)
                    refine lv_aload hx hb dX3_leaveOut_151 (lv_at hl 0 rfl) ?_
                    refine lv_iconst (v := 2) hx hb dX3_leaveOut_153 (by decide) ?_
                    refine g_iald hx hb hK g ma_117 ka_117 (by decide) rfl (by unfold vp_in; decide) dX3_leaveOut_154 (fun x_151 bx_151 cx_151 => ?_)
                    have ho_152 := (fx_at g (i := 2) rfl).2.2.2
                    have ho_153 := (fx_at g (i := 1) rfl).2.2.2
                    have go_ := g
                    refine g_callv (va_runV (As := [.int y_146, .int x_114, .int x_149, .int x_150, .int x_151]) (rest := []) ⟨hx, hb, hml, hown, hts⟩ (r_X3_addCallQ l dC dI L kd tys f H.size g.2.2.2.1 a0_ ma0_ ka0_ p_ mp_ kp_ m_ mm_ km_ A_ Q49 w49_3_0_a0_ bw49_3_0_a0_ w49_3_4_a0_ bw49_3_4_a0_ hJ49 hQ49 hw49 y_146 (bd_sub b_147 (by decide)) x_114 b_116 x_149 x_150 x_151 (g.fcts [4, 3, 5, 6] rfl)) (cwV 5 hts (gV_ t_1723 t_1515 t_1516 t_196 t_1517) rfl rfl rfl (by decide +kernel) ⟨(Nat.le_of_ble_eq_true rfl), (Nat.le_of_ble_eq_true rfl)⟩) (pre3V g hK ma0_ ka0_ (by decide) (q := (RX3, TX3, 6)) rfl) rfl rfl hl.1 rfl (lv_room (Nat.le_of_ble_eq_true rfl)) dX3_leaveOut_155 ⟨(Nat.le_of_ble_eq_true rfl), (Nat.le_of_ble_eq_true rfl)⟩) g hK (by decide) (by decide) (fx' := [(3, 1, x1_, .ref a_100), (3, 4, x1_, .int k9_), (3, 4, a0_, .int w49_3_4_a0_), (3, 2, a0_, .ref m_), (3, 3, a0_, .ref p_), (3, 2, x1_, .ref m9_), (3, 3, x1_, .ref p9_)]) rfl (fun fr_154 H locs hp hMr_154 g => ?_)
                    obtain ⟨hx_155, -⟩ := hp
                    have hG_156 := arP.frame hMr_154 go_.2.2.2.1 mp_ kp_ (by decide) (by decide) hJ49
                    have hG_157 := arP.frame hMr_154 go_.2.2.2.1 mp9_ kp9_ (by decide) (by decide) hJ949
                    obtain ⟨Q_158, n_159, k_160, hQ_161, hU_162, h0_163, h4_164, b0_165, b4_166, hP_167⟩ := hx_155
                    have hU_168 := QR.tr hU49 hU_162
                    have g := G3.add g ma0_ ka0_ (by decide) h0_163
                    obtain rfl : w49_3_4_a0_ = k_160 := by have h9 := (fx_at g (i := 3) rfl).2.2.2.symm.trans h4_164; cases h9; rfl
                    have hQ_169 := QR.oth hU_162 hQ949 hap.2.1 hap.2.2
                    have g := G3.add g mx1_ kx1_ (by decide) (((hU_162 x1_ mx1_).1 kx1_ (fun z => hap.1 z.symm) 0).trans ho_152)
                    obtain ⟨y_171, ey_171⟩ : ∃ z : Int32, z = v49_5 + 1 := ⟨_, rfl⟩
                    refine lv_iinc (v := y_171) (lv' := [(5, .int y_171), (7, .ref a_117), (6, .int x_109), (4, .int x_101), (3, .int 1), (0, .ref a0_), (1, .ref x1_), (2, .int x2_)]) hx hb dX3_leaveOut_158 hl (k := 2) rfl (by rw [ey_171]; rfl) (by decide) rfl (fun ls hl => ?_)
                    have ty_171 := add_bd ey_171 b_108 kb_1 (by decide)
                    have b_172 : bd 1 10 y_171 := add_rg ty_171 b_108 kb_1 (by decide)
                    refine lv_goto (tgt := 49) hx hb dX3_leaveOut_161 (by decide) ?_
                    have hl9 := lv_sub hl [0, 3, 4, 5, 6, 7] (by rfl : lv_pick [(5, .int y_171), (7, .ref a_117), (6, .int x_109), (4, .int x_101), (3, .int 1), (0, .ref a0_), (1, .ref x1_), (2, .int x2_)] [0, 3, 4, 5, 6, 7] = [(5, .int y_171), (4, .int x_101), (3, .int 1), (0, .ref a0_), (1, .ref x1_), (2, .int x2_)])
                    have g9 := g.sub (fx' := [(3, 1, x1_, .ref a_100), (3, 4, x1_, .int k9_), (3, 0, x1_, .int n9_), (3, 4, a0_, .int w49_3_4_a0_), (3, 0, a0_, .int n_159), (3, 2, a0_, .ref m_), (3, 3, a0_, .ref p_), (3, 2, x1_, .ref m9_), (3, 3, x1_, .ref p9_)]) [2, 3, 0, 4, 1, 5, 6, 7, 8] rfl
                    exact ih49  y_171 w49_3_4_a0_ n_159 (bd_sub b_172 (by decide)) bw49_3_4_a0_ b0_165 (by have h9_0 := b0_165; unfold bd at h9_0; have h9_1 := b_172; unfold bd at h9_1; have h9_2 := bv49_5; unfold bd at h9_2; have h9_3 := bw49_3_0_a0_; unfold bd at h9_3; have h9_4 := bw49_3_4_a0_; unfold bd at h9_4; have h9_5 := kb_1; unfold bd at h9_5; have h9_6 := kb_m1; unfold bd at h9_6; omega) _ _ _ _ g9 ⟨_, hQ_161, hG_156, hU_168, hQ_169, hG_157, hP_167.1⟩ hl9
                · have fc_115 := eq_f c_115
                  have b_173 : bd (-1) (-1) x_114 := eqX fc_115 bx_114 kb_m1 (by decide)
                  refine lv_aload_n hx hb dX3_leaveOut_94 rfl (lv_at hl 4 rfl) ?_
                  refine lv_aload_n hx hb dX3_leaveOut_95 rfl (lv_at hl 5 rfl) ?_
                  refine g_getk (C := RX3) (T := TX3) (N := 6) hx hb hts (mc_ inX3) hown hK g rfl 3 (by decide) rfl (hts _ (List.mem_cons_of_mem _ t_810)) (fun _ h9 => h9) 8 rfl dX3_leaveOut_96 ?_
                  refine lv_iload hx hb dX3_leaveOut_99 (lv_at hl 1 rfl) ?_
                  refine g_aaldX hx hb hK g mp9_ kp9_ (by decide) rfl (by decide) (in_bd b_108 (by decide)) dX3_leaveOut_101 (fun a_174 ea_174 ma_174 ua_174 wa_174 => ?_)
                  have ka_174 : kd a_174 = 103 := by omega
                  have lta_174 : v49_5.toNatClampNeg < 10 := in_toNat (in_bd b_108 (by decide))
                  have qa_174 : a_174 = A9_ v49_5.toNatClampNeg := ea_174.trans (hJ949 _ lta_174)
                  refine lv_iconst (v := 0) hx hb dX3_leaveOut_102 (by decide) ?_
                  refine g_iald hx hb hK g ma_174 ka_174 (by decide) rfl (by unfold vp_in; decide) dX3_leaveOut_103 (fun x_175 bx_175 cx_175 => ?_)
                  have vx_175 : x_175 = Q9_.2 v49_5.toNatClampNeg := cx_175.trans (by rw [qa_174]; exact hQ949.2.2.2.2.2 _ lta_174)
                  have b_176 : bd 0 7 x_175 := (by rw [vx_175]; exact hw9.2 _ (by have h9 := tnZ b_108.1; have h9_0 := bk9_; unfold bd at h9_0; have h9_1 := bk_; unfold bd at h9_1; have h9_2 := b4_19; unfold bd at h9_2; have h9_3 := b_2; unfold bd at h9_3; have h9_4 := bn_; unfold bd at h9_4; have h9_5 := b0_18; unfold bd at h9_5; have h9_6 := b_108; unfold bd at h9_6; have h9_7 := bw49_3_0_a0_; unfold bd at h9_7; have h9_8 := bw49_3_4_a0_; unfold bd at h9_8; have h9_9 := bx2_; unfold bd at h9_9; have h9_10 := bx_101; unfold bd at h9_10; have h9_11 := bx_109; unfold bd at h9_11; have h9_12 := b_173; unfold bd at h9_12; have h9_13 := b_99; unfold bd at h9_13; have h8_0 := kb_m1; unfold bd at h8_0; omega) (by have h8 := congrArg Int32.toInt vx_114; have h9_0 := bk9_; unfold bd at h9_0; have h9_1 := bk_; unfold bd at h9_1; have h9_2 := b4_19; unfold bd at h9_2; have h9_3 := b_2; unfold bd at h9_3; have h9_4 := bn_; unfold bd at h9_4; have h9_5 := b0_18; unfold bd at h9_5; have h9_6 := b_108; unfold bd at h9_6; have h9_7 := bw49_3_0_a0_; unfold bd at h9_7; have h9_8 := bw49_3_4_a0_; unfold bd at h9_8; have h9_9 := bx2_; unfold bd at h9_9; have h9_10 := bx_101; unfold bd at h9_10; have h9_11 := bx_109; unfold bd at h9_11; have h9_12 := b_173; unfold bd at h9_12; have h9_13 := b_99; unfold bd at h9_13; have h8_0 := kb_m1; unfold bd at h8_0; omega))
                  have ho_177 := (fx_at g (i := 2) rfl).2.2.2
                  have ho_178 := (fx_at g (i := 1) rfl).2.2.2
                  have go_ := g
                  refine g_callv (va_runV (As := [.int x_175]) (rest := []) ⟨hx, hb, hml, hown, hts⟩ (r_X3_addMakeQ l dC dI L kd tys f H.size g.2.2.2.1 a0_ ma0_ ka0_ p_ mp_ kp_ m_ mm_ km_ A_ Q49 w49_3_0_a0_ bw49_3_0_a0_ w49_3_4_a0_ bw49_3_4_a0_ hJ49 hQ49 hw49 x_175 b_176 (g.fcts [4, 3, 5, 6] rfl)) (cwV 1 hts (gV_ t_1729 t_1482 t_1483 t_196 t_1484) rfl rfl rfl (by decide +kernel) ⟨(Nat.le_of_ble_eq_true rfl), (Nat.le_of_ble_eq_true rfl)⟩) (pre3V g hK ma0_ ka0_ (by decide) (q := (RX3, TX3, 6)) rfl) rfl rfl hl.1 rfl (lv_room (Nat.le_of_ble_eq_true rfl)) dX3_leaveOut_104 ⟨(Nat.le_of_ble_eq_true rfl), (Nat.le_of_ble_eq_true rfl)⟩) g hK (by decide) (by decide) (fx' := [(3, 1, x1_, .ref a_100), (3, 2, a0_, .ref m_), (3, 3, a0_, .ref p_), (3, 2, x1_, .ref m9_), (3, 3, x1_, .ref p9_)]) rfl (fun fr_179 H locs hp hMr_179 g => ?_)
                  obtain ⟨hx_180, -⟩ := hp
                  have hG_181 := arP.frame hMr_179 go_.2.2.2.1 mp_ kp_ (by decide) (by decide) hJ49
                  have hG_182 := arP.frame hMr_179 go_.2.2.2.1 mp9_ kp9_ (by decide) (by decide) hJ949
                  obtain ⟨Q_183, n_184, k_185, hQ_186, hU_187, h0_188, h4_189, b0_190, b4_191, hP_192⟩ := hx_180
                  have hU_193 := QR.tr hU49 hU_187
                  have g := G3.add g ma0_ ka0_ (by decide) h0_188
                  have g := G3.add g ma0_ ka0_ (by decide) h4_189
                  have hQ_194 := QR.oth hU_187 hQ949 hap.2.1 hap.2.2
                  have g := G3.add g mx1_ kx1_ (by decide) (((hU_187 x1_ mx1_).1 kx1_ (fun z => hap.1 z.symm) 0).trans ho_177)
                  have g := G3.add g mx1_ kx1_ (by decide) (((hU_187 x1_ mx1_).1 kx1_ (fun z => hap.1 z.symm) 4).trans ho_178)
                  refine lv_goto (tgt := 158) hx hb dX3_leaveOut_107 (by decide) ?_
                  have kb_1 : bd 1 1 (1 : Int32) := ⟨by decide, by decide⟩
                  obtain ⟨y_197, ey_197⟩ : ∃ z : Int32, z = v49_5 + 1 := ⟨_, rfl⟩
                  refine lv_iinc (v := y_197) (lv' := [(5, .int y_197), (6, .int x_109), (4, .int x_101), (3, .int 1), (0, .ref a0_), (1, .ref x1_), (2, .int x2_)]) hx hb dX3_leaveOut_158 hl (k := 1) rfl (by rw [ey_197]; rfl) (by decide) rfl (fun ls hl => ?_)
                  have ty_197 := add_bd ey_197 b_108 kb_1 (by decide)
                  have b_198 : bd 1 10 y_197 := add_rg ty_197 b_108 kb_1 (by decide)
                  refine lv_goto (tgt := 49) hx hb dX3_leaveOut_161 (by decide) ?_
                  have hl9 := lv_sub hl [0, 2, 3, 4, 5, 6] (by rfl : lv_pick [(5, .int y_197), (6, .int x_109), (4, .int x_101), (3, .int 1), (0, .ref a0_), (1, .ref x1_), (2, .int x2_)] [0, 2, 3, 4, 5, 6] = [(5, .int y_197), (4, .int x_101), (3, .int 1), (0, .ref a0_), (1, .ref x1_), (2, .int x2_)])
                  have g9 := g.sub (fx' := [(3, 1, x1_, .ref a_100), (3, 4, x1_, .int k9_), (3, 0, x1_, .int n9_), (3, 4, a0_, .int k_185), (3, 0, a0_, .int n_184), (3, 2, a0_, .ref m_), (3, 3, a0_, .ref p_), (3, 2, x1_, .ref m9_), (3, 3, x1_, .ref p9_)]) [4, 0, 1, 2, 3, 5, 6, 7, 8] rfl
                  exact ih49  y_197 k_185 n_184 (bd_sub b_198 (by decide)) b4_191 b0_190 (by have h9_0 := b0_190; unfold bd at h9_0; have h9_1 := b4_191; unfold bd at h9_1; have h9_2 := b_198; unfold bd at h9_2; have h9_3 := bv49_5; unfold bd at h9_3; have h9_4 := bw49_3_0_a0_; unfold bd at h9_4; have h9_5 := bw49_3_4_a0_; unfold bd at h9_5; have h9_6 := kb_1; unfold bd at h9_6; have h9_7 := kb_m1; unfold bd at h9_7; omega) _ _ _ _ g9 ⟨_, hQ_186, hG_181, hU_193, hQ_194, hG_182, hP_192.1⟩ hl9
              · have fc_113 := eq_f c_113
                refine lv_goto (tgt := 158) hx hb dX3_leaveOut_80 (by decide) ?_
                have kb_1 : bd 1 1 (1 : Int32) := ⟨by decide, by decide⟩
                obtain ⟨y_199, ey_199⟩ : ∃ z : Int32, z = v49_5 + 1 := ⟨_, rfl⟩
                refine lv_iinc (v := y_199) (lv' := [(5, .int y_199), (6, .int x_109), (4, .int x_101), (3, .int 1), (0, .ref a0_), (1, .ref x1_), (2, .int x2_)]) hx hb dX3_leaveOut_158 hl (k := 1) rfl (by rw [ey_199]; rfl) (by decide) rfl (fun ls hl => ?_)
                have ty_199 := add_bd ey_199 b_108 kb_1 (by decide)
                have b_200 : bd 1 10 y_199 := add_rg ty_199 b_108 kb_1 (by decide)
                refine lv_goto (tgt := 49) hx hb dX3_leaveOut_161 (by decide) ?_
                have hl9 := lv_sub hl [0, 2, 3, 4, 5, 6] (by rfl : lv_pick [(5, .int y_199), (6, .int x_109), (4, .int x_101), (3, .int 1), (0, .ref a0_), (1, .ref x1_), (2, .int x2_)] [0, 2, 3, 4, 5, 6] = [(5, .int y_199), (4, .int x_101), (3, .int 1), (0, .ref a0_), (1, .ref x1_), (2, .int x2_)])
                have g9 := g.sub (fx' := [(3, 1, x1_, .ref a_100), (3, 4, x1_, .int k9_), (3, 0, x1_, .int n9_), (3, 4, a0_, .int w49_3_4_a0_), (3, 0, a0_, .int w49_3_0_a0_), (3, 2, a0_, .ref m_), (3, 3, a0_, .ref p_), (3, 2, x1_, .ref m9_), (3, 3, x1_, .ref p9_)]) [0, 1, 2, 3, 4, 5, 6, 7, 8] rfl
                exact ih49  y_199 w49_3_4_a0_ w49_3_0_a0_ (bd_sub b_200 (by decide)) bw49_3_4_a0_ bw49_3_0_a0_ (by have h9_0 := b_200; unfold bd at h9_0; have h9_1 := bv49_5; unfold bd at h9_1; have h9_2 := bw49_3_0_a0_; unfold bd at h9_2; have h9_3 := bw49_3_4_a0_; unfold bd at h9_3; have h9_4 := kb_1; unfold bd at h9_4; have h9_5 := kb_m1; unfold bd at h9_5; omega) _ _ _ _ g9 ⟨_, hQ49, hJ49, hU49, hQ949, hJ949, hw49⟩ hl9
      have kb_0 : bd 0 0 (0 : Int32) := ⟨by decide, by decide⟩
      have hl9 := lv_sub hl [0, 1, 2, 3, 4, 5] (by rfl : lv_pick [(5, .int 0), (4, .int x_101), (3, .int 1), (0, .ref a0_), (1, .ref x1_), (2, .int x2_)] [0, 1, 2, 3, 4, 5] = [(5, .int 0), (4, .int x_101), (3, .int 1), (0, .ref a0_), (1, .ref x1_), (2, .int x2_)])
      have g9 := g.sub (fx' := [(3, 1, x1_, .ref a_100), (3, 4, x1_, .int k9_), (3, 0, x1_, .int n9_), (3, 4, a0_, .int k_13), (3, 0, a0_, .int n_12), (3, 2, a0_, .ref m_), (3, 3, a0_, .ref p_), (3, 2, x1_, .ref m9_), (3, 3, x1_, .ref p9_)]) [0, 1, 2, 3, 4, 5, 6, 7, 8] rfl
      exact loop_102 (23) 0 k_13 n_12 (bd_sub kb_0 (by decide)) b4_19 b0_18 (by have h9_0 := b0_18; unfold bd at h9_0; have h9_1 := b4_19; unfold bd at h9_1; have h9_2 := kb_0; unfold bd at h9_2; have h9_3 := kb_m1; unfold bd at h9_3; omega) _ _ _ _ g9 ⟨_, hQ_14, hG_8, hU_21, hQ_22, hG_10, hP_20.1⟩ hl9
  · have fc_1 := nlt_f c_1
    have b_201 : bd 0 9 n9_ := leL fc_1 bn9_ bx2_ (by decide)
    refine lv_iconst (v := 0) hx hb dX3_leaveOut_8 (by decide) ?_
    have kb_0 : bd 0 0 (0 : Int32) := ⟨by decide, by decide⟩
    subst hQ
    exact W.zret (v := 0) hx hb hr (nar_z (bd_sub kb_0 (by decide) : bd 0 1 _).1 (bd_sub kb_0 (by decide) : bd 0 1 _).2) (fun t ht hW => ⟨⟨_, _, rfl, ⟨⟨Q_, n_, k_, hQ_, hU_0, (fx_at g (i := 0) rfl).2.2.2, (fx_at g (i := 1) rfl).2.2.2, bn_, bk_, hw⟩, (bd_sub kb_0 (by decide)), trivial⟩, q3_of g hK ht hW⟩, g.2.2.1.F ht⟩) g.2.2.1.2.2 dX3_leaveOut_9
set_option maxHeartbeats 4000000 in
set_option maxRecDepth 100000 in
theorem r_X3_becomeLesserQ (l : Launch) (dC : Nat → ClassId) (dI : Nat → Nat → Nat) (L : List Nat) (kd : Nat → Nat) (tys : List (ClassId × FieldType)) (f0 : Nat → va_E) (sz : Nat) (hWT : WT L kd tys f0) (a0_ : Nat) (ma0_ : a0_ ∈ L) (ka0_ : kd a0_ = 3) (p_ : Nat) (mp_ : p_ ∈ L) (kp_ : kd p_ = 124) (m_ : Nat) (mm_ : m_ ∈ L) (km_ : kd m_ = 123) (A_ : Nat → Nat) (Q_ : RQ) (n_ : Int32) (bn_ : bd 0 10 n_) (k_ : Int32) (bk_ : bd 0 3 k_) (hJ_ : arP f0 p_ A_) (hQ_ : isQ L kd f0 m_ A_ Q_) (hw : wQ Q_ n_ k_) (x1_ : Nat) (mx1_ : x1_ ∈ L) (kx1_ : kd x1_ = 7) (x2_ : Nat) (mx2_ : x2_ ∈ L) (kx2_ : kd x2_ = 3) (p9_ : Nat) (mp9_ : p9_ ∈ L) (kp9_ : kd p9_ = 124) (m9_ : Nat) (mm9_ : m9_ ∈ L) (km9_ : kd m9_ = 123) (A9_ : Nat → Nat) (Q9_ : RQ) (n9_ : Int32) (bn9_ : bd 0 10 n9_) (k9_ : Int32) (bk9_ : bd 0 3 k9_) (hJ9_ : arP f0 p9_ A9_) (hQ9_ : isQ L kd f0 m9_ A9_ Q9_) (hw9 : wQ Q9_ n9_ k9_) (hap : a0_ ≠ x2_ ∧ m_ ≠ m9_ ∧ ∀ i j, i < 10 → j < 10 → A_ i ≠ A9_ j) (x3_ : Int32) (bx3_ : bd 0 69 x3_) (hfx : Fs L kd f0 [(3, 0, a0_, .int n_), (3, 4, a0_, .int k_), (3, 2, a0_, .ref m_), (3, 3, a0_, .ref p_), (3, 0, x2_, .int n9_), (3, 4, x2_, .int k9_), (3, 2, x2_, .ref m9_), (3, 3, x2_, .ref p9_)]) : Met l yX3_becomeLesser (.code yX3_becomeLesser cX3_becomeLesser 6 (some .boolean) :: lw_g) ({ frames := 3, cells := 0, slots := 0, locals := 94 }) (va_Pc [.ref a0_, .ref x1_, .ref x2_, .int x3_] (P3 (dC, dI) L tys f0 sz)) (va_Qi (fun (r : Int32) (f : Nat → va_E) => ((rowT L kd f0 f a0_ m_ A_ (fun Q1 n1 k1 => wQ Q1 n1 k1)) ∧ bd 0 1 r ∧ True)) (Q3 (dC, dI) L kd tys [(3, 0), (3, 4)] [103, 122, 123, 125] f0 sz) (pA L sz)) 0 0 (pA L sz) := by
  refine Met.ofW (cc := cX3_becomeLesser) (maxL := 6) (ret := (some .boolean)) (by decide) rfl ?_
  intro p e s m args below meth c s₁ B hml hv
  obtain ⟨rfl, hsz, hP, hK, hD0⟩ := hv
  have hx := B.exec
  have hb := B.bytes
  have hr := B.returns
  have hts := atoms_spec (ws := (.code yX3_becomeLesser cX3_becomeLesser 6 (some .boolean) :: lw_g)) B.pre
  have hown : s.vm.findClass RX3 = some m.cls := findClass_of_methodNamed B.named
  have hlocks := B.notSynchronized
  subst hsz
  have g : G3 (dC, dI) L kd tys s f0 [(3, 0), (3, 4)] [103, 122, 123, 125] f0 s.heap [] [(3, 0, a0_, .int n_), (3, 4, a0_, .int k_), (3, 2, a0_, .ref m_), (3, 3, a0_, .ref p_), (3, 0, x2_, .int n9_), (3, 4, x2_, .int k9_), (3, 2, x2_, .ref m9_), (3, 3, x2_, .ref p9_)] := G3.start hP hD0 hWT hfx
  have hl := lv_entry ([.ref a0_, .ref x1_, .ref x2_, .int x3_]) (n := 6) (Nat.le_of_ble_eq_true rfl)
  rw [lg_entry_eq]
  generalize (lg_sl ([.ref a0_, .ref x1_, .ref x2_, .int x3_]) ++ List.replicate (6 - (lg_sl ([.ref a0_, .ref x1_, .ref x2_, .int x3_])).length) Slot.unset).toArray = ls at hl ⊢
  have hl : lv_has ls 6 [(0, .ref a0_), (1, .ref x1_), (2, .ref x2_), (3, .int x3_)] := hl
  refine W_q (fun Q hQ => ?_)
  have hU_0 : QR L kd f0 f0 a0_ m_ A_ := QR.refl
  refine lv_iload_n hx hb dX3_becomeLesser_0 rfl (lv_at hl 3 rfl) ?_
  refine lv_bipush (v := 10) hx hb dX3_becomeLesser_1 (by decide) ?_
  have kb_10 : bd 10 10 (10 : Int32) := ⟨by decide, by decide⟩
  refine lv_icmp_ge (tgt := 13) hx hb dX3_becomeLesser_3 (by decide) (fun c_1 => ?_) (fun c_1 => ?_)
  · have fc_1 := le_f c_1
    have b_2 : bd 10 69 x3_ := leR fc_1 kb_10 bx3_ (by decide)
    refine lv_iload_n hx hb dX3_becomeLesser_13 rfl (lv_at hl 3 rfl) ?_
    refine lv_bipush (v := 10) hx hb dX3_becomeLesser_14 (by decide) ?_
    refine lv_isub hx hb dX3_becomeLesser_16 ?_
    refine lv_topi (fun y_3 ey_3 => ?_)
    have ty_3 := sub_bd ey_3 b_2 kb_10 (by decide)
    have b_4 : bd 0 59 y_3 := sub_rg ty_3 b_2 kb_10 (by decide)
    refine lv_bipush (v := 6) hx hb dX3_becomeLesser_17 (by decide) ?_
    have kb_6 : bd 6 6 (6 : Int32) := ⟨by decide, by decide⟩
    refine lv_idiv hx hb dX3_becomeLesser_19 (by decide) ?_
    refine lv_topi (fun y_5 ey_5 => ?_)
    have b_6 : bd 0 9 y_5 := div_rg ey_5 b_4 kb_6 (by decide)
    refine lv_istore (lv' := [(4, .int y_5), (0, .ref a0_), (1, .ref x1_), (2, .ref x2_), (3, .int x3_)]) hx hb dX3_becomeLesser_20 hl (by decide) rfl (fun ls hl => ?_)
    refine lv_iload_n hx hb dX3_becomeLesser_22 rfl (lv_at hl 4 rfl) ?_
    refine lv_bipush (v := 10) hx hb dX3_becomeLesser_23 (by decide) ?_
    refine lv_isub hx hb dX3_becomeLesser_25 ?_
    refine lv_topi (fun y_7 ey_7 => ?_)
    obtain rfl : y_3 = y_7 := ey_3.trans ey_7.symm
    refine lv_bipush (v := 6) hx hb dX3_becomeLesser_26 (by decide) ?_
    refine lv_irem hx hb dX3_becomeLesser_28 (by decide) ?_
    refine lv_topi (fun y_8 ey_8 => ?_)
    have b_9 : bd 0 5 y_8 := rem_rg ey_8 b_4 kb_6 (by decide)
    refine lv_istore (lv' := [(5, .int y_8), (4, .int y_5), (0, .ref a0_), (1, .ref x1_), (2, .ref x2_), (3, .int x3_)]) hx hb dX3_becomeLesser_29 hl (by decide) rfl (fun ls hl => ?_)
    refine lv_aload_n hx hb dX3_becomeLesser_31 rfl (lv_at hl 2 rfl) ?_
    refine lv_aload_n hx hb dX3_becomeLesser_32 rfl (lv_at hl 3 rfl) ?_
    refine lv_aload_n hx hb dX3_becomeLesser_33 rfl (lv_at hl 4 rfl) ?_
    refine lv_iload hx hb dX3_becomeLesser_34 (lv_at hl 1 rfl) ?_
    refine lv_iload hx hb dX3_becomeLesser_36 (lv_at hl 0 rfl) ?_
    refine lv_iconst (v := 2) hx hb dX3_becomeLesser_38 (by decide) ?_
    have kb_2 : bd 2 2 (2 : Int32) := ⟨by decide, by decide⟩
    refine lv_idiv hx hb dX3_becomeLesser_39 (by decide) ?_
    refine lv_topi (fun y_10 ey_10 => ?_)
    have b_11 : bd 0 2 y_10 := div_rg ey_10 b_9 kb_2 (by decide)
    refine lv_iload hx hb dX3_becomeLesser_40 (lv_at hl 0 rfl) ?_
    refine lv_iconst (v := 2) hx hb dX3_becomeLesser_42 (by decide) ?_
    refine lv_irem hx hb dX3_becomeLesser_43 (by decide) ?_
    refine lv_topi (fun y_12 ey_12 => ?_)
    have b_13 : bd 0 1 y_12 := rem_rg ey_12 b_9 kb_2 (by decide)
    refine lv_iconst (v := 1) hx hb dX3_becomeLesser_44 (by decide) ?_
    have kb_1 : bd 1 1 (1 : Int32) := ⟨by decide, by decide⟩
    refine lv_icmp_ne (tgt := 52) hx hb dX3_becomeLesser_45 (by decide) (fun c_14 => ?_) (fun c_14 => ?_)
    · have fc_14 := neq_f c_14
      have b_15 : bd 0 0 y_12 := neX fc_14 b_13 kb_1 (by decide)
      refine lv_iconst (v := 0) hx hb dX3_becomeLesser_52 (by decide) ?_
      have kb_0 : bd 0 0 (0 : Int32) := ⟨by decide, by decide⟩
      have ho_16 := (fx_at g (i := 4) rfl).2.2.2
      have ho_17 := (fx_at g (i := 5) rfl).2.2.2
      have go_ := g
      refine g_calli (va_runV (As := [.ref x1_, .ref x2_, .int y_5, .int y_10, .int 0]) (rest := []) ⟨hx, hb, hml, hown, hts⟩ (r_X3_lowerOneQ l dC dI L kd tys f0 s.heap.size g.2.2.2.1 a0_ ma0_ ka0_ p_ mp_ kp_ m_ mm_ km_ A_ Q_ n_ bn_ k_ bk_ hJ_ hQ_ hw x1_ mx1_ kx1_ x2_ mx2_ kx2_ p9_ mp9_ kp9_ m9_ mm9_ km9_ A9_ Q9_ n9_ bn9_ k9_ bk9_ hJ9_ hQ9_ hw9 hap y_5 b_6 y_10 b_11 (0 : Int32) (bd_sub kb_0 (by decide)) (g.fcts [0, 1, 2, 3, 4, 5, 6, 7] rfl)) (cwV 5 hts (gV_ t_1779 t_1781 t_89 t_196 t_1782) rfl rfl rfl (by decide +kernel) ⟨(Nat.le_of_ble_eq_true rfl), (Nat.le_of_ble_eq_true rfl)⟩) (pre3V g hK ma0_ ka0_ (by decide) (q := (RX3, TX3, 6)) rfl) rfl rfl hl.1 rfl (lv_room (Nat.le_of_ble_eq_true rfl)) dX3_becomeLesser_53 ⟨(Nat.le_of_ble_eq_true rfl), (Nat.le_of_ble_eq_true rfl)⟩) g hK (by decide) (by decide) (fx' := [(3, 2, a0_, .ref m_), (3, 3, a0_, .ref p_), (3, 2, x2_, .ref m9_), (3, 3, x2_, .ref p9_)]) rfl (fun r_18 fr_18 H locs hp hMr_18 g => ?_)
      obtain ⟨hx_19, h_20, -⟩ := hp
      have hG_21 := arP.frame hMr_18 go_.2.2.2.1 mp_ kp_ (by decide) (by decide) hJ_
      have hG_22 := arP.frame hMr_18 go_.2.2.2.1 mp9_ kp9_ (by decide) (by decide) hJ9_
      obtain ⟨Q_23, n_24, k_25, hQ_26, hU_27, h0_28, h4_29, b0_30, b4_31, hP_32⟩ := hx_19
      have hU_33 := QR.tr hU_0 hU_27
      have g := G3.add g ma0_ ka0_ (by decide) h0_28
      have g := G3.add g ma0_ ka0_ (by decide) h4_29
      have hQ_34 := QR.oth hU_27 hQ9_ hap.2.1 hap.2.2
      have g := G3.add g mx2_ kx2_ (by decide) (((hU_27 x2_ mx2_).1 kx2_ (fun z => hap.1 z.symm) 0).trans ho_16)
      have g := G3.add g mx2_ kx2_ (by decide) (((hU_27 x2_ mx2_).1 kx2_ (fun z => hap.1 z.symm) 4).trans ho_17)
      subst hQ
      exact W.zret (v := r_18) hx hb hr (nar_z h_20.1 h_20.2) (fun t ht hW => ⟨⟨_, _, rfl, ⟨⟨Q_23, n_24, k_25, hQ_26, hU_33, (fx_at g (i := 3) rfl).2.2.2, (fx_at g (i := 2) rfl).2.2.2, b0_30, b4_31, hP_32⟩, h_20, trivial⟩, q3_of g hK ht hW⟩, g.2.2.1.F ht⟩) g.2.2.1.2.2 dX3_becomeLesser_56
    · have fc_14 := eq_f c_14
      have b_37 : bd 1 1 y_12 := eqX fc_14 b_13 kb_1 (by decide)
      refine lv_iconst (v := 1) hx hb dX3_becomeLesser_48 (by decide) ?_
      refine lv_goto (tgt := 53) hx hb dX3_becomeLesser_49 (by decide) ?_
      have ho_38 := (fx_at g (i := 4) rfl).2.2.2
      have ho_39 := (fx_at g (i := 5) rfl).2.2.2
      have go_ := g
      refine g_calli (va_runV (As := [.ref x1_, .ref x2_, .int y_5, .int y_10, .int 1]) (rest := []) ⟨hx, hb, hml, hown, hts⟩ (r_X3_lowerOneQ l dC dI L kd tys f0 s.heap.size g.2.2.2.1 a0_ ma0_ ka0_ p_ mp_ kp_ m_ mm_ km_ A_ Q_ n_ bn_ k_ bk_ hJ_ hQ_ hw x1_ mx1_ kx1_ x2_ mx2_ kx2_ p9_ mp9_ kp9_ m9_ mm9_ km9_ A9_ Q9_ n9_ bn9_ k9_ bk9_ hJ9_ hQ9_ hw9 hap y_5 b_6 y_10 b_11 (1 : Int32) (bd_sub kb_1 (by decide)) (g.fcts [0, 1, 2, 3, 4, 5, 6, 7] rfl)) (cwV 5 hts (gV_ t_1779 t_1781 t_89 t_196 t_1782) rfl rfl rfl (by decide +kernel) ⟨(Nat.le_of_ble_eq_true rfl), (Nat.le_of_ble_eq_true rfl)⟩) (pre3V g hK ma0_ ka0_ (by decide) (q := (RX3, TX3, 6)) rfl) rfl rfl hl.1 rfl (lv_room (Nat.le_of_ble_eq_true rfl)) dX3_becomeLesser_53 ⟨(Nat.le_of_ble_eq_true rfl), (Nat.le_of_ble_eq_true rfl)⟩) g hK (by decide) (by decide) (fx' := [(3, 2, a0_, .ref m_), (3, 3, a0_, .ref p_), (3, 2, x2_, .ref m9_), (3, 3, x2_, .ref p9_)]) rfl (fun r_40 fr_40 H locs hp hMr_40 g => ?_)
      obtain ⟨hx_41, h_42, -⟩ := hp
      have hG_43 := arP.frame hMr_40 go_.2.2.2.1 mp_ kp_ (by decide) (by decide) hJ_
      have hG_44 := arP.frame hMr_40 go_.2.2.2.1 mp9_ kp9_ (by decide) (by decide) hJ9_
      obtain ⟨Q_45, n_46, k_47, hQ_48, hU_49, h0_50, h4_51, b0_52, b4_53, hP_54⟩ := hx_41
      have hU_55 := QR.tr hU_0 hU_49
      have g := G3.add g ma0_ ka0_ (by decide) h0_50
      have g := G3.add g ma0_ ka0_ (by decide) h4_51
      have hQ_56 := QR.oth hU_49 hQ9_ hap.2.1 hap.2.2
      have g := G3.add g mx2_ kx2_ (by decide) (((hU_49 x2_ mx2_).1 kx2_ (fun z => hap.1 z.symm) 0).trans ho_38)
      have g := G3.add g mx2_ kx2_ (by decide) (((hU_49 x2_ mx2_).1 kx2_ (fun z => hap.1 z.symm) 4).trans ho_39)
      subst hQ
      exact W.zret (v := r_40) hx hb hr (nar_z h_42.1 h_42.2) (fun t ht hW => ⟨⟨_, _, rfl, ⟨⟨Q_45, n_46, k_47, hQ_48, hU_55, (fx_at g (i := 3) rfl).2.2.2, (fx_at g (i := 2) rfl).2.2.2, b0_52, b4_53, hP_54⟩, h_42, trivial⟩, q3_of g hK ht hW⟩, g.2.2.1.F ht⟩) g.2.2.1.2.2 dX3_becomeLesser_56
  · have fc_1 := nle_f c_1
    have b_59 : bd 0 9 x3_ := ltL fc_1 bx3_ kb_10 (by decide)
    refine lv_aload_n hx hb dX3_becomeLesser_6 rfl (lv_at hl 0 rfl) ?_
    refine lv_aload_n hx hb dX3_becomeLesser_7 rfl (lv_at hl 2 rfl) ?_
    refine lv_iload_n hx hb dX3_becomeLesser_8 rfl (lv_at hl 3 rfl) ?_
    have ho_60 := (fx_at g (i := 4) rfl).2.2.2
    have ho_61 := (fx_at g (i := 5) rfl).2.2.2
    have go_ := g
    refine g_calli (va_runV (As := [.ref x2_, .int x3_]) (rest := []) ⟨hx, hb, hml, hown, hts⟩ (r_X3_leaveOutQ l dC dI L kd tys f0 s.heap.size g.2.2.2.1 a0_ ma0_ ka0_ p_ mp_ kp_ m_ mm_ km_ A_ Q_ n_ bn_ k_ bk_ hJ_ hQ_ hw x2_ mx2_ kx2_ p9_ mp9_ kp9_ m9_ mm9_ km9_ A9_ Q9_ n9_ bn9_ k9_ bk9_ hJ9_ hQ9_ hw9 hap x3_ b_59 (g.fcts [0, 1, 2, 3, 4, 5, 6, 7] rfl)) (cwV 2 hts (gV_ t_1774 t_1776 t_88 t_196 t_1777) rfl rfl rfl (by decide +kernel) ⟨(Nat.le_of_ble_eq_true rfl), (Nat.le_of_ble_eq_true rfl)⟩) (pre3V g hK ma0_ ka0_ (by decide) (q := (RX3, TX3, 6)) rfl) rfl rfl hl.1 rfl (lv_room (Nat.le_of_ble_eq_true rfl)) dX3_becomeLesser_9 ⟨(Nat.le_of_ble_eq_true rfl), (Nat.le_of_ble_eq_true rfl)⟩) g hK (by decide) (by decide) (fx' := [(3, 2, a0_, .ref m_), (3, 3, a0_, .ref p_), (3, 2, x2_, .ref m9_), (3, 3, x2_, .ref p9_)]) rfl (fun r_62 fr_62 H locs hp hMr_62 g => ?_)
    obtain ⟨hx_63, h_64, -⟩ := hp
    have hG_65 := arP.frame hMr_62 go_.2.2.2.1 mp_ kp_ (by decide) (by decide) hJ_
    have hG_66 := arP.frame hMr_62 go_.2.2.2.1 mp9_ kp9_ (by decide) (by decide) hJ9_
    obtain ⟨Q_67, n_68, k_69, hQ_70, hU_71, h0_72, h4_73, b0_74, b4_75, hP_76⟩ := hx_63
    have hU_77 := QR.tr hU_0 hU_71
    have g := G3.add g ma0_ ka0_ (by decide) h0_72
    have g := G3.add g ma0_ ka0_ (by decide) h4_73
    have hQ_78 := QR.oth hU_71 hQ9_ hap.2.1 hap.2.2
    have g := G3.add g mx2_ kx2_ (by decide) (((hU_71 x2_ mx2_).1 kx2_ (fun z => hap.1 z.symm) 0).trans ho_60)
    have g := G3.add g mx2_ kx2_ (by decide) (((hU_71 x2_ mx2_).1 kx2_ (fun z => hap.1 z.symm) 4).trans ho_61)
    subst hQ
    exact W.zret (v := r_62) hx hb hr (nar_z h_64.1 h_64.2) (fun t ht hW => ⟨⟨_, _, rfl, ⟨⟨Q_67, n_68, k_69, hQ_70, hU_77, (fx_at g (i := 3) rfl).2.2.2, (fx_at g (i := 2) rfl).2.2.2, b0_74, b4_75, hP_76⟩, h_64, trivial⟩, q3_of g hK ht hW⟩, g.2.2.1.F ht⟩) g.2.2.1.2.2 dX3_becomeLesser_12
set_option maxHeartbeats 4000000 in
set_option maxRecDepth 100000 in
theorem r_X10_makeLeast (l : Launch) (dC : Nat → ClassId) (dI : Nat → Nat → Nat) (L : List Nat) (kd : Nat → Nat) (tys : List (ClassId × FieldType)) (f0 : Nat → va_E) (sz : Nat) (hWT : WT L kd tys f0) (a0_ : Nat) (ma0_ : a0_ ∈ L) (ka0_ : kd a0_ = 10) (q0_ : Nat) (mq0_ : q0_ ∈ L) (kq0_ : kd q0_ = 7) (hGPa0_ : RP L kd f0 a0_) (hGcq0_ : cOK f0 q0_) (hfx : Fs L kd f0 [(10, 0, a0_, .ref q0_)]) : Met l yX10_makeLeast (.code yX10_makeLeast cX10_makeLeast 7 (some .int) :: lw_g) ({ frames := 6, cells := 0, slots := 0, locals := 155 }) (va_Pc [.ref a0_] (P3 (dC, dI) L tys f0 sz)) (va_Qi (fun (r : Int32) (f : Nat → va_E) => (RP L kd f a0_ ∧ True)) (Q3 (dC, dI) L kd tys [(1, 0), (1, 1), (1, 2), (1, 3), (1, 4), (1, 5), (1, 6), (1, 8), (1, 11), (1, 12), (1, 13), (1, 14), (1, 15), (1, 16), (1, 17), (3, 0), (3, 4), (4, 0), (4, 1), (4, 2), (4, 3), (4, 4), (4, 5), (4, 6), (4, 14), (4, 15), (4, 16), (10, 2), (10, 3), (10, 4), (10, 5), (10, 8)] [100, 101, 102, 103, 116, 117, 122, 123, 125, 126, 127, 130, 131, 146] f0 sz) (pA L sz)) 0 0 (pA L sz) := by
  refine Met.ofW (cc := cX10_makeLeast) (maxL := 7) (ret := (some .int)) (by decide) rfl ?_
  intro p e s m args below meth c s₁ B hml hv
  obtain ⟨rfl, hsz, hP, hK, hD0⟩ := hv
  have hx := B.exec
  have hb := B.bytes
  have hr := B.returns
  have hts := atoms_spec (ws := (.code yX10_makeLeast cX10_makeLeast 7 (some .int) :: lw_g)) B.pre
  have hown : s.vm.findClass RX10 = some m.cls := findClass_of_methodNamed B.named
  have hlocks := B.notSynchronized
  subst hsz
  have g : G3 (dC, dI) L kd tys s f0 [(1, 0), (1, 1), (1, 2), (1, 3), (1, 4), (1, 5), (1, 6), (1, 8), (1, 11), (1, 12), (1, 13), (1, 14), (1, 15), (1, 16), (1, 17), (3, 0), (3, 4), (4, 0), (4, 1), (4, 2), (4, 3), (4, 4), (4, 5), (4, 6), (4, 14), (4, 15), (4, 16), (10, 2), (10, 3), (10, 4), (10, 5), (10, 8)] [100, 101, 102, 103, 116, 117, 122, 123, 125, 126, 127, 130, 131, 146] f0 s.heap [] [(10, 0, a0_, .ref q0_)] := G3.start hP hD0 hWT hfx
  have hl := lv_entry ([.ref a0_]) (n := 7) (Nat.le_of_ble_eq_true rfl)
  rw [lg_entry_eq]
  generalize (lg_sl ([.ref a0_]) ++ List.replicate (7 - (lg_sl ([.ref a0_])).length) Slot.unset).toArray = ls at hl ⊢
  have hl : lv_has ls 7 [(0, .ref a0_)] := hl
  refine W_q (fun Q hQ => ?_)
  refine lv_aload_n hx hb dX10_makeLeast_0 rfl (lv_at hl 0 rfl) ?_
  refine g_getr (K := 4) (C := RX10) (T := TX10) (N := 10) hx hb hts (mc_ inX10) hown hK g ma0_ ka0_ (by decide) rfl 4 (by decide) rfl (hts _ (List.mem_cons_of_mem _ t_917)) (fun _ h9 => h9) rfl dX10_makeLeast_1 (fun a_1 ma_1 ka_1 g => ?_)
  refine g_geti (C := RX4) (T := TX4) (N := 17) hx hb hts (mc_ inX4) hown hK g ma_1 ka_1 (by decide) rfl 0 (by decide) rfl (hts _ (List.mem_cons_of_mem _ t_837)) (fun _ h9 => h9) rfl dX10_makeLeast_4 (fun x_2 bx_2 g => ?_)
  refine lv_istore_n (lv' := [(1, .int x_2), (0, .ref a0_)]) hx hb dX10_makeLeast_7 rfl hl (by decide) rfl (fun ls hl => ?_)
  refine lv_aload_n hx hb dX10_makeLeast_8 rfl (lv_at hl 1 rfl) ?_
  refine g_getk (C := RX10) (T := TX10) (N := 10) hx hb hts (mc_ inX10) hown hK g rfl 4 (by decide) rfl (hts _ (List.mem_cons_of_mem _ t_917)) (fun _ h9 => h9) 1 rfl dX10_makeLeast_9 ?_
  refine lv_aload_n hx hb dX10_makeLeast_12 rfl (lv_at hl 1 rfl) ?_
  refine g_getk (C := RX10) (T := TX10) (N := 10) hx hb hts (mc_ inX10) hown hK g rfl 0 (by decide) rfl (hts _ (List.mem_cons_of_mem _ t_912)) (fun _ h9 => h9) 2 rfl dX10_makeLeast_13 ?_
  have go_ := g
  refine g_calli (va_runV (As := [.ref q0_]) (rest := []) ⟨hx, hb, hml, hown, hts⟩ (r_X4_brokenPlace l dC dI L kd tys f0 s.heap.size g.2.2.2.1 a_1 ma_1 ka_1 q0_ mq0_ kq0_) (cwV 1 hts (gV_ t_1766 t_1767 t_1768 t_197 t_1769) rfl rfl rfl (by decide +kernel) ⟨(Nat.le_of_ble_eq_true rfl), (Nat.le_of_ble_eq_true rfl)⟩) (pre3V g hK ma_1 ka_1 (by decide) (q := (RX4, TX4, 17)) rfl) rfl rfl hl.1 rfl (lv_room (Nat.le_of_ble_eq_true rfl)) dX10_makeLeast_16 ⟨(Nat.le_of_ble_eq_true rfl), (Nat.le_of_ble_eq_true rfl)⟩) g hK (by decide) (by decide) (fx' := [(4, 0, a_1, .int x_2), (10, 4, a0_, .ref a_1), (10, 0, a0_, .ref q0_)]) rfl (fun r_3 fr_3 H locs hp hMr_3 g => ?_)
  have hG_4 := RP.frame hMr_3 go_.2.2.2.1 ma0_ ka0_ (by decide) (by decide) hGPa0_
  have hG_5 := cOK.frame hMr_3 go_.2.2.2.1 mq0_ kq0_ (by decide) (by decide) hGcq0_
  refine lv_istore_n (lv' := [(2, .int r_3), (1, .int x_2), (0, .ref a0_)]) hx hb dX10_makeLeast_19 rfl hl (by decide) rfl (fun ls hl => ?_)
  refine lv_iconst (v := 0) hx hb dX10_makeLeast_20 (by decide) ?_
  refine lv_istore_n (lv' := [(3, .int 0), (2, .int r_3), (1, .int x_2), (0, .ref a0_)]) hx hb dX10_makeLeast_21 rfl hl (by decide) rfl (fun ls hl => ?_)
  refine lv_iconst (v := 0) hx hb dX10_makeLeast_22 (by decide) ?_
  refine lv_istore (lv' := [(4, .int 0), (3, .int 0), (2, .int r_3), (1, .int x_2), (0, .ref a0_)]) hx hb dX10_makeLeast_23 hl (by decide) rfl (fun ls hl => ?_)
  refine lv_iconst (v := 0) hx hb dX10_makeLeast_25 (by decide) ?_
  refine lv_istore (lv' := [(5, .int 0), (4, .int 0), (3, .int 0), (2, .int r_3), (1, .int x_2), (0, .ref a0_)]) hx hb dX10_makeLeast_26 hl (by decide) rfl (fun ls hl => ?_)
  have loop_6 : ∀ (n : Nat) (v28_5 : Int32) (v28_4 : Int32) (v28_3 : Int32), bd 0 1000000 v28_5 → bd 0 70 v28_4 → (1000000 - v28_5.toInt < (n : Int)) → ∀ (f : Nat → va_E) (H : Heap) (locs : List Loc) (ls : Array Slot), G3 (dC, dI) L kd tys s f0 [(1, 0), (1, 1), (1, 2), (1, 3), (1, 4), (1, 5), (1, 6), (1, 8), (1, 11), (1, 12), (1, 13), (1, 14), (1, 15), (1, 16), (1, 17), (3, 0), (3, 4), (4, 0), (4, 1), (4, 2), (4, 3), (4, 4), (4, 5), (4, 6), (4, 14), (4, 15), (4, 16), (10, 2), (10, 3), (10, 4), (10, 5), (10, 8)] [100, 101, 102, 103, 116, 117, 122, 123, 125, 126, 127, 130, 131, 146] f H locs [(10, 0, a0_, .ref q0_)] → RP L kd f a0_ → cOK f q0_ → lv_has ls 7 [(5, .int v28_5), (4, .int v28_4), (3, .int v28_3), (2, .int r_3), (1, .int x_2), (0, .ref a0_)] → W p l e ({ frames := 6, cells := 0, slots := 0, locals := 155 } : Room) s m [.ref a0_].toArray below meth c H locs 0 0 Q (F0 m 28 ls []) := by
    intro n28
    induction n28 with
    | zero =>
      intro v28_5 v28_4 v28_3 bv28_5 bv28_4  hm28 f H locs ls g hG28_P_a0_ hG28_c_q0_ hl
      exact absurd hm28 (by have h9_v28_5 := bv28_5; unfold bd at h9_v28_5; have h9_v28_4 := bv28_4; unfold bd at h9_v28_4; have h9_v28_3 := bdT v28_3; unfold bd at h9_v28_3; omega)
    | succ n28 ih28 =>
      intro v28_5 v28_4 v28_3 bv28_5 bv28_4  hm28 f H locs ls g hG28_P_a0_ hG28_c_q0_ hl
      refine lv_iload hx hb dX10_makeLeast_28 (lv_at hl 0 rfl) ?_
      refine lv_ldc (v := 1000000) hx hb hown (hts _ (List.mem_cons_of_mem _ t_1730)) dX10_makeLeast_30 ?_
      have kb_1000000 : bd 1000000 1000000 (1000000 : Int32) := ⟨by decide, by decide⟩
      refine lv_icmp_ge (tgt := 135) hx hb dX10_makeLeast_32 (by decide) (fun c_7 => ?_) (fun c_7 => ?_)
      · have fc_7 := le_f c_7
        have b_8 : bd 1000000 1000000 v28_5 := leR fc_7 kb_1000000 bv28_5 (by decide)
        refine lv_iload_n hx hb dX10_makeLeast_135 rfl (lv_at hl 2 rfl) ?_
        have kb_0 : bd 0 0 (0 : Int32) := ⟨by decide, by decide⟩
        refine lv_if_ne (tgt := 151) hx hb dX10_makeLeast_136 (by decide) (fun c_9 => ?_) (fun c_9 => ?_)
        · have fc_9 := neq_f c_9
          refine lv_iload_n hx hb dX10_makeLeast_151 rfl (lv_at hl 2 rfl) ?_
          subst hQ
          exact W.iret (v := v28_3) hx hb hr (fun t ht hW => ⟨⟨_, _, rfl, ⟨hG28_P_a0_, trivial⟩, q3_of g hK ht hW⟩, g.2.2.1.F ht⟩) g.2.2.1.2.2 dX10_makeLeast_152
        · have fc_9 := eq_f c_9
          have b_10 : bd 0 0 v28_3 := eqX fc_9 (bdT v28_3) kb_0 (by decide)
          refine lv_aload_n hx hb dX10_makeLeast_139 rfl (lv_at hl 5 rfl) ?_
          refine lv_aload_n hx hb dX10_makeLeast_140 rfl (lv_at hl 5 rfl) ?_
          refine g_getr (K := 3) (C := RX10) (T := TX10) (N := 10) hx hb hts (mc_ inX10) hown hK g ma0_ ka0_ (by decide) rfl 2 (by decide) rfl (hts _ (List.mem_cons_of_mem _ t_914)) (fun _ h9 => h9) rfl dX10_makeLeast_141 (fun a_11 ma_11 ka_11 g => ?_)
          refine lv_aload_n hx hb dX10_makeLeast_144 rfl (lv_at hl 5 rfl) ?_
          refine g_getr (K := 4) (C := RX10) (T := TX10) (N := 10) hx hb hts (mc_ inX10) hown hK g ma0_ ka0_ (by decide) rfl 4 (by decide) rfl (hts _ (List.mem_cons_of_mem _ t_917)) (fun _ h9 => h9) rfl dX10_makeLeast_145 (fun a_12 ma_12 ka_12 g => ?_)
          have go_ := g
          refine g_callv (va_runV (As := [.ref a_11, .ref a_12]) (rest := []) ⟨hx, hb, hml, hown, hts⟩ (r_X10_runThrough l dC dI L kd tys f H.size g.2.2.2.1 a0_ ma0_ ka0_ a_11 ma_11 ka_11 a_12 ma_12 ka_12 q0_ mq0_ kq0_ hG28_c_q0_ (g.fcts [2] rfl)) (cwV 2 hts (gV_ t_1526 t_1528 t_54 t_194 t_1529) rfl rfl rfl (by decide +kernel) ⟨(Nat.le_of_ble_eq_true rfl), (Nat.le_of_ble_eq_true rfl)⟩) (pre3V g hK ma0_ ka0_ (by decide) (q := (RX10, TX10, 10)) rfl) rfl rfl hl.1 rfl (lv_room (Nat.le_of_ble_eq_true rfl)) dX10_makeLeast_148 ⟨(Nat.le_of_ble_eq_true rfl), (Nat.le_of_ble_eq_true rfl)⟩) g hK (by decide) (by decide) (fx' := [(10, 4, a0_, .ref a_12), (10, 2, a0_, .ref a_11), (10, 0, a0_, .ref q0_)]) rfl (fun fr_13 H locs hp hMr_13 g => ?_)
          obtain ⟨x_14, h_15, x_16, h_17, x_18, h_19, x_20, h_21, x_22, h_23, x_24, h_25, hF_26⟩ := hp
          have hG_27 := RP.frame hMr_13 go_.2.2.2.1 ma0_ ka0_ (by decide) (by decide) hG28_P_a0_
          have hG_28 := cOK.frame hMr_13 go_.2.2.2.1 mq0_ kq0_ (by decide) (by decide) hG28_c_q0_
          have g := g.more hF_26
          refine lv_iload_n hx hb dX10_makeLeast_151 rfl (lv_at hl 2 rfl) ?_
          subst hQ
          exact W.iret (v := v28_3) hx hb hr (fun t ht hW => ⟨⟨_, _, rfl, ⟨hG_27, trivial⟩, q3_of g hK ht hW⟩, g.2.2.1.F ht⟩) g.2.2.1.2.2 dX10_makeLeast_152
      · have fc_7 := nle_f c_7
        have b_29 : bd 0 999999 v28_5 := ltL fc_7 bv28_5 kb_1000000 (by decide)
        refine lv_iload hx hb dX10_makeLeast_35 (lv_at hl 1 rfl) ?_
        refine lv_bipush (v := 70) hx hb dX10_makeLeast_37 (by decide) ?_
        have kb_70 : bd 70 70 (70 : Int32) := ⟨by decide, by decide⟩
        refine lv_icmp_ge (tgt := 135) hx hb dX10_makeLeast_39 (by decide) (fun c_30 => ?_) (fun c_30 => ?_)
        · have fc_30 := le_f c_30
          have b_31 : bd 70 70 v28_4 := leR fc_30 kb_70 bv28_4 (by decide)
          refine lv_iload_n hx hb dX10_makeLeast_135 rfl (lv_at hl 2 rfl) ?_
          have kb_0 : bd 0 0 (0 : Int32) := ⟨by decide, by decide⟩
          refine lv_if_ne (tgt := 151) hx hb dX10_makeLeast_136 (by decide) (fun c_32 => ?_) (fun c_32 => ?_)
          · have fc_32 := neq_f c_32
            refine lv_iload_n hx hb dX10_makeLeast_151 rfl (lv_at hl 2 rfl) ?_
            subst hQ
            exact W.iret (v := v28_3) hx hb hr (fun t ht hW => ⟨⟨_, _, rfl, ⟨hG28_P_a0_, trivial⟩, q3_of g hK ht hW⟩, g.2.2.1.F ht⟩) g.2.2.1.2.2 dX10_makeLeast_152
          · have fc_32 := eq_f c_32
            have b_33 : bd 0 0 v28_3 := eqX fc_32 (bdT v28_3) kb_0 (by decide)
            refine lv_aload_n hx hb dX10_makeLeast_139 rfl (lv_at hl 5 rfl) ?_
            refine lv_aload_n hx hb dX10_makeLeast_140 rfl (lv_at hl 5 rfl) ?_
            refine g_getr (K := 3) (C := RX10) (T := TX10) (N := 10) hx hb hts (mc_ inX10) hown hK g ma0_ ka0_ (by decide) rfl 2 (by decide) rfl (hts _ (List.mem_cons_of_mem _ t_914)) (fun _ h9 => h9) rfl dX10_makeLeast_141 (fun a_34 ma_34 ka_34 g => ?_)
            refine lv_aload_n hx hb dX10_makeLeast_144 rfl (lv_at hl 5 rfl) ?_
            refine g_getr (K := 4) (C := RX10) (T := TX10) (N := 10) hx hb hts (mc_ inX10) hown hK g ma0_ ka0_ (by decide) rfl 4 (by decide) rfl (hts _ (List.mem_cons_of_mem _ t_917)) (fun _ h9 => h9) rfl dX10_makeLeast_145 (fun a_35 ma_35 ka_35 g => ?_)
            have go_ := g
            refine g_callv (va_runV (As := [.ref a_34, .ref a_35]) (rest := []) ⟨hx, hb, hml, hown, hts⟩ (r_X10_runThrough l dC dI L kd tys f H.size g.2.2.2.1 a0_ ma0_ ka0_ a_34 ma_34 ka_34 a_35 ma_35 ka_35 q0_ mq0_ kq0_ hG28_c_q0_ (g.fcts [2] rfl)) (cwV 2 hts (gV_ t_1526 t_1528 t_54 t_194 t_1529) rfl rfl rfl (by decide +kernel) ⟨(Nat.le_of_ble_eq_true rfl), (Nat.le_of_ble_eq_true rfl)⟩) (pre3V g hK ma0_ ka0_ (by decide) (q := (RX10, TX10, 10)) rfl) rfl rfl hl.1 rfl (lv_room (Nat.le_of_ble_eq_true rfl)) dX10_makeLeast_148 ⟨(Nat.le_of_ble_eq_true rfl), (Nat.le_of_ble_eq_true rfl)⟩) g hK (by decide) (by decide) (fx' := [(10, 4, a0_, .ref a_35), (10, 2, a0_, .ref a_34), (10, 0, a0_, .ref q0_)]) rfl (fun fr_36 H locs hp hMr_36 g => ?_)
            obtain ⟨x_37, h_38, x_39, h_40, x_41, h_42, x_43, h_44, x_45, h_46, x_47, h_48, hF_49⟩ := hp
            have hG_50 := RP.frame hMr_36 go_.2.2.2.1 ma0_ ka0_ (by decide) (by decide) hG28_P_a0_
            have hG_51 := cOK.frame hMr_36 go_.2.2.2.1 mq0_ kq0_ (by decide) (by decide) hG28_c_q0_
            have g := g.more hF_49
            refine lv_iload_n hx hb dX10_makeLeast_151 rfl (lv_at hl 2 rfl) ?_
            subst hQ
            exact W.iret (v := v28_3) hx hb hr (fun t ht hW => ⟨⟨_, _, rfl, ⟨hG_50, trivial⟩, q3_of g hK ht hW⟩, g.2.2.1.F ht⟩) g.2.2.1.2.2 dX10_makeLeast_152
        · have fc_30 := nle_f c_30
          have b_52 : bd 0 69 v28_4 := ltL fc_30 bv28_4 kb_70 (by decide)
          refine lv_aload_n hx hb dX10_makeLeast_42 rfl (lv_at hl 5 rfl) ?_
          refine g_getr (K := 3) (C := RX10) (T := TX10) (N := 10) hx hb hts (mc_ inX10) hown hK g ma0_ ka0_ (by decide) rfl 3 (by decide) rfl (hts _ (List.mem_cons_of_mem _ t_916)) (fun _ h9 => h9) rfl dX10_makeLeast_43 (fun a_53 ma_53 ka_53 g => ?_)
          refine lv_aload_n hx hb dX10_makeLeast_46 rfl (lv_at hl 5 rfl) ?_
          refine g_getk (C := RX10) (T := TX10) (N := 10) hx hb hts (mc_ inX10) hown hK g rfl 0 (by decide) rfl (hts _ (List.mem_cons_of_mem _ t_912)) (fun _ h9 => h9) 1 rfl dX10_makeLeast_47 ?_
          refine lv_aload_n hx hb dX10_makeLeast_50 rfl (lv_at hl 5 rfl) ?_
          refine g_getr (K := 3) (C := RX10) (T := TX10) (N := 10) hx hb hts (mc_ inX10) hown hK g ma0_ ka0_ (by decide) rfl 2 (by decide) rfl (hts _ (List.mem_cons_of_mem _ t_914)) (fun _ h9 => h9) rfl dX10_makeLeast_51 (fun a_54 ma_54 ka_54 g => ?_)
          refine lv_iload hx hb dX10_makeLeast_54 (lv_at hl 1 rfl) ?_
          obtain ⟨r1_55, r2_56, p1_57, p2_58, m1_59, m2_60, A1_61, A2_62, Q1_63, Q2_64, n1_65, n2_66, k1_67, k2_68, e2_69, e3_70, pk1_71, pk2_72, hap_73⟩ := hG28_P_a0_
          obtain ⟨⟨hr_74, kr_75⟩, ⟨hp_76, kp_77⟩, ⟨hm_78, km_79⟩, f2_80, f3_81, f0_82, f4_83, b0_84, b4_85, hJ_86, hQ_87, hw_88⟩ := pk1_71
          obtain rfl : a_54 = r1_55 := by have h9 := (fx_at g (i := 0) rfl).2.2.2.symm.trans e2_69; cases h9; rfl
          have g := G3.add g ma_54 ka_54 (by decide) f2_80
          have g := G3.add g ma_54 ka_54 (by decide) f3_81
          have g := G3.add g ma_54 ka_54 (by decide) f0_82
          have g := G3.add g ma_54 ka_54 (by decide) f4_83
          obtain ⟨⟨hr_89, kr_90⟩, ⟨hp_91, kp_92⟩, ⟨hm_93, km_94⟩, f2_95, f3_96, f0_97, f4_98, b0_99, b4_100, hJ_101, hQ_102, hw_103⟩ := pk2_72
          obtain rfl : a_53 = r2_56 := by have h9 := (fx_at g (i := 5) rfl).2.2.2.symm.trans e3_70; cases h9; rfl
          have g := G3.add g ma_53 ka_53 (by decide) f2_95
          have g := G3.add g ma_53 ka_53 (by decide) f3_96
          have g := G3.add g ma_53 ka_53 (by decide) f0_97
          have g := G3.add g ma_53 ka_53 (by decide) f4_98
          have ho_104 := (fx_at g (i := 5) rfl).2.2.2
          have ho_105 := (fx_at g (i := 4) rfl).2.2.2
          have go_ := g
          refine g_calli (va_runV (As := [.ref q0_, .ref a_54, .int v28_4]) (rest := []) ⟨hx, hb, hml, hown, hts⟩ (r_X3_becomeLesserQ l dC dI L kd tys f H.size g.2.2.2.1 a_53 ma_53 ka_53 p2_58 hp_91 kp_92 m2_60 hm_93 km_94 A2_62 Q2_64 n2_66 b0_99 k2_68 b4_100 hJ_101 hQ_102 hw_103 q0_ mq0_ kq0_ a_54 ma_54 ka_54 p1_57 hp_76 kp_77 m1_59 hm_78 km_79 A1_61 Q1_63 n1_65 b0_84 k1_67 b4_85 hJ_86 hQ_87 hw_88 (apQ.sym hap_73) v28_4 b_52 (g.fcts [1, 0, 3, 2, 5, 4, 7, 6] rfl)) (cwV 3 hts (gV_ t_1770 t_1771 t_1772 t_196 t_1773) rfl rfl rfl (by decide +kernel) ⟨(Nat.le_of_ble_eq_true rfl), (Nat.le_of_ble_eq_true rfl)⟩) (pre3V g hK ma_53 ka_53 (by decide) (q := (RX3, TX3, 6)) rfl) rfl rfl hl.1 rfl (lv_room (Nat.le_of_ble_eq_true rfl)) dX10_makeLeast_56 ⟨(Nat.le_of_ble_eq_true rfl), (Nat.le_of_ble_eq_true rfl)⟩) g hK (by decide) (by decide) (fx' := [(3, 3, a_53, .ref p2_58), (3, 2, a_53, .ref m2_60), (3, 3, a_54, .ref p1_57), (3, 2, a_54, .ref m1_59), (10, 2, a0_, .ref a_54), (10, 3, a0_, .ref a_53), (10, 0, a0_, .ref q0_)]) rfl (fun r_106 fr_106 H locs hp hMr_106 g => ?_)
          obtain ⟨hx_107, h_108, -⟩ := hp
          have hG_109 := cOK.frame hMr_106 go_.2.2.2.1 mq0_ kq0_ (by decide) (by decide) hG28_c_q0_
          have hG_110 := arP.frame hMr_106 go_.2.2.2.1 hp_76 kp_77 (by decide) (by decide) hJ_86
          have hG_111 := arP.frame hMr_106 go_.2.2.2.1 hp_91 kp_92 (by decide) (by decide) hJ_101
          obtain ⟨Q_112, n_113, k_114, hQ_115, hU_116, h0_117, h4_118, b0_119, b4_120, hP_121⟩ := hx_107
          have g := G3.add g ma_53 ka_53 (by decide) h0_117
          have g := G3.add g ma_53 ka_53 (by decide) h4_118
          have hQ_122 := QR.oth hU_116 hQ_87 (apQ.sym hap_73).2.1 (apQ.sym hap_73).2.2
          have g := G3.add g ma_54 ka_54 (by decide) (((hU_116 a_54 ma_54).1 ka_54 (fun z => (apQ.sym hap_73).1 z.symm) 0).trans ho_104)
          have g := G3.add g ma_54 ka_54 (by decide) (((hU_116 a_54 ma_54).1 ka_54 (fun z => (apQ.sym hap_73).1 z.symm) 4).trans ho_105)
          have hP_125 : RP L kd fr_106 a0_ := ⟨a_54, _, _, _, _, _, _, _, _, _, _, _, _, _, (fx_at g (i := 8) rfl).2.2.2, (fx_at g (i := 9) rfl).2.2.2, ⟨⟨ma_54, ka_54⟩, ⟨hp_76, kp_77⟩, ⟨hm_78, km_79⟩, (fx_at g (i := 7) rfl).2.2.2, (fx_at g (i := 6) rfl).2.2.2, (fx_at g (i := 1) rfl).2.2.2, (fx_at g (i := 0) rfl).2.2.2, b0_84, b4_85, hG_110, hQ_122, hw_88⟩, ⟨⟨ma_53, ka_53⟩, ⟨hp_91, kp_92⟩, ⟨hm_93, km_94⟩, (fx_at g (i := 5) rfl).2.2.2, (fx_at g (i := 4) rfl).2.2.2, (fx_at g (i := 3) rfl).2.2.2, (fx_at g (i := 2) rfl).2.2.2, b0_119, b4_120, hG_111, hQ_115, hP_121⟩, hap_73⟩
          refine lv_istore (lv' := [(6, .int r_106), (5, .int v28_5), (4, .int v28_4), (3, .int v28_3), (2, .int r_3), (1, .int x_2), (0, .ref a0_)]) hx hb dX10_makeLeast_59 hl (by decide) rfl (fun ls hl => ?_)
          refine lv_iload hx hb dX10_makeLeast_61 (lv_at hl 0 rfl) ?_
          have kb_0 : bd 0 0 (0 : Int32) := ⟨by decide, by decide⟩
          refine lv_if_eq (tgt := 111) hx hb dX10_makeLeast_63 (by decide) (fun c_126 => ?_) (fun c_126 => ?_)
          · have fc_126 := eq_f c_126
            have b_127 : bd 0 0 r_106 := eqX fc_126 h_108 kb_0 (by decide)
            have kb_1 : bd 1 1 (1 : Int32) := ⟨by decide, by decide⟩
            obtain ⟨y_128, ey_128⟩ : ∃ z : Int32, z = v28_4 + 1 := ⟨_, rfl⟩
            refine lv_iinc (v := y_128) (lv' := [(4, .int y_128), (6, .int r_106), (5, .int v28_5), (3, .int v28_3), (2, .int r_3), (1, .int x_2), (0, .ref a0_)]) hx hb dX10_makeLeast_111 hl (k := 2) rfl (by rw [ey_128]; rfl) (by decide) rfl (fun ls hl => ?_)
            have ty_128 := add_bd ey_128 b_52 kb_1 (by decide)
            have b_129 : bd 1 70 y_128 := add_rg ty_128 b_52 kb_1 (by decide)
            refine lv_iload hx hb dX10_makeLeast_114 (lv_at hl 1 rfl) ?_
            refine lv_if_eq (tgt := 129) hx hb dX10_makeLeast_116 (by decide) (fun c_130 => ?_) (fun c_130 => ?_)
            · have fc_130 := eq_f c_130
              obtain ⟨y_131, ey_131⟩ : ∃ z : Int32, z = v28_5 + 1 := ⟨_, rfl⟩
              refine lv_iinc (v := y_131) (lv' := [(5, .int y_131), (4, .int y_128), (6, .int r_106), (3, .int v28_3), (2, .int r_3), (1, .int x_2), (0, .ref a0_)]) hx hb dX10_makeLeast_129 hl (k := 2) rfl (by rw [ey_131]; rfl) (by decide) rfl (fun ls hl => ?_)
              have ty_131 := add_bd ey_131 b_29 kb_1 (by decide)
              have b_132 : bd 1 1000000 y_131 := add_rg ty_131 b_29 kb_1 (by decide)
              refine lv_goto (tgt := 28) hx hb dX10_makeLeast_132 (by decide) ?_
              have hl9 := lv_sub hl [0, 1, 3, 4, 5, 6] (by rfl : lv_pick [(5, .int y_131), (4, .int y_128), (6, .int r_106), (3, .int v28_3), (2, .int r_3), (1, .int x_2), (0, .ref a0_)] [0, 1, 3, 4, 5, 6] = [(5, .int y_131), (4, .int y_128), (3, .int v28_3), (2, .int r_3), (1, .int x_2), (0, .ref a0_)])
              have g9 := g.sub (fx' := [(10, 0, a0_, .ref q0_)]) [10] rfl
              exact ih28  y_131 y_128 v28_3 (bd_sub b_132 (by decide)) (bd_sub b_129 (by decide)) (by have h9_0 := b_129; unfold bd at h9_0; have h9_1 := b_132; unfold bd at h9_1; have h9_2 := bdT v28_3; unfold bd at h9_2; have h9_3 := bv28_4; unfold bd at h9_3; have h9_4 := bv28_5; unfold bd at h9_4; have h9_5 := kb_0; unfold bd at h9_5; have h9_6 := kb_1; unfold bd at h9_6; have h9_7 := kb_1000000; unfold bd at h9_7; have h9_8 := kb_70; unfold bd at h9_8; omega) _ _ _ _ g9 hP_125 hG_109 hl9
            · have fc_130 := neq_f c_130
              have b_133 : bd 1 (-1) r_106 := neX fc_130 b_127 kb_0 (by decide)
              exact bd_no b_133 (by decide)
          · have fc_126 := neq_f c_126
            have b_134 : bd 1 1 r_106 := neX fc_126 h_108 kb_0 (by decide)
            refine lv_aload_n hx hb dX10_makeLeast_66 rfl (lv_at hl 6 rfl) ?_
            refine lv_aload_n hx hb dX10_makeLeast_67 rfl (lv_at hl 6 rfl) ?_
            refine g_getk (C := RX10) (T := TX10) (N := 10) hx hb hts (mc_ inX10) hown hK g rfl 3 (by decide) rfl (hts _ (List.mem_cons_of_mem _ t_916)) (fun _ h9 => h9) 9 rfl dX10_makeLeast_68 ?_
            refine lv_aload_n hx hb dX10_makeLeast_71 rfl (lv_at hl 6 rfl) ?_
            refine g_getr (K := 4) (C := RX10) (T := TX10) (N := 10) hx hb hts (mc_ inX10) hown hK g ma0_ ka0_ (by decide) rfl 5 (by decide) rfl (hts _ (List.mem_cons_of_mem _ t_919)) (fun _ h9 => h9) rfl dX10_makeLeast_72 (fun a_135 ma_135 ka_135 g => ?_)
            have go_ := g
            refine g_callv (va_runV (As := [.ref a_53, .ref a_135]) (rest := []) ⟨hx, hb, hml, hown, hts⟩ (r_X10_runThrough l dC dI L kd tys fr_106 H.size g.2.2.2.1 a0_ ma0_ ka0_ a_53 ma_53 ka_53 a_135 ma_135 ka_135 q0_ mq0_ kq0_ hG_109 (g.fcts [11] rfl)) (cwV 2 hts (gV_ t_1526 t_1528 t_54 t_194 t_1529) rfl rfl rfl (by decide +kernel) ⟨(Nat.le_of_ble_eq_true rfl), (Nat.le_of_ble_eq_true rfl)⟩) (pre3V g hK ma0_ ka0_ (by decide) (q := (RX10, TX10, 10)) rfl) rfl rfl hl.1 rfl (lv_room (Nat.le_of_ble_eq_true rfl)) dX10_makeLeast_75 ⟨(Nat.le_of_ble_eq_true rfl), (Nat.le_of_ble_eq_true rfl)⟩) g hK (by decide) (by decide) (fx' := [(10, 5, a0_, .ref a_135), (3, 4, a_54, .int k1_67), (3, 0, a_54, .int n1_65), (3, 4, a_53, .int k_114), (3, 0, a_53, .int n_113), (3, 3, a_53, .ref p2_58), (3, 2, a_53, .ref m2_60), (3, 3, a_54, .ref p1_57), (3, 2, a_54, .ref m1_59), (10, 2, a0_, .ref a_54), (10, 3, a0_, .ref a_53), (10, 0, a0_, .ref q0_)]) rfl (fun fr_136 H locs hp hMr_136 g => ?_)
            obtain ⟨x_137, h_138, x_139, h_140, x_141, h_142, x_143, h_144, x_145, h_146, x_147, h_148, hF_149⟩ := hp
            have hG_150 := cOK.frame hMr_136 go_.2.2.2.1 mq0_ kq0_ (by decide) (by decide) hG_109
            have hG_151 := RP.frame hMr_136 go_.2.2.2.1 ma0_ ka0_ (by decide) (by decide) hP_125
            have g := g.more hF_149
            refine lv_aload_n hx hb dX10_makeLeast_78 rfl (lv_at hl 6 rfl) ?_
            refine g_getk (C := RX10) (T := TX10) (N := 10) hx hb hts (mc_ inX10) hown hK g rfl 5 (by decide) rfl (hts _ (List.mem_cons_of_mem _ t_919)) (fun _ h9 => h9) 6 rfl dX10_makeLeast_79 ?_
            refine g_getk (C := RX4) (T := TX4) (N := 17) hx hb hts (mc_ inX4) hown hK g rfl 0 (by decide) rfl (hts _ (List.mem_cons_of_mem _ t_837)) (fun _ h9 => h9) 5 rfl dX10_makeLeast_82 ?_
            refine lv_iload_n hx hb dX10_makeLeast_85 rfl (lv_at hl 5 rfl) ?_
            refine lv_icmp_ne (tgt := 108) hx hb dX10_makeLeast_86 (by decide) (fun c_152 => ?_) (fun c_152 => ?_)
            · have fc_152 := neq_f c_152
              refine lv_iconst (v := 0) hx hb dX10_makeLeast_108 (by decide) ?_
              refine lv_istore (lv' := [(6, .int 0), (5, .int v28_5), (4, .int v28_4), (3, .int v28_3), (2, .int r_3), (1, .int x_2), (0, .ref a0_)]) hx hb dX10_makeLeast_109 hl (by decide) rfl (fun ls hl => ?_)
              have kb_1 : bd 1 1 (1 : Int32) := ⟨by decide, by decide⟩
              obtain ⟨y_153, ey_153⟩ : ∃ z : Int32, z = v28_4 + 1 := ⟨_, rfl⟩
              refine lv_iinc (v := y_153) (lv' := [(4, .int y_153), (6, .int 0), (5, .int v28_5), (3, .int v28_3), (2, .int r_3), (1, .int x_2), (0, .ref a0_)]) hx hb dX10_makeLeast_111 hl (k := 2) rfl (by rw [ey_153]; rfl) (by decide) rfl (fun ls hl => ?_)
              have ty_153 := add_bd ey_153 b_52 kb_1 (by decide)
              have b_154 : bd 1 70 y_153 := add_rg ty_153 b_52 kb_1 (by decide)
              refine lv_iload hx hb dX10_makeLeast_114 (lv_at hl 1 rfl) ?_
              refine lv_if_eq (tgt := 129) hx hb dX10_makeLeast_116 (by decide) (fun c_ => ?_) (fun c_ => absurd (by decide) c_)
              obtain ⟨y_155, ey_155⟩ : ∃ z : Int32, z = v28_5 + 1 := ⟨_, rfl⟩
              refine lv_iinc (v := y_155) (lv' := [(5, .int y_155), (4, .int y_153), (6, .int 0), (3, .int v28_3), (2, .int r_3), (1, .int x_2), (0, .ref a0_)]) hx hb dX10_makeLeast_129 hl (k := 2) rfl (by rw [ey_155]; rfl) (by decide) rfl (fun ls hl => ?_)
              have ty_155 := add_bd ey_155 b_29 kb_1 (by decide)
              have b_156 : bd 1 1000000 y_155 := add_rg ty_155 b_29 kb_1 (by decide)
              refine lv_goto (tgt := 28) hx hb dX10_makeLeast_132 (by decide) ?_
              have hl9 := lv_sub hl [0, 1, 3, 4, 5, 6] (by rfl : lv_pick [(5, .int y_155), (4, .int y_153), (6, .int 0), (3, .int v28_3), (2, .int r_3), (1, .int x_2), (0, .ref a0_)] [0, 1, 3, 4, 5, 6] = [(5, .int y_155), (4, .int y_153), (3, .int v28_3), (2, .int r_3), (1, .int x_2), (0, .ref a0_)])
              have g9 := g.sub (fx' := [(10, 0, a0_, .ref q0_)]) [17] rfl
              exact ih28  y_155 y_153 v28_3 (bd_sub b_156 (by decide)) (bd_sub b_154 (by decide)) (by have h9_0 := b_154; unfold bd at h9_0; have h9_1 := b_156; unfold bd at h9_1; have h9_2 := bdT v28_3; unfold bd at h9_2; have h9_3 := bv28_4; unfold bd at h9_3; have h9_4 := bv28_5; unfold bd at h9_4; have h9_5 := kb_0; unfold bd at h9_5; have h9_6 := kb_1; unfold bd at h9_6; have h9_7 := kb_1000000; unfold bd at h9_7; have h9_8 := kb_70; unfold bd at h9_8; omega) _ _ _ _ g9 hG_151 hG_150 hl9
            · have fc_152 := eq_f c_152
              have b_157 : bd (-1) 8 x_2 := eqX fc_152.symm (bdT x_2) h_148 (by decide)
              refine lv_aload_n hx hb dX10_makeLeast_89 rfl (lv_at hl 6 rfl) ?_
              refine g_getk (C := RX10) (T := TX10) (N := 10) hx hb hts (mc_ inX10) hown hK g rfl 5 (by decide) rfl (hts _ (List.mem_cons_of_mem _ t_919)) (fun _ h9 => h9) 6 rfl dX10_makeLeast_90 ?_
              refine lv_aload_n hx hb dX10_makeLeast_93 rfl (lv_at hl 6 rfl) ?_
              refine g_getk (C := RX10) (T := TX10) (N := 10) hx hb hts (mc_ inX10) hown hK g rfl 0 (by decide) rfl (hts _ (List.mem_cons_of_mem _ t_912)) (fun _ h9 => h9) 17 rfl dX10_makeLeast_94 ?_
              have go_ := g
              refine g_calli (va_runV (As := [.ref q0_]) (rest := []) ⟨hx, hb, hml, hown, hts⟩ (r_X4_brokenPlace l dC dI L kd tys fr_136 H.size g.2.2.2.1 a_135 ma_135 ka_135 q0_ mq0_ kq0_) (cwV 1 hts (gV_ t_1766 t_1767 t_1768 t_197 t_1769) rfl rfl rfl (by decide +kernel) ⟨(Nat.le_of_ble_eq_true rfl), (Nat.le_of_ble_eq_true rfl)⟩) (pre3V g hK ma_135 ka_135 (by decide) (q := (RX4, TX4, 17)) rfl) rfl rfl hl.1 rfl (lv_room (Nat.le_of_ble_eq_true rfl)) dX10_makeLeast_97 ⟨(Nat.le_of_ble_eq_true rfl), (Nat.le_of_ble_eq_true rfl)⟩) g hK (by decide) (by decide) (fx' := [(4, 14, a_135, .int x_137), (4, 4, a_135, .int x_139), (4, 3, a_135, .int x_141), (4, 2, a_135, .int x_143), (4, 1, a_135, .int x_145), (4, 0, a_135, .int x_147), (10, 5, a0_, .ref a_135), (3, 4, a_54, .int k1_67), (3, 0, a_54, .int n1_65), (3, 4, a_53, .int k_114), (3, 0, a_53, .int n_113), (3, 3, a_53, .ref p2_58), (3, 2, a_53, .ref m2_60), (3, 3, a_54, .ref p1_57), (3, 2, a_54, .ref m1_59), (10, 2, a0_, .ref a_54), (10, 3, a0_, .ref a_53), (10, 0, a0_, .ref q0_)]) rfl (fun r_158 fr_158 H locs hp hMr_158 g => ?_)
              have hG_159 := cOK.frame hMr_158 go_.2.2.2.1 mq0_ kq0_ (by decide) (by decide) hG_150
              have hG_160 := RP.frame hMr_158 go_.2.2.2.1 ma0_ ka0_ (by decide) (by decide) hG_151
              refine lv_iload_n hx hb dX10_makeLeast_100 rfl (lv_at hl 4 rfl) ?_
              refine lv_icmp_ne (tgt := 108) hx hb dX10_makeLeast_101 (by decide) (fun c_161 => ?_) (fun c_161 => ?_)
              · have fc_161 := neq_f c_161
                refine lv_iconst (v := 0) hx hb dX10_makeLeast_108 (by decide) ?_
                refine lv_istore (lv' := [(6, .int 0), (5, .int v28_5), (4, .int v28_4), (3, .int v28_3), (2, .int r_3), (1, .int x_2), (0, .ref a0_)]) hx hb dX10_makeLeast_109 hl (by decide) rfl (fun ls hl => ?_)
                have kb_1 : bd 1 1 (1 : Int32) := ⟨by decide, by decide⟩
                obtain ⟨y_162, ey_162⟩ : ∃ z : Int32, z = v28_4 + 1 := ⟨_, rfl⟩
                refine lv_iinc (v := y_162) (lv' := [(4, .int y_162), (6, .int 0), (5, .int v28_5), (3, .int v28_3), (2, .int r_3), (1, .int x_2), (0, .ref a0_)]) hx hb dX10_makeLeast_111 hl (k := 2) rfl (by rw [ey_162]; rfl) (by decide) rfl (fun ls hl => ?_)
                have ty_162 := add_bd ey_162 b_52 kb_1 (by decide)
                have b_163 : bd 1 70 y_162 := add_rg ty_162 b_52 kb_1 (by decide)
                refine lv_iload hx hb dX10_makeLeast_114 (lv_at hl 1 rfl) ?_
                refine lv_if_eq (tgt := 129) hx hb dX10_makeLeast_116 (by decide) (fun c_ => ?_) (fun c_ => absurd (by decide) c_)
                obtain ⟨y_164, ey_164⟩ : ∃ z : Int32, z = v28_5 + 1 := ⟨_, rfl⟩
                refine lv_iinc (v := y_164) (lv' := [(5, .int y_164), (4, .int y_162), (6, .int 0), (3, .int v28_3), (2, .int r_3), (1, .int x_2), (0, .ref a0_)]) hx hb dX10_makeLeast_129 hl (k := 2) rfl (by rw [ey_164]; rfl) (by decide) rfl (fun ls hl => ?_)
                have ty_164 := add_bd ey_164 b_29 kb_1 (by decide)
                have b_165 : bd 1 1000000 y_164 := add_rg ty_164 b_29 kb_1 (by decide)
                refine lv_goto (tgt := 28) hx hb dX10_makeLeast_132 (by decide) ?_
                have hl9 := lv_sub hl [0, 1, 3, 4, 5, 6] (by rfl : lv_pick [(5, .int y_164), (4, .int y_162), (6, .int 0), (3, .int v28_3), (2, .int r_3), (1, .int x_2), (0, .ref a0_)] [0, 1, 3, 4, 5, 6] = [(5, .int y_164), (4, .int y_162), (3, .int v28_3), (2, .int r_3), (1, .int x_2), (0, .ref a0_)])
                have g9 := g.sub (fx' := [(10, 0, a0_, .ref q0_)]) [17] rfl
                exact ih28  y_164 y_162 v28_3 (bd_sub b_165 (by decide)) (bd_sub b_163 (by decide)) (by have h9_0 := b_163; unfold bd at h9_0; have h9_1 := b_165; unfold bd at h9_1; have h9_2 := bdT v28_3; unfold bd at h9_2; have h9_3 := bv28_4; unfold bd at h9_3; have h9_4 := bv28_5; unfold bd at h9_4; have h9_5 := kb_0; unfold bd at h9_5; have h9_6 := kb_1; unfold bd at h9_6; have h9_7 := kb_1000000; unfold bd at h9_7; have h9_8 := kb_70; unfold bd at h9_8; omega) _ _ _ _ g9 hG_160 hG_159 hl9
              · have fc_161 := eq_f c_161
                refine lv_iconst (v := 1) hx hb dX10_makeLeast_104 (by decide) ?_
                refine lv_goto (tgt := 109) hx hb dX10_makeLeast_105 (by decide) ?_
                refine lv_istore (lv' := [(6, .int 1), (5, .int v28_5), (4, .int v28_4), (3, .int v28_3), (2, .int r_3), (1, .int x_2), (0, .ref a0_)]) hx hb dX10_makeLeast_109 hl (by decide) rfl (fun ls hl => ?_)
                have kb_1 : bd 1 1 (1 : Int32) := ⟨by decide, by decide⟩
                obtain ⟨y_166, ey_166⟩ : ∃ z : Int32, z = v28_4 + 1 := ⟨_, rfl⟩
                refine lv_iinc (v := y_166) (lv' := [(4, .int y_166), (6, .int 1), (5, .int v28_5), (3, .int v28_3), (2, .int r_3), (1, .int x_2), (0, .ref a0_)]) hx hb dX10_makeLeast_111 hl (k := 2) rfl (by rw [ey_166]; rfl) (by decide) rfl (fun ls hl => ?_)
                have ty_166 := add_bd ey_166 b_52 kb_1 (by decide)
                have b_167 : bd 1 70 y_166 := add_rg ty_166 b_52 kb_1 (by decide)
                refine lv_iload hx hb dX10_makeLeast_114 (lv_at hl 1 rfl) ?_
                refine lv_if_eq (tgt := 129) hx hb dX10_makeLeast_116 (by decide) (fun c_ => absurd c_ (by decide)) (fun c_ => ?_)
                refine lv_aload_n hx hb dX10_makeLeast_119 rfl (lv_at hl 6 rfl) ?_
                have go_ := g
                refine g_callv (va_runV (As := []) (rest := []) ⟨hx, hb, hml, hown, hts⟩ (r_X10_tellOfSpare l dC dI L kd tys fr_158 H.size g.2.2.2.1 a0_ ma0_ ka0_ hG_160) (cwV 0 hts (gV_ t_1703 t_1705 t_84 t_194 t_1706) rfl rfl rfl (by decide +kernel) ⟨(Nat.le_of_ble_eq_true rfl), (Nat.le_of_ble_eq_true rfl)⟩) (pre3V g hK ma0_ ka0_ (by decide) (q := (RX10, TX10, 10)) rfl) rfl rfl hl.1 rfl (lv_room (Nat.le_of_ble_eq_true rfl)) dX10_makeLeast_120 ⟨(Nat.le_of_ble_eq_true rfl), (Nat.le_of_ble_eq_true rfl)⟩) g hK (by decide) (by decide) (fx' := [(4, 14, a_135, .int x_137), (4, 4, a_135, .int x_139), (4, 3, a_135, .int x_141), (4, 2, a_135, .int x_143), (4, 1, a_135, .int x_145), (4, 0, a_135, .int x_147), (3, 4, a_54, .int k1_67), (3, 0, a_54, .int n1_65), (3, 4, a_53, .int k_114), (3, 0, a_53, .int n_113), (3, 3, a_53, .ref p2_58), (3, 2, a_53, .ref m2_60), (3, 3, a_54, .ref p1_57), (3, 2, a_54, .ref m1_59), (10, 0, a0_, .ref q0_)]) rfl (fun fr_168 H locs hp hMr_168 g => ?_)
                obtain ⟨hG_169, hF_170⟩ := hp
                have hG_171 := cOK.frame hMr_168 go_.2.2.2.1 mq0_ kq0_ (by decide) (by decide) hG_159
                have g := g.more hF_170
                obtain ⟨y_172, ey_172⟩ : ∃ z : Int32, z = v28_3 + 1 := ⟨_, rfl⟩
                refine lv_iinc (v := y_172) (lv' := [(3, .int y_172), (4, .int y_166), (6, .int 1), (5, .int v28_5), (2, .int r_3), (1, .int x_2), (0, .ref a0_)]) hx hb dX10_makeLeast_123 hl (k := 3) rfl (by rw [ey_172]; rfl) (by decide) rfl (fun ls hl => ?_)
                refine lv_iconst (v := 0) hx hb dX10_makeLeast_126 (by decide) ?_
                refine lv_istore (lv' := [(4, .int 0), (3, .int y_172), (6, .int 1), (5, .int v28_5), (2, .int r_3), (1, .int x_2), (0, .ref a0_)]) hx hb dX10_makeLeast_127 hl (by decide) rfl (fun ls hl => ?_)
                obtain ⟨y_173, ey_173⟩ : ∃ z : Int32, z = v28_5 + 1 := ⟨_, rfl⟩
                refine lv_iinc (v := y_173) (lv' := [(5, .int y_173), (4, .int 0), (3, .int y_172), (6, .int 1), (2, .int r_3), (1, .int x_2), (0, .ref a0_)]) hx hb dX10_makeLeast_129 hl (k := 3) rfl (by rw [ey_173]; rfl) (by decide) rfl (fun ls hl => ?_)
                have ty_173 := add_bd ey_173 b_29 kb_1 (by decide)
                have b_174 : bd 1 1000000 y_173 := add_rg ty_173 b_29 kb_1 (by decide)
                refine lv_goto (tgt := 28) hx hb dX10_makeLeast_132 (by decide) ?_
                have hl9 := lv_sub hl [0, 1, 2, 4, 5, 6] (by rfl : lv_pick [(5, .int y_173), (4, .int 0), (3, .int y_172), (6, .int 1), (2, .int r_3), (1, .int x_2), (0, .ref a0_)] [0, 1, 2, 4, 5, 6] = [(5, .int y_173), (4, .int 0), (3, .int y_172), (2, .int r_3), (1, .int x_2), (0, .ref a0_)])
                have g9 := g.sub (fx' := [(10, 0, a0_, .ref q0_)]) [15] rfl
                exact ih28  y_173 0 y_172 (bd_sub b_174 (by decide)) (bd_sub kb_0 (by decide)) (by have h9_0 := b_174; unfold bd at h9_0; have h9_1 := bdT v28_3; unfold bd at h9_1; have h9_2 := bdT y_172; unfold bd at h9_2; have h9_3 := bv28_4; unfold bd at h9_3; have h9_4 := bv28_5; unfold bd at h9_4; have h9_5 := kb_0; unfold bd at h9_5; have h9_6 := kb_1; unfold bd at h9_6; have h9_7 := kb_1000000; unfold bd at h9_7; have h9_8 := kb_70; unfold bd at h9_8; omega) _ _ _ _ g9 hG_169 hG_171 hl9
  have kb_0 : bd 0 0 (0 : Int32) := ⟨by decide, by decide⟩
  have hl9 := lv_sub hl [0, 1, 2, 3, 4, 5] (by rfl : lv_pick [(5, .int 0), (4, .int 0), (3, .int 0), (2, .int r_3), (1, .int x_2), (0, .ref a0_)] [0, 1, 2, 3, 4, 5] = [(5, .int 0), (4, .int 0), (3, .int 0), (2, .int r_3), (1, .int x_2), (0, .ref a0_)])
  have g9 := g.sub (fx' := [(10, 0, a0_, .ref q0_)]) [2] rfl
  exact loop_6 (2000003) 0 0 0 (bd_sub kb_0 (by decide)) (bd_sub kb_0 (by decide)) (by have h9_0 := kb_0; unfold bd at h9_0; omega) _ _ _ _ g9 hG_4 hG_5 hl9
set_option maxHeartbeats 4000000 in
set_option maxRecDepth 100000 in
theorem r_X11_shrink (l : Launch) (dC : Nat → ClassId) (dI : Nat → Nat → Nat) (L : List Nat) (kd : Nat → Nat) (tys : List (ClassId × FieldType)) (f0 : Nat → va_E) (sz : Nat) (hWT : WT L kd tys f0) (a0_ : Nat) (ma0_ : a0_ ∈ L) (ka0_ : kd a0_ = 11) (q0_ : Nat) (mq0_ : q0_ ∈ L) (kq0_ : kd q0_ = 10) (q1_ : Nat) (mq1_ : q1_ ∈ L) (kq1_ : kd q1_ = 7) (hGPq0_ : RP L kd f0 q0_) (hGcq1_ : cOK f0 q1_) (hfx : Fs L kd f0 [(11, 3, a0_, .ref q0_), (10, 0, q0_, .ref q1_)]) : Met l yX11_shrink (.code yX11_shrink cX11_shrink 1 (some .int) :: lw_g) ({ frames := 7, cells := 0, slots := 0, locals := 181 }) (va_Pc [.ref a0_] (P3 (dC, dI) L tys f0 sz)) (va_Qi (fun (r : Int32) (f : Nat → va_E) => (RP L kd f q0_ ∧ True)) (Q3 (dC, dI) L kd tys [(1, 0), (1, 1), (1, 2), (1, 3), (1, 4), (1, 5), (1, 6), (1, 8), (1, 11), (1, 12), (1, 13), (1, 14), (1, 15), (1, 16), (1, 17), (3, 0), (3, 4), (4, 0), (4, 1), (4, 2), (4, 3), (4, 4), (4, 5), (4, 6), (4, 14), (4, 15), (4, 16), (10, 2), (10, 3), (10, 4), (10, 5), (10, 8)] [100, 101, 102, 103, 116, 117, 122, 123, 125, 126, 127, 130, 131, 146] f0 sz) (pA L sz)) 0 0 (pA L sz) := by
  refine Met.ofW (cc := cX11_shrink) (maxL := 1) (ret := (some .int)) (by decide) rfl ?_
  intro p e s m args below meth c s₁ B hml hv
  obtain ⟨rfl, hsz, hP, hK, hD0⟩ := hv
  have hx := B.exec
  have hb := B.bytes
  have hr := B.returns
  have hts := atoms_spec (ws := (.code yX11_shrink cX11_shrink 1 (some .int) :: lw_g)) B.pre
  have hown : s.vm.findClass RX11 = some m.cls := findClass_of_methodNamed B.named
  have hlocks := B.notSynchronized
  subst hsz
  have g : G3 (dC, dI) L kd tys s f0 [(1, 0), (1, 1), (1, 2), (1, 3), (1, 4), (1, 5), (1, 6), (1, 8), (1, 11), (1, 12), (1, 13), (1, 14), (1, 15), (1, 16), (1, 17), (3, 0), (3, 4), (4, 0), (4, 1), (4, 2), (4, 3), (4, 4), (4, 5), (4, 6), (4, 14), (4, 15), (4, 16), (10, 2), (10, 3), (10, 4), (10, 5), (10, 8)] [100, 101, 102, 103, 116, 117, 122, 123, 125, 126, 127, 130, 131, 146] f0 s.heap [] [(11, 3, a0_, .ref q0_), (10, 0, q0_, .ref q1_)] := G3.start hP hD0 hWT hfx
  have hl := lv_entry ([.ref a0_]) (n := 1) (Nat.le_of_ble_eq_true rfl)
  rw [lg_entry_eq]
  generalize (lg_sl ([.ref a0_]) ++ List.replicate (1 - (lg_sl ([.ref a0_])).length) Slot.unset).toArray = ls at hl ⊢
  have hl : lv_has ls 1 [(0, .ref a0_)] := hl
  refine W_q (fun Q hQ => ?_)
  refine lv_aload_n hx hb dX11_shrink_0 rfl (lv_at hl 0 rfl) ?_
  refine g_getk (C := RX11) (T := TX11) (N := 8) hx hb hts (mc_ inX11) hown hK g rfl 3 (by decide) rfl (hts _ (List.mem_cons_of_mem _ t_951)) (fun _ h9 => h9) 0 rfl dX11_shrink_1 ?_
  refine g_geti (C := RX10) (T := TX10) (N := 10) hx hb hts (mc_ inX10) hown hK g mq0_ kq0_ (by decide) rfl 8 (by decide) rfl (hts _ (List.mem_cons_of_mem _ t_925)) (fun _ h9 => h9) rfl dX11_shrink_4 (fun x_1 bx_1 g => ?_)
  have kb_0 : bd 0 0 (0 : Int32) := ⟨by decide, by decide⟩
  refine lv_if_eq (tgt := 23) hx hb dX11_shrink_7 (by decide) (fun c_2 => ?_) (fun c_2 => ?_)
  · have fc_2 := eq_f c_2
    have b_3 : bd 0 0 x_1 := eqX fc_2 bx_1 kb_0 (by decide)
    refine lv_bipush (v := (-2)) hx hb dX11_shrink_23 (by decide) ?_
    subst hQ
    exact W.iret (v := (-2)) hx hb hr (fun t ht hW => ⟨⟨_, _, rfl, ⟨hGPq0_, trivial⟩, q3_of g hK ht hW⟩, g.2.2.1.F ht⟩) g.2.2.1.2.2 dX11_shrink_25
  · have fc_2 := neq_f c_2
    have b_4 : bd 1 1 x_1 := neX fc_2 bx_1 kb_0 (by decide)
    refine lv_aload_n hx hb dX11_shrink_10 rfl (lv_at hl 0 rfl) ?_
    refine g_getk (C := RX11) (T := TX11) (N := 8) hx hb hts (mc_ inX11) hown hK g rfl 3 (by decide) rfl (hts _ (List.mem_cons_of_mem _ t_951)) (fun _ h9 => h9) 1 rfl dX11_shrink_11 ?_
    refine g_getr (K := 4) (C := RX10) (T := TX10) (N := 10) hx hb hts (mc_ inX10) hown hK g mq0_ kq0_ (by decide) rfl 4 (by decide) rfl (hts _ (List.mem_cons_of_mem _ t_918)) (fun _ h9 => h9) rfl dX11_shrink_14 (fun a_5 ma_5 ka_5 g => ?_)
    refine g_geti (C := RX4) (T := TX4) (N := 17) hx hb hts (mc_ inX4) hown hK g ma_5 ka_5 (by decide) rfl 0 (by decide) rfl (hts _ (List.mem_cons_of_mem _ t_838)) (fun _ h9 => h9) rfl dX11_shrink_17 (fun x_6 bx_6 g => ?_)
    refine lv_if_gt (tgt := 26) hx hb dX11_shrink_20 (by decide) (fun c_7 => ?_) (fun c_7 => ?_)
    · have fc_7 := lt_f c_7
      have b_8 : bd 1 2147483647 x_6 := ltR fc_7 kb_0 (bdT x_6) (by decide)
      refine lv_aload_n hx hb dX11_shrink_26 rfl (lv_at hl 0 rfl) ?_
      refine g_getk (C := RX11) (T := TX11) (N := 8) hx hb hts (mc_ inX11) hown hK g rfl 3 (by decide) rfl (hts _ (List.mem_cons_of_mem _ t_951)) (fun _ h9 => h9) 3 rfl dX11_shrink_27 ?_
      have go_ := g
      refine g_calli (va_runV (As := []) (rest := []) ⟨hx, hb, hml, hown, hts⟩ (r_X10_makeLeast l dC dI L kd tys f0 s.heap.size g.2.2.2.1 q0_ mq0_ kq0_ q1_ mq1_ kq1_ hGPq0_ hGcq1_ (g.fcts [4] rfl)) (cwV 0 hts (gV_ t_1762 t_1763 t_1764 t_194 t_1765) rfl rfl rfl (by decide +kernel) ⟨(Nat.le_of_ble_eq_true rfl), (Nat.le_of_ble_eq_true rfl)⟩) (pre3V g hK mq0_ kq0_ (by decide) (q := (RX10, TX10, 10)) rfl) rfl rfl hl.1 rfl (lv_room (Nat.le_of_ble_eq_true rfl)) dX11_shrink_30 ⟨(Nat.le_of_ble_eq_true rfl), (Nat.le_of_ble_eq_true rfl)⟩) g hK (by decide) (by decide) (fx' := [(11, 3, a0_, .ref q0_), (10, 0, q0_, .ref q1_)]) rfl (fun r_9 fr_9 H locs hp hMr_9 g => ?_)
      obtain ⟨hG_10, -⟩ := hp
      have hG_11 := cOK.frame hMr_9 go_.2.2.2.1 mq1_ kq1_ (by decide) (by decide) hGcq1_
      subst hQ
      exact W.iret (v := r_9) hx hb hr (fun t ht hW => ⟨⟨_, _, rfl, ⟨hG_10, trivial⟩, q3_of g hK ht hW⟩, g.2.2.1.F ht⟩) g.2.2.1.2.2 dX11_shrink_33
    · have fc_7 := nlt_f c_7
      have b_12 : bd (-2147483648) 0 x_6 := leL fc_7 (bdT x_6) kb_0 (by decide)
      refine lv_bipush (v := (-2)) hx hb dX11_shrink_23 (by decide) ?_
      subst hQ
      exact W.iret (v := (-2)) hx hb hr (fun t ht hW => ⟨⟨_, _, rfl, ⟨hGPq0_, trivial⟩, q3_of g hK ht hW⟩, g.2.2.1.F ht⟩) g.2.2.1.2.2 dX11_shrink_25
