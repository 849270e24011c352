set_option maxHeartbeats 4000000 in
set_option maxRecDepth 100000 in
theorem r_X0_read (l : Launch) (dC : Nat → ClassId) (dI : Nat → Nat → Nat) (L : List Nat) (kd : Nat → Nat) (tys : List (ClassId × FieldType)) (f0 : Nat → va_E) (sz : Nat) (hWT : WT L kd tys f0) (a0_ : Nat) (ma0_ : a0_ ∈ L) (ka0_ : kd a0_ = 0) (q0_ : Nat) (mq0_ : q0_ ∈ L) (kq0_ : kd q0_ = 8) (q1_ : Nat) (mq1_ : q1_ ∈ L) (kq1_ : kd q1_ = 5) (q2_ : Nat) (mq2_ : q2_ ∈ L) (kq2_ : kd q2_ = 7) (q3_ : Nat) (mq3_ : q3_ ∈ L) (kq3_ : kd q3_ = 9) (y0_ : Int32) (by0_ : bd 0 0 y0_) (hGea0_ : eOK f0 a0_) (hfx : Fs L kd f0 [(0, 0, a0_, .ref q0_), (0, 1, a0_, .ref q1_), (5, 0, q1_, .ref q2_), (5, 1, q1_, .ref q3_), (8, 8, q0_, .int y0_)]) : Met l yX0_read (.code yX0_read cX0_read 3 none :: lw_g) ({ frames := 3, cells := 0, slots := 0, locals := 75 }) (va_Pc [.ref a0_] (P3 (dC, dI) L tys f0 sz)) (va_Qv (fun (f : Nat → va_E) => (eOK f a0_ ∧ ∃ z1_ : Int32, bd 0 0 z1_ ∧ Fs L kd f [(0, 2, a0_, .ref q2_), (8, 8, q0_, .int z1_)]) ∨ (eOK f a0_ ∧ ∃ z0_ : Int32, bd 1201 1201 z0_ ∧ ∃ z1_ : Int32, bd 1 7 z1_ ∧ Fs L kd f [(8, 6, q0_, .int z0_), (8, 8, q0_, .int z1_), (0, 2, a0_, .ref q2_)])) (Q3 (dC, dI) L kd tys [(0, 2), (0, 8), (0, 10), (0, 11), (0, 12), (0, 13), (7, 6), (7, 18), (8, 6), (8, 8), (8, 9)] [110, 111, 112, 113, 114, 115, 138, 139] f0 sz) (pA L sz)) 0 0 (pA L sz) := by
  refine Met.ofW (cc := cX0_read) (maxL := 3) (ret := none) (by decide) rfl ?_
  intro p e s m args below meth c s₁ B hml hv
  obtain ⟨rfl, hsz, hP, hK, hD0⟩ := hv
  have hx := B.exec
  have hb := B.bytes
  have hr := B.returns
  have hts := atoms_spec (ws := (.code yX0_read cX0_read 3 none :: lw_g)) B.pre
  have hown : s.vm.findClass RX0 = some m.cls := findClass_of_methodNamed B.named
  have hlocks := B.notSynchronized
  subst hsz
  have g : G3 (dC, dI) L kd tys s f0 [(0, 2), (0, 8), (0, 10), (0, 11), (0, 12), (0, 13), (7, 6), (7, 18), (8, 6), (8, 8), (8, 9)] [110, 111, 112, 113, 114, 115, 138, 139] f0 s.heap [] [(0, 0, a0_, .ref q0_), (0, 1, a0_, .ref q1_), (5, 0, q1_, .ref q2_), (5, 1, q1_, .ref q3_), (8, 8, q0_, .int y0_)] := G3.start hP hD0 hWT hfx
  have hl := lv_entry ([.ref a0_]) (n := 3) (Nat.le_of_ble_eq_true rfl)
  rw [lg_entry_eq]
  generalize (lg_sl ([.ref a0_]) ++ List.replicate (3 - (lg_sl ([.ref a0_])).length) Slot.unset).toArray = ls at hl ⊢
  have hl : lv_has ls 3 [(0, .ref a0_)] := hl
  refine W_q (fun Q hQ => ?_)
  refine lv_aload_n hx hb dX0_read_0 rfl (lv_at hl 0 rfl) ?_
  refine lv_aload_n hx hb dX0_read_1 rfl (lv_at hl 0 rfl) ?_
  refine g_getk (C := RX0) (T := TX0) (N := 14) hx hb hts (mc_ inX0) hown hK g rfl 1 (by decide) rfl (hts _ (List.mem_cons_of_mem _ t_374)) (fun _ h9 => h9) 1 rfl dX0_read_2 ?_
  refine g_getk (C := RX5) (T := TX5) (N := 9) hx hb hts (mc_ inX5) hown hK g rfl 0 (by decide) rfl (hts _ (List.mem_cons_of_mem _ t_328)) (fun _ h9 => h9) 2 rfl dX0_read_5 ?_
  have go_ := g
  refine g_put (C := RX0) (T := TX0) (N := 14) hx hb hts (mc_ inX0) tyX0 tyX0_ok nmX0 hown hK g ma0_ ka0_ (by decide) rfl 2 (by decide) (hts _ (List.mem_cons_of_mem _ t_375)) (fun _ h9 => h9) rfl rfl (okV_n mq2_ kq2_ (by decide)) rfl rfl (by decide) (Or.inr (Or.inl (by decide))) (fx' := [(0, 0, a0_, .ref q0_), (0, 1, a0_, .ref q1_), (5, 0, q1_, .ref q2_), (5, 1, q1_, .ref q3_), (8, 8, q0_, .int y0_)]) rfl dX0_read_8 (fun f H locs hM_1 g => ?_)
  have hG_2 := eOK.frame hM_1 go_.2.2.2.1 ma0_ ka0_ (by decide) (by decide) hGea0_
  refine lv_aload_n hx hb dX0_read_11 rfl (lv_at hl 0 rfl) ?_
  refine lv_iconst (v := 0) hx hb dX0_read_12 (by decide) ?_
  have kb_0 : bd 0 0 (0 : Int32) := ⟨by decide, by decide⟩
  have go_ := g
  refine g_put (C := RX0) (T := TX0) (N := 14) hx hb hts (mc_ inX0) tyX0 tyX0_ok nmX0 hown hK g ma0_ ka0_ (by decide) rfl 8 (by decide) (hts _ (List.mem_cons_of_mem _ t_381)) (fun _ h9 => h9) rfl rfl (okV_i (bd_sub kb_0 (by decide))) rfl rfl (by decide) (Or.inr (Or.inl (by decide))) (fx' := [(0, 2, a0_, .ref q2_), (0, 0, a0_, .ref q0_), (0, 1, a0_, .ref q1_), (5, 0, q1_, .ref q2_), (5, 1, q1_, .ref q3_), (8, 8, q0_, .int y0_)]) rfl dX0_read_13 (fun f H locs hM_3 g => ?_)
  have hG_4 := eOK.frame hM_3 go_.2.2.2.1 ma0_ ka0_ (by decide) (by decide) hG_2
  refine lv_aload_n hx hb dX0_read_16 rfl (lv_at hl 0 rfl) ?_
  refine lv_iconst (v := 0) hx hb dX0_read_17 (by decide) ?_
  have go_ := g
  refine g_put (C := RX0) (T := TX0) (N := 14) hx hb hts (mc_ inX0) tyX0 tyX0_ok nmX0 hown hK g ma0_ ka0_ (by decide) rfl 10 (by decide) (hts _ (List.mem_cons_of_mem _ t_383)) (fun _ h9 => h9) rfl rfl (okV_i (bd_sub kb_0 (by decide))) rfl rfl (by decide) (Or.inr (Or.inl (by decide))) (fx' := [(0, 8, a0_, .int 0), (0, 2, a0_, .ref q2_), (0, 0, a0_, .ref q0_), (0, 1, a0_, .ref q1_), (5, 0, q1_, .ref q2_), (5, 1, q1_, .ref q3_), (8, 8, q0_, .int y0_)]) rfl dX0_read_18 (fun f H locs hM_5 g => ?_)
  have hG_6 := eOK.frame hM_5 go_.2.2.2.1 ma0_ ka0_ (by decide) (by decide) hG_4
  refine lv_aload_n hx hb dX0_read_21 rfl (lv_at hl 0 rfl) ?_
  refine lv_iconst (v := 0) hx hb dX0_read_22 (by decide) ?_
  have go_ := g
  refine g_put (C := RX0) (T := TX0) (N := 14) hx hb hts (mc_ inX0) tyX0 tyX0_ok nmX0 hown hK g ma0_ ka0_ (by decide) rfl 11 (by decide) (hts _ (List.mem_cons_of_mem _ t_384)) (fun _ h9 => h9) rfl rfl (okV_i (bd_sub kb_0 (by decide))) rfl rfl (by decide) (Or.inr (Or.inl (by decide))) (fx' := [(0, 10, a0_, .int 0), (0, 8, a0_, .int 0), (0, 2, a0_, .ref q2_), (0, 0, a0_, .ref q0_), (0, 1, a0_, .ref q1_), (5, 0, q1_, .ref q2_), (5, 1, q1_, .ref q3_), (8, 8, q0_, .int y0_)]) rfl dX0_read_23 (fun f H locs hM_7 g => ?_)
  have hG_8 := eOK.frame hM_7 go_.2.2.2.1 ma0_ ka0_ (by decide) (by decide) hG_6
  refine lv_aload_n hx hb dX0_read_26 rfl (lv_at hl 0 rfl) ?_
  refine lv_iconst (v := 1) hx hb dX0_read_27 (by decide) ?_
  have kb_1 : bd 1 1 (1 : Int32) := ⟨by decide, by decide⟩
  have go_ := g
  refine g_put (C := RX0) (T := TX0) (N := 14) hx hb hts (mc_ inX0) tyX0 tyX0_ok nmX0 hown hK g ma0_ ka0_ (by decide) rfl 12 (by decide) (hts _ (List.mem_cons_of_mem _ t_385)) (fun _ h9 => h9) rfl rfl (okV_i (bd_sub kb_1 (by decide))) rfl rfl (by decide) (Or.inr (Or.inl (by decide))) (fx' := [(0, 11, a0_, .int 0), (0, 10, a0_, .int 0), (0, 8, a0_, .int 0), (0, 2, a0_, .ref q2_), (0, 0, a0_, .ref q0_), (0, 1, a0_, .ref q1_), (5, 0, q1_, .ref q2_), (5, 1, q1_, .ref q3_), (8, 8, q0_, .int y0_)]) rfl dX0_read_28 (fun f H locs hM_9 g => ?_)
  have hG_10 := eOK.frame hM_9 go_.2.2.2.1 ma0_ ka0_ (by decide) (by decide) hG_8
  refine lv_aload_n hx hb dX0_read_31 rfl (lv_at hl 0 rfl) ?_
  refine lv_iconst (v := 0) hx hb dX0_read_32 (by decide) ?_
  have go_ := g
  refine g_put (C := RX0) (T := TX0) (N := 14) hx hb hts (mc_ inX0) tyX0 tyX0_ok nmX0 hown hK g ma0_ ka0_ (by decide) rfl 13 (by decide) (hts _ (List.mem_cons_of_mem _ t_386)) (fun _ h9 => h9) rfl rfl (okV_i (bd_sub kb_0 (by decide))) rfl rfl (by decide) (Or.inr (Or.inl (by decide))) (fx' := [(0, 12, a0_, .int 1), (0, 11, a0_, .int 0), (0, 10, a0_, .int 0), (0, 8, a0_, .int 0), (0, 2, a0_, .ref q2_), (0, 0, a0_, .ref q0_), (0, 1, a0_, .ref q1_), (5, 0, q1_, .ref q2_), (5, 1, q1_, .ref q3_), (8, 8, q0_, .int y0_)]) rfl dX0_read_33 (fun f H locs hM_11 g => ?_)
  have hG_12 := eOK.frame hM_11 go_.2.2.2.1 ma0_ ka0_ (by decide) (by decide) hG_10
  refine lv_iconst (v := 0) hx hb dX0_read_36 (by decide) ?_
  refine lv_istore_n (lv' := [(1, .int 0), (0, .ref a0_)]) hx hb dX0_read_37 rfl hl (by decide) rfl (fun ls hl => ?_)
  have loop_13 : ∀ (n : Nat) (v38_1 : Int32) (w38_8_8_q0_ : Int32), bd 0 2401 v38_1 → bd 0 0 w38_8_8_q0_ → (2401 - v38_1.toInt < (n : Int)) → ∀ (f : Nat → va_E) (H : Heap) (locs : List Loc) (ls : Array Slot), G3 (dC, dI) L kd tys s f0 [(0, 2), (0, 8), (0, 10), (0, 11), (0, 12), (0, 13), (7, 6), (7, 18), (8, 6), (8, 8), (8, 9)] [110, 111, 112, 113, 114, 115, 138, 139] f H locs [(0, 2, a0_, .ref q2_), (0, 0, a0_, .ref q0_), (0, 1, a0_, .ref q1_), (5, 0, q1_, .ref q2_), (5, 1, q1_, .ref q3_), (8, 8, q0_, .int w38_8_8_q0_)] → eOK f a0_ → lv_has ls 3 [(1, .int v38_1), (0, .ref a0_)] → W p l e ({ frames := 3, cells := 0, slots := 0, locals := 75 } : Room) s m [.ref a0_].toArray below meth c H locs 0 0 Q (F0 m 38 ls []) := by
    intro n38
    induction n38 with
    | zero =>
      intro v38_1 w38_8_8_q0_ bv38_1 bw38_8_8_q0_ hm38 f H locs ls g hG38_e_a0_ hl
      exact absurd hm38 (by have h9_v38_1 := bv38_1; unfold bd at h9_v38_1; have h9_w38_8_8_q0_ := bw38_8_8_q0_; unfold bd at h9_w38_8_8_q0_; omega)
    | succ n38 ih38 =>
      intro v38_1 w38_8_8_q0_ bv38_1 bw38_8_8_q0_ hm38 f H locs ls g hG38_e_a0_ hl
      refine lv_iload_n hx hb dX0_read_38 rfl (lv_at hl 0 rfl) ?_
      refine lv_sipush (v := 2400) hx hb dX0_read_39 (by decide) ?_
      have kb_2400 : bd 2400 2400 (2400 : Int32) := ⟨by decide, by decide⟩
      refine lv_icmp_gt (tgt := 228) hx hb dX0_read_42 (by decide) (fun c_14 => ?_) (fun c_14 => ?_)
      · have fc_14 := lt_f c_14
        have b_15 : bd 2401 2401 v38_1 := ltR fc_14 kb_2400 bv38_1 (by decide)
        subst hQ
        exact W.vret hx hb hr (fun t ht hW => ⟨⟨_, rfl, Or.inl ⟨hG38_e_a0_, w38_8_8_q0_, bw38_8_8_q0_, (g.fcts [0, 5] rfl)⟩, q3_of g hK ht hW⟩, g.2.2.1.F ht⟩) g.2.2.1.2.2 dX0_read_228
      · have fc_14 := nlt_f c_14
        have b_16 : bd 0 2400 v38_1 := leL fc_14 bv38_1 kb_2400 (by decide)
        refine lv_aload_n hx hb dX0_read_45 rfl (lv_at hl 1 rfl) ?_
        refine g_geti (C := RX0) (T := TX0) (N := 14) hx hb hts (mc_ inX0) hown hK g ma0_ ka0_ (by decide) rfl 13 (by decide) rfl (hts _ (List.mem_cons_of_mem _ t_386)) (fun _ h9 => h9) rfl dX0_read_46 (fun x_17 bx_17 g => ?_)
        refine lv_if_ne (tgt := 228) hx hb dX0_read_49 (by decide) (fun c_18 => ?_) (fun c_18 => ?_)
        · have fc_18 := neq_f c_18
          have b_19 : bd 1 1 x_17 := neX fc_18 bx_17 kb_0 (by decide)
          subst hQ
          exact W.vret hx hb hr (fun t ht hW => ⟨⟨_, rfl, Or.inl ⟨hG38_e_a0_, w38_8_8_q0_, bw38_8_8_q0_, (g.fcts [1, 6] rfl)⟩, q3_of g hK ht hW⟩, g.2.2.1.F ht⟩) g.2.2.1.2.2 dX0_read_228
        · have fc_18 := eq_f c_18
          have b_20 : bd 0 0 x_17 := eqX fc_18 bx_17 kb_0 (by decide)
          refine lv_aload_n hx hb dX0_read_52 rfl (lv_at hl 1 rfl) ?_
          refine g_getk (C := RX0) (T := TX0) (N := 14) hx hb hts (mc_ inX0) hown hK g rfl 0 (by decide) rfl (hts _ (List.mem_cons_of_mem _ t_373)) (fun _ h9 => h9) 2 rfl dX0_read_53 ?_
          refine g_getk (C := RX8) (T := TX8) (N := 10) hx hb hts (mc_ inX8) hown hK g rfl 8 (by decide) rfl (hts _ (List.mem_cons_of_mem _ t_293)) (fun _ h9 => h9) 6 rfl dX0_read_56 ?_
          refine lv_if_ne (tgt := 228) hx hb dX0_read_59 (by decide) (fun c_21 => ?_) (fun c_21 => ?_)
          · have fc_21 := neq_f c_21
            have b_22 : bd 1 (-1) w38_8_8_q0_ := neX fc_21 bw38_8_8_q0_ kb_0 (by decide)
            exact bd_no b_22 (by decide)
          · have fc_21 := eq_f c_21
            refine lv_aload_n hx hb dX0_read_62 rfl (lv_at hl 1 rfl) ?_
            refine g_getk (C := RX0) (T := TX0) (N := 14) hx hb hts (mc_ inX0) hown hK g rfl 0 (by decide) rfl (hts _ (List.mem_cons_of_mem _ t_373)) (fun _ h9 => h9) 2 rfl dX0_read_63 ?_
            have go_ := g
            refine g_calli (va_runV (As := []) (rest := []) ⟨hx, hb, hml, hown, hts⟩ (r_X8_kind l dC dI L kd tys f H.size g.2.2.2.1 q0_ mq0_ kq0_) (cwV 0 hts (gV_ t_1186 t_1119 t_1120 t_184 t_1121) rfl rfl rfl (by decide +kernel) ⟨(Nat.le_of_ble_eq_true rfl), (Nat.le_of_ble_eq_true rfl)⟩) (pre3V g hK mq0_ kq0_ (by decide) (q := (RX8, TX8, 10)) rfl) rfl rfl hl.1 rfl (lv_room (Nat.le_of_ble_eq_true rfl)) dX0_read_66 ⟨(Nat.le_of_ble_eq_true rfl), (Nat.le_of_ble_eq_true rfl)⟩) g hK (by decide) (by decide) (fx' := [(0, 13, a0_, .int x_17), (0, 2, a0_, .ref q2_), (0, 0, a0_, .ref q0_), (0, 1, a0_, .ref q1_), (5, 0, q1_, .ref q2_), (5, 1, q1_, .ref q3_), (8, 8, q0_, .int w38_8_8_q0_)]) rfl (fun r_23 fr_23 H locs hp hMr_23 g => ?_)
            have hG_24 := eOK.frame hMr_23 go_.2.2.2.1 ma0_ ka0_ (by decide) (by decide) hG38_e_a0_
            refine lv_istore_n (lv' := [(2, .int r_23), (1, .int v38_1), (0, .ref a0_)]) hx hb dX0_read_69 rfl hl (by decide) rfl (fun ls hl => ?_)
            refine lv_aload_n hx hb dX0_read_70 rfl (lv_at hl 2 rfl) ?_
            refine g_geti (C := RX0) (T := TX0) (N := 14) hx hb hts (mc_ inX0) hown hK g ma0_ ka0_ (by decide) rfl 12 (by decide) rfl (hts _ (List.mem_cons_of_mem _ t_385)) (fun _ h9 => h9) rfl dX0_read_71 (fun x_25 bx_25 g => ?_)
            refine lv_if_ne (tgt := 85) hx hb dX0_read_74 (by decide) (fun c_26 => ?_) (fun c_26 => ?_)
            · have fc_26 := neq_f c_26
              have b_27 : bd 1 1 x_25 := neX fc_26 bx_25 kb_0 (by decide)
              refine lv_iload_n hx hb dX0_read_85 rfl (lv_at hl 0 rfl) ?_
              refine lv_iconst (v := 3) hx hb dX0_read_86 (by decide) ?_
              have kb_3 : bd 3 3 (3 : Int32) := ⟨by decide, by decide⟩
              refine lv_icmp_ne (tgt := 97) hx hb dX0_read_87 (by decide) (fun c_28 => ?_) (fun c_28 => ?_)
              · have fc_28 := neq_f c_28
                refine lv_iload_n hx hb dX0_read_97 rfl (lv_at hl 0 rfl) ?_
                refine lv_iconst (v := 4) hx hb dX0_read_98 (by decide) ?_
                have kb_4 : bd 4 4 (4 : Int32) := ⟨by decide, by decide⟩
                refine lv_icmp_ne (tgt := 109) hx hb dX0_read_99 (by decide) (fun c_29 => ?_) (fun c_29 => ?_)
                · have fc_29 := neq_f c_29
                  refine lv_iload_n hx hb dX0_read_109 rfl (lv_at hl 0 rfl) ?_
                  refine lv_bipush (v := 40) hx hb dX0_read_110 (by decide) ?_
                  have kb_40 : bd 40 40 (40 : Int32) := ⟨by decide, by decide⟩
                  refine lv_icmp_eq (tgt := 127) hx hb dX0_read_112 (by decide) (fun c_30 => ?_) (fun c_30 => ?_)
                  · have fc_30 := eq_f c_30
                    have b_31 : bd 40 40 r_23 := eqX fc_30 (bdT r_23) kb_40 (by decide)
                    refine lv_aload_n hx hb dX0_read_127 rfl (lv_at hl 2 rfl) ?_
                    refine lv_iload_n hx hb dX0_read_128 rfl (lv_at hl 0 rfl) ?_
                    have go_ := g
                    refine g_callv (va_runV (As := [.int r_23]) (rest := []) ⟨hx, hb, hml, hown, hts⟩ (r_X0_openSign_2 l dC dI L kd tys fr_23 H.size g.2.2.2.1 a0_ ma0_ ka0_ r_23 q0_ mq0_ kq0_ q2_ mq2_ kq2_ w38_8_8_q0_ bw38_8_8_q0_ hG_24 (g.fcts [3, 2, 7] rfl)) (cwV 1 hts (gV_ t_1272 t_1274 t_26 t_190 t_1275) rfl rfl rfl (by decide +kernel) ⟨(Nat.le_of_ble_eq_true rfl), (Nat.le_of_ble_eq_true rfl)⟩) (pre3V g hK ma0_ ka0_ (by decide) (q := (RX0, TX0, 14)) rfl) rfl rfl hl.1 rfl (lv_room (Nat.le_of_ble_eq_true rfl)) dX0_read_129 ⟨(Nat.le_of_ble_eq_true rfl), (Nat.le_of_ble_eq_true rfl)⟩) g hK (by decide) (by decide) (fx' := [(0, 12, a0_, .int x_25), (0, 13, a0_, .int x_17), (0, 2, a0_, .ref q2_), (0, 0, a0_, .ref q0_), (0, 1, a0_, .ref q1_), (5, 0, q1_, .ref q2_), (5, 1, q1_, .ref q3_)]) rfl (fun fr_32 H locs hp hMr_32 g => ?_)
                    rcases hp with ⟨hG_33, x_34, h_35, x_36, h_37, x_38, h_39, x_40, h_41, hF_42⟩ | ⟨hG_43, x_44, h_45, x_46, h_47, hF_48⟩
                    · have g := g.more hF_42
                      refine lv_goto (tgt := 222) hx hb dX0_read_132 (by decide) ?_
                      obtain ⟨y_49, ey_49⟩ : ∃ z : Int32, z = v38_1 + 1 := ⟨_, rfl⟩
                      refine lv_iinc (v := y_49) (lv' := [(1, .int y_49), (2, .int r_23), (0, .ref a0_)]) hx hb dX0_read_222 hl (k := 1) rfl (by rw [ey_49]; rfl) (by decide) rfl (fun ls hl => ?_)
                      have ty_49 := add_bd ey_49 b_16 kb_1 (by decide)
                      have b_50 : bd 1 2401 y_49 := add_rg ty_49 b_16 kb_1 (by decide)
                      refine lv_goto (tgt := 38) hx hb dX0_read_225 (by decide) ?_
                      have hl9 := lv_sub hl [0, 2] (by rfl : lv_pick [(1, .int y_49), (2, .int r_23), (0, .ref a0_)] [0, 2] = [(1, .int y_49), (0, .ref a0_)])
                      have g9 := g.sub (fx' := [(0, 2, a0_, .ref q2_), (0, 0, a0_, .ref q0_), (0, 1, a0_, .ref q1_), (5, 0, q1_, .ref q2_), (5, 1, q1_, .ref q3_), (8, 8, q0_, .int x_40)]) [6, 7, 8, 9, 10, 3] rfl
                      exact ih38  y_49 x_40 (bd_sub b_50 (by decide)) h_41 (by have h9_0 := b_27; unfold bd at h9_0; have h9_1 := b_50; unfold bd at h9_1; have h9_2 := bv38_1; unfold bd at h9_2; have h9_3 := bw38_8_8_q0_; unfold bd at h9_3; have h9_4 := h_37; unfold bd at h9_4; have h9_5 := h_39; unfold bd at h9_5; have h9_6 := h_41; unfold bd at h9_6; have h9_7 := kb_0; unfold bd at h9_7; have h9_8 := kb_1; unfold bd at h9_8; have h9_9 := kb_2400; unfold bd at h9_9; have h9_10 := kb_3; unfold bd at h9_10; have h9_11 := kb_4; unfold bd at h9_11; have h9_12 := kb_40; unfold bd at h9_12; omega) _ _ _ _ g9 hG_33 hl9
                    · have g := g.more hF_48
                      refine lv_goto (tgt := 222) hx hb dX0_read_132 (by decide) ?_
                      obtain ⟨y_51, ey_51⟩ : ∃ z : Int32, z = v38_1 + 1 := ⟨_, rfl⟩
                      refine lv_iinc (v := y_51) (lv' := [(1, .int y_51), (2, .int r_23), (0, .ref a0_)]) hx hb dX0_read_222 hl (k := 1) rfl (by rw [ey_51]; rfl) (by decide) rfl (fun ls hl => ?_)
                      have ty_51 := add_bd ey_51 b_16 kb_1 (by decide)
                      have b_52 : bd 1 2401 y_51 := add_rg ty_51 b_16 kb_1 (by decide)
                      refine lv_goto (tgt := 38) hx hb dX0_read_225 (by decide) ?_
                      refine lv_iload_n hx hb dX0_read_38 rfl (lv_at hl 0 rfl) ?_
                      refine lv_sipush (v := 2400) hx hb dX0_read_39 (by decide) ?_
                      refine lv_icmp_gt (tgt := 228) hx hb dX0_read_42 (by decide) (fun c_53 => ?_) (fun c_53 => ?_)
                      · have fc_53 := lt_f c_53
                        have b_54 : bd 2401 2401 y_51 := ltR fc_53 kb_2400 b_52 (by decide)
                        have b_55 : bd 2400 2400 v38_1 := add_inv ty_51 b_54 b_16 kb_1 (by decide)
                        have kb_1201 : bd 1201 1201 (1201 : Int32) := ⟨by decide, by decide⟩
                        subst hQ
                        exact W.vret hx hb hr (fun t ht hW => ⟨⟨_, rfl, Or.inr (⟨hG_43, 1201, kb_1201, x_46, h_47, (g.fcts [1, 2, 5] rfl)⟩), q3_of g hK ht hW⟩, g.2.2.1.F ht⟩) g.2.2.1.2.2 dX0_read_228
                      · have fc_53 := nlt_f c_53
                        have b_56 : bd 1 2400 y_51 := leL fc_53 b_52 kb_2400 (by decide)
                        have b_57 : bd 0 2399 v38_1 := add_inv ty_51 b_56 b_16 kb_1 (by decide)
                        refine lv_aload_n hx hb dX0_read_45 rfl (lv_at hl 2 rfl) ?_
                        refine g_getk (C := RX0) (T := TX0) (N := 14) hx hb hts (mc_ inX0) hown hK g rfl 13 (by decide) rfl (hts _ (List.mem_cons_of_mem _ t_386)) (fun _ h9 => h9) 4 rfl dX0_read_46 ?_
                        refine lv_if_ne (tgt := 228) hx hb dX0_read_49 (by decide) (fun c_58 => ?_) (fun c_58 => ?_)
                        · have fc_58 := neq_f c_58
                          have b_59 : bd 1 (-1) x_17 := neX fc_58 b_20 kb_0 (by decide)
                          exact bd_no b_59 (by decide)
                        · have fc_58 := eq_f c_58
                          refine lv_aload_n hx hb dX0_read_52 rfl (lv_at hl 2 rfl) ?_
                          refine g_getk (C := RX0) (T := TX0) (N := 14) hx hb hts (mc_ inX0) hown hK g rfl 0 (by decide) rfl (hts _ (List.mem_cons_of_mem _ t_373)) (fun _ h9 => h9) 6 rfl dX0_read_53 ?_
                          refine g_getk (C := RX8) (T := TX8) (N := 10) hx hb hts (mc_ inX8) hown hK g rfl 8 (by decide) rfl (hts _ (List.mem_cons_of_mem _ t_293)) (fun _ h9 => h9) 2 rfl dX0_read_56 ?_
                          refine lv_if_ne (tgt := 228) hx hb dX0_read_59 (by decide) (fun c_60 => ?_) (fun c_60 => ?_)
                          · have fc_60 := neq_f c_60
                            have kb_1201 : bd 1201 1201 (1201 : Int32) := ⟨by decide, by decide⟩
                            subst hQ
                            exact W.vret hx hb hr (fun t ht hW => ⟨⟨_, rfl, Or.inr (⟨hG_43, 1201, kb_1201, x_46, h_47, (g.fcts [1, 2, 5] rfl)⟩), q3_of g hK ht hW⟩, g.2.2.1.F ht⟩) g.2.2.1.2.2 dX0_read_228
                          · have fc_60 := eq_f c_60
                            have b_61 : bd 1 0 x_46 := eqX fc_60 h_47 kb_0 (by decide)
                            exact bd_no b_61 (by decide)
                  · have fc_30 := neq_f c_30
                    refine lv_iload_n hx hb dX0_read_115 rfl (lv_at hl 0 rfl) ?_
                    refine lv_bipush (v := 45) hx hb dX0_read_116 (by decide) ?_
                    have kb_45 : bd 45 45 (45 : Int32) := ⟨by decide, by decide⟩
                    refine lv_icmp_eq (tgt := 127) hx hb dX0_read_118 (by decide) (fun c_62 => ?_) (fun c_62 => ?_)
                    · have fc_62 := eq_f c_62
                      have b_63 : bd 45 45 r_23 := eqX fc_62 (bdT r_23) kb_45 (by decide)
                      refine lv_aload_n hx hb dX0_read_127 rfl (lv_at hl 2 rfl) ?_
                      refine lv_iload_n hx hb dX0_read_128 rfl (lv_at hl 0 rfl) ?_
                      have go_ := g
                      refine g_callv (va_runV (As := [.int r_23]) (rest := []) ⟨hx, hb, hml, hown, hts⟩ (r_X0_openSign_2 l dC dI L kd tys fr_23 H.size g.2.2.2.1 a0_ ma0_ ka0_ r_23 q0_ mq0_ kq0_ q2_ mq2_ kq2_ w38_8_8_q0_ bw38_8_8_q0_ hG_24 (g.fcts [3, 2, 7] rfl)) (cwV 1 hts (gV_ t_1272 t_1274 t_26 t_190 t_1275) rfl rfl rfl (by decide +kernel) ⟨(Nat.le_of_ble_eq_true rfl), (Nat.le_of_ble_eq_true rfl)⟩) (pre3V g hK ma0_ ka0_ (by decide) (q := (RX0, TX0, 14)) rfl) rfl rfl hl.1 rfl (lv_room (Nat.le_of_ble_eq_true rfl)) dX0_read_129 ⟨(Nat.le_of_ble_eq_true rfl), (Nat.le_of_ble_eq_true rfl)⟩) g hK (by decide) (by decide) (fx' := [(0, 12, a0_, .int x_25), (0, 13, a0_, .int x_17), (0, 2, a0_, .ref q2_), (0, 0, a0_, .ref q0_), (0, 1, a0_, .ref q1_), (5, 0, q1_, .ref q2_), (5, 1, q1_, .ref q3_)]) rfl (fun fr_64 H locs hp hMr_64 g => ?_)
                      rcases hp with ⟨hG_65, x_66, h_67, x_68, h_69, x_70, h_71, x_72, h_73, hF_74⟩ | ⟨hG_75, x_76, h_77, x_78, h_79, hF_80⟩
                      · have g := g.more hF_74
                        refine lv_goto (tgt := 222) hx hb dX0_read_132 (by decide) ?_
                        obtain ⟨y_81, ey_81⟩ : ∃ z : Int32, z = v38_1 + 1 := ⟨_, rfl⟩
                        refine lv_iinc (v := y_81) (lv' := [(1, .int y_81), (2, .int r_23), (0, .ref a0_)]) hx hb dX0_read_222 hl (k := 1) rfl (by rw [ey_81]; rfl) (by decide) rfl (fun ls hl => ?_)
                        have ty_81 := add_bd ey_81 b_16 kb_1 (by decide)
                        have b_82 : bd 1 2401 y_81 := add_rg ty_81 b_16 kb_1 (by decide)
                        refine lv_goto (tgt := 38) hx hb dX0_read_225 (by decide) ?_
                        have hl9 := lv_sub hl [0, 2] (by rfl : lv_pick [(1, .int y_81), (2, .int r_23), (0, .ref a0_)] [0, 2] = [(1, .int y_81), (0, .ref a0_)])
                        have g9 := g.sub (fx' := [(0, 2, a0_, .ref q2_), (0, 0, a0_, .ref q0_), (0, 1, a0_, .ref q1_), (5, 0, q1_, .ref q2_), (5, 1, q1_, .ref q3_), (8, 8, q0_, .int x_72)]) [6, 7, 8, 9, 10, 3] rfl
                        exact ih38  y_81 x_72 (bd_sub b_82 (by decide)) h_73 (by have h9_0 := b_27; unfold bd at h9_0; have h9_1 := b_82; unfold bd at h9_1; have h9_2 := bv38_1; unfold bd at h9_2; have h9_3 := bw38_8_8_q0_; unfold bd at h9_3; have h9_4 := h_69; unfold bd at h9_4; have h9_5 := h_71; unfold bd at h9_5; have h9_6 := h_73; unfold bd at h9_6; have h9_7 := kb_0; unfold bd at h9_7; have h9_8 := kb_1; unfold bd at h9_8; have h9_9 := kb_2400; unfold bd at h9_9; have h9_10 := kb_3; unfold bd at h9_10; have h9_11 := kb_4; unfold bd at h9_11; have h9_12 := kb_40; unfold bd at h9_12; have h9_13 := kb_45; unfold bd at h9_13; omega) _ _ _ _ g9 hG_65 hl9
                      · have g := g.more hF_80
                        refine lv_goto (tgt := 222) hx hb dX0_read_132 (by decide) ?_
                        obtain ⟨y_83, ey_83⟩ : ∃ z : Int32, z = v38_1 + 1 := ⟨_, rfl⟩
                        refine lv_iinc (v := y_83) (lv' := [(1, .int y_83), (2, .int r_23), (0, .ref a0_)]) hx hb dX0_read_222 hl (k := 1) rfl (by rw [ey_83]; rfl) (by decide) rfl (fun ls hl => ?_)
                        have ty_83 := add_bd ey_83 b_16 kb_1 (by decide)
                        have b_84 : bd 1 2401 y_83 := add_rg ty_83 b_16 kb_1 (by decide)
                        refine lv_goto (tgt := 38) hx hb dX0_read_225 (by decide) ?_
                        refine lv_iload_n hx hb dX0_read_38 rfl (lv_at hl 0 rfl) ?_
                        refine lv_sipush (v := 2400) hx hb dX0_read_39 (by decide) ?_
                        refine lv_icmp_gt (tgt := 228) hx hb dX0_read_42 (by decide) (fun c_85 => ?_) (fun c_85 => ?_)
                        · have fc_85 := lt_f c_85
                          have b_86 : bd 2401 2401 y_83 := ltR fc_85 kb_2400 b_84 (by decide)
                          have b_87 : bd 2400 2400 v38_1 := add_inv ty_83 b_86 b_16 kb_1 (by decide)
                          have kb_1201 : bd 1201 1201 (1201 : Int32) := ⟨by decide, by decide⟩
                          subst hQ
                          exact W.vret hx hb hr (fun t ht hW => ⟨⟨_, rfl, Or.inr (⟨hG_75, 1201, kb_1201, x_78, h_79, (g.fcts [1, 2, 5] rfl)⟩), q3_of g hK ht hW⟩, g.2.2.1.F ht⟩) g.2.2.1.2.2 dX0_read_228
                        · have fc_85 := nlt_f c_85
                          have b_88 : bd 1 2400 y_83 := leL fc_85 b_84 kb_2400 (by decide)
                          have b_89 : bd 0 2399 v38_1 := add_inv ty_83 b_88 b_16 kb_1 (by decide)
                          refine lv_aload_n hx hb dX0_read_45 rfl (lv_at hl 2 rfl) ?_
                          refine g_getk (C := RX0) (T := TX0) (N := 14) hx hb hts (mc_ inX0) hown hK g rfl 13 (by decide) rfl (hts _ (List.mem_cons_of_mem _ t_386)) (fun _ h9 => h9) 4 rfl dX0_read_46 ?_
                          refine lv_if_ne (tgt := 228) hx hb dX0_read_49 (by decide) (fun c_90 => ?_) (fun c_90 => ?_)
                          · have fc_90 := neq_f c_90
                            have b_91 : bd 1 (-1) x_17 := neX fc_90 b_20 kb_0 (by decide)
                            exact bd_no b_91 (by decide)
                          · have fc_90 := eq_f c_90
                            refine lv_aload_n hx hb dX0_read_52 rfl (lv_at hl 2 rfl) ?_
                            refine g_getk (C := RX0) (T := TX0) (N := 14) hx hb hts (mc_ inX0) hown hK g rfl 0 (by decide) rfl (hts _ (List.mem_cons_of_mem _ t_373)) (fun _ h9 => h9) 6 rfl dX0_read_53 ?_
                            refine g_getk (C := RX8) (T := TX8) (N := 10) hx hb hts (mc_ inX8) hown hK g rfl 8 (by decide) rfl (hts _ (List.mem_cons_of_mem _ t_293)) (fun _ h9 => h9) 2 rfl dX0_read_56 ?_
                            refine lv_if_ne (tgt := 228) hx hb dX0_read_59 (by decide) (fun c_92 => ?_) (fun c_92 => ?_)
                            · have fc_92 := neq_f c_92
                              have kb_1201 : bd 1201 1201 (1201 : Int32) := ⟨by decide, by decide⟩
                              subst hQ
                              exact W.vret hx hb hr (fun t ht hW => ⟨⟨_, rfl, Or.inr (⟨hG_75, 1201, kb_1201, x_78, h_79, (g.fcts [1, 2, 5] rfl)⟩), q3_of g hK ht hW⟩, g.2.2.1.F ht⟩) g.2.2.1.2.2 dX0_read_228
                            · have fc_92 := eq_f c_92
                              have b_93 : bd 1 0 x_78 := eqX fc_92 h_79 kb_0 (by decide)
                              exact bd_no b_93 (by decide)
                    · have fc_62 := neq_f c_62
                      refine lv_iload_n hx hb dX0_read_121 rfl (lv_at hl 0 rfl) ?_
                      refine lv_bipush (v := 33) hx hb dX0_read_122 (by decide) ?_
                      have kb_33 : bd 33 33 (33 : Int32) := ⟨by decide, by decide⟩
                      refine lv_icmp_ne (tgt := 135) hx hb dX0_read_124 (by decide) (fun c_94 => ?_) (fun c_94 => ?_)
                      · have fc_94 := neq_f c_94
                        refine lv_iload_n hx hb dX0_read_135 rfl (lv_at hl 0 rfl) ?_
                        refine lv_bipush (v := 11) hx hb dX0_read_136 (by decide) ?_
                        have kb_11 : bd 11 11 (11 : Int32) := ⟨by decide, by decide⟩
                        refine lv_icmp_ne (tgt := 148) hx hb dX0_read_138 (by decide) (fun c_95 => ?_) (fun c_95 => ?_)
                        · have fc_95 := neq_f c_95
                          refine lv_iload_n hx hb dX0_read_148 rfl (lv_at hl 0 rfl) ?_
                          refine lv_bipush (v := 30) hx hb dX0_read_149 (by decide) ?_
                          have kb_30 : bd 30 30 (30 : Int32) := ⟨by decide, by decide⟩
                          refine lv_icmp_ne (tgt := 161) hx hb dX0_read_151 (by decide) (fun c_96 => ?_) (fun c_96 => ?_)
                          · have fc_96 := neq_f c_96
                            refine lv_iload_n hx hb dX0_read_161 rfl (lv_at hl 0 rfl) ?_
                            refine lv_bipush (v := 28) hx hb dX0_read_162 (by decide) ?_
                            have kb_28 : bd 28 28 (28 : Int32) := ⟨by decide, by decide⟩
                            refine lv_icmp_ne (tgt := 184) hx hb dX0_read_164 (by decide) (fun c_97 => ?_) (fun c_97 => ?_)
                            · have fc_97 := neq_f c_97
                              refine lv_iload_n hx hb dX0_read_184 rfl (lv_at hl 0 rfl) ?_
                              refine lv_bipush (v := 29) hx hb dX0_read_185 (by decide) ?_
                              have kb_29 : bd 29 29 (29 : Int32) := ⟨by decide, by decide⟩
                              refine lv_icmp_ne (tgt := 207) hx hb dX0_read_187 (by decide) (fun c_98 => ?_) (fun c_98 => ?_)
                              · have fc_98 := neq_f c_98
                                refine lv_aload_n hx hb dX0_read_207 rfl (lv_at hl 2 rfl) ?_
                                refine g_getk (C := RX0) (T := TX0) (N := 14) hx hb hts (mc_ inX0) hown hK g rfl 0 (by decide) rfl (hts _ (List.mem_cons_of_mem _ t_373)) (fun _ h9 => h9) 3 rfl dX0_read_208 ?_
                                refine lv_iconst (v := 1) hx hb dX0_read_211 (by decide) ?_
                                refine lv_aload_n hx hb dX0_read_212 rfl (lv_at hl 2 rfl) ?_
                                refine g_getk (C := RX0) (T := TX0) (N := 14) hx hb hts (mc_ inX0) hown hK g rfl 0 (by decide) rfl (hts _ (List.mem_cons_of_mem _ t_373)) (fun _ h9 => h9) 3 rfl dX0_read_213 ?_
                                have go_ := g
                                refine g_calli (va_runV (As := []) (rest := [.int 1, .ref q0_]) ⟨hx, hb, hml, hown, hts⟩ (r_X8_place l dC dI L kd tys fr_23 H.size g.2.2.2.1 q0_ mq0_ kq0_) (cwV 0 hts (gV_ t_1220 t_1111 t_1112 t_184 t_1113) rfl rfl rfl (by decide +kernel) ⟨(Nat.le_of_ble_eq_true rfl), (Nat.le_of_ble_eq_true rfl)⟩) (pre3V g hK mq0_ kq0_ (by decide) (q := (RX8, TX8, 10)) rfl) rfl rfl hl.1 rfl (lv_room (Nat.le_of_ble_eq_true rfl)) dX0_read_216 ⟨(Nat.le_of_ble_eq_true rfl), (Nat.le_of_ble_eq_true rfl)⟩) g hK (by decide) (by decide) (fx' := [(0, 12, a0_, .int x_25), (0, 13, a0_, .int x_17), (0, 2, a0_, .ref q2_), (0, 0, a0_, .ref q0_), (0, 1, a0_, .ref q1_), (5, 0, q1_, .ref q2_), (5, 1, q1_, .ref q3_), (8, 8, q0_, .int w38_8_8_q0_)]) rfl (fun r_99 fr_99 H locs hp hMr_99 g => ?_)
                                have hG_100 := eOK.frame hMr_99 go_.2.2.2.1 ma0_ ka0_ (by decide) (by decide) hG_24
                                have go_ := g
                                refine g_callv (va_runV (As := [.int 1, .int r_99]) (rest := []) ⟨hx, hb, hml, hown, hts⟩ (r_X8_fail l dC dI L kd tys fr_99 H.size g.2.2.2.1 q0_ mq0_ kq0_ 1 (bd_sub kb_1 (by decide)) r_99 w38_8_8_q0_ bw38_8_8_q0_ (g.fcts [7] rfl)) (cwV 2 hts (gV_ t_1215 t_1107 t_1108 t_184 t_1109) rfl rfl rfl (by decide +kernel) ⟨(Nat.le_of_ble_eq_true rfl), (Nat.le_of_ble_eq_true rfl)⟩) (pre3V g hK mq0_ kq0_ (by decide) (q := (RX8, TX8, 10)) rfl) rfl rfl hl.1 rfl (lv_room (Nat.le_of_ble_eq_true rfl)) dX0_read_219 ⟨(Nat.le_of_ble_eq_true rfl), (Nat.le_of_ble_eq_true rfl)⟩) g hK (by decide) (by decide) (fx' := [(0, 12, a0_, .int x_25), (0, 13, a0_, .int x_17), (0, 2, a0_, .ref q2_), (0, 0, a0_, .ref q0_), (0, 1, a0_, .ref q1_), (5, 0, q1_, .ref q2_), (5, 1, q1_, .ref q3_)]) rfl (fun fr_101 H locs hp hMr_101 g => ?_)
                                obtain ⟨x_102, h_103, hF_104⟩ := hp
                                have hG_105 := eOK.frame hMr_101 go_.2.2.2.1 ma0_ ka0_ (by decide) (by decide) hG_100
                                have g := g.more hF_104
                                obtain ⟨y_106, ey_106⟩ : ∃ z : Int32, z = v38_1 + 1 := ⟨_, rfl⟩
                                refine lv_iinc (v := y_106) (lv' := [(1, .int y_106), (2, .int r_23), (0, .ref a0_)]) hx hb dX0_read_222 hl (k := 1) rfl (by rw [ey_106]; rfl) (by decide) rfl (fun ls hl => ?_)
                                have ty_106 := add_bd ey_106 b_16 kb_1 (by decide)
                                have b_107 : bd 1 2401 y_106 := add_rg ty_106 b_16 kb_1 (by decide)
                                refine lv_goto (tgt := 38) hx hb dX0_read_225 (by decide) ?_
                                refine lv_iload_n hx hb dX0_read_38 rfl (lv_at hl 0 rfl) ?_
                                refine lv_sipush (v := 2400) hx hb dX0_read_39 (by decide) ?_
                                refine lv_icmp_gt (tgt := 228) hx hb dX0_read_42 (by decide) (fun c_108 => ?_) (fun c_108 => ?_)
                                · have fc_108 := lt_f c_108
                                  have b_109 : bd 2401 2401 y_106 := ltR fc_108 kb_2400 b_107 (by decide)
                                  have b_110 : bd 2400 2400 v38_1 := add_inv ty_106 b_109 b_16 kb_1 (by decide)
                                  have kb_1201 : bd 1201 1201 (1201 : Int32) := ⟨by decide, by decide⟩
                                  subst hQ
                                  exact W.vret hx hb hr (fun t ht hW => ⟨⟨_, rfl, Or.inr (⟨hG_105, 1201, kb_1201, x_102, h_103, (g.fcts [0, 1, 4] rfl)⟩), q3_of g hK ht hW⟩, g.2.2.1.F ht⟩) g.2.2.1.2.2 dX0_read_228
                                · have fc_108 := nlt_f c_108
                                  have b_111 : bd 1 2400 y_106 := leL fc_108 b_107 kb_2400 (by decide)
                                  have b_112 : bd 0 2399 v38_1 := add_inv ty_106 b_111 b_16 kb_1 (by decide)
                                  refine lv_aload_n hx hb dX0_read_45 rfl (lv_at hl 2 rfl) ?_
                                  refine g_getk (C := RX0) (T := TX0) (N := 14) hx hb hts (mc_ inX0) hown hK g rfl 13 (by decide) rfl (hts _ (List.mem_cons_of_mem _ t_386)) (fun _ h9 => h9) 3 rfl dX0_read_46 ?_
                                  refine lv_if_ne (tgt := 228) hx hb dX0_read_49 (by decide) (fun c_113 => ?_) (fun c_113 => ?_)
                                  · have fc_113 := neq_f c_113
                                    have b_114 : bd 1 (-1) x_17 := neX fc_113 b_20 kb_0 (by decide)
                                    exact bd_no b_114 (by decide)
                                  · have fc_113 := eq_f c_113
                                    refine lv_aload_n hx hb dX0_read_52 rfl (lv_at hl 2 rfl) ?_
                                    refine g_getk (C := RX0) (T := TX0) (N := 14) hx hb hts (mc_ inX0) hown hK g rfl 0 (by decide) rfl (hts _ (List.mem_cons_of_mem _ t_373)) (fun _ h9 => h9) 5 rfl dX0_read_53 ?_
                                    refine g_getk (C := RX8) (T := TX8) (N := 10) hx hb hts (mc_ inX8) hown hK g rfl 8 (by decide) rfl (hts _ (List.mem_cons_of_mem _ t_293)) (fun _ h9 => h9) 1 rfl dX0_read_56 ?_
                                    refine lv_if_ne (tgt := 228) hx hb dX0_read_59 (by decide) (fun c_115 => ?_) (fun c_115 => ?_)
                                    · have fc_115 := neq_f c_115
                                      have kb_1201 : bd 1201 1201 (1201 : Int32) := ⟨by decide, by decide⟩
                                      subst hQ
                                      exact W.vret hx hb hr (fun t ht hW => ⟨⟨_, rfl, Or.inr (⟨hG_105, 1201, kb_1201, x_102, h_103, (g.fcts [0, 1, 4] rfl)⟩), q3_of g hK ht hW⟩, g.2.2.1.F ht⟩) g.2.2.1.2.2 dX0_read_228
                                    · have fc_115 := eq_f c_115
                                      have b_116 : bd 1 0 x_102 := eqX fc_115 h_103 kb_0 (by decide)
                                      exact bd_no b_116 (by decide)
                              · have fc_98 := eq_f c_98
                                have b_117 : bd 29 29 r_23 := eqX fc_98 (bdT r_23) kb_29 (by decide)
                                refine lv_aload_n hx hb dX0_read_190 rfl (lv_at hl 2 rfl) ?_
                                refine g_getk (C := RX0) (T := TX0) (N := 14) hx hb hts (mc_ inX0) hown hK g rfl 1 (by decide) rfl (hts _ (List.mem_cons_of_mem _ t_374)) (fun _ h9 => h9) 4 rfl dX0_read_191 ?_
                                refine g_geti (C := RX5) (T := TX5) (N := 9) hx hb hts (mc_ inX5) hown hK g mq1_ kq1_ (by decide) rfl 8 (by decide) rfl (hts _ (List.mem_cons_of_mem _ t_346)) (fun _ h9 => h9) rfl dX0_read_194 (fun x_118 bx_118 g => ?_)
                                refine lv_if_eq (tgt := 207) hx hb dX0_read_197 (by decide) (fun c_119 => ?_) (fun c_119 => ?_)
                                · have fc_119 := eq_f c_119
                                  have b_120 : bd 0 0 x_118 := eqX fc_119 bx_118 kb_0 (by decide)
                                  refine lv_aload_n hx hb dX0_read_207 rfl (lv_at hl 2 rfl) ?_
                                  refine g_getk (C := RX0) (T := TX0) (N := 14) hx hb hts (mc_ inX0) hown hK g rfl 0 (by decide) rfl (hts _ (List.mem_cons_of_mem _ t_373)) (fun _ h9 => h9) 4 rfl dX0_read_208 ?_
                                  refine lv_iconst (v := 1) hx hb dX0_read_211 (by decide) ?_
                                  refine lv_aload_n hx hb dX0_read_212 rfl (lv_at hl 2 rfl) ?_
                                  refine g_getk (C := RX0) (T := TX0) (N := 14) hx hb hts (mc_ inX0) hown hK g rfl 0 (by decide) rfl (hts _ (List.mem_cons_of_mem _ t_373)) (fun _ h9 => h9) 4 rfl dX0_read_213 ?_
                                  have go_ := g
                                  refine g_calli (va_runV (As := []) (rest := [.int 1, .ref q0_]) ⟨hx, hb, hml, hown, hts⟩ (r_X8_place l dC dI L kd tys fr_23 H.size g.2.2.2.1 q0_ mq0_ kq0_) (cwV 0 hts (gV_ t_1220 t_1111 t_1112 t_184 t_1113) rfl rfl rfl (by decide +kernel) ⟨(Nat.le_of_ble_eq_true rfl), (Nat.le_of_ble_eq_true rfl)⟩) (pre3V g hK mq0_ kq0_ (by decide) (q := (RX8, TX8, 10)) rfl) rfl rfl hl.1 rfl (lv_room (Nat.le_of_ble_eq_true rfl)) dX0_read_216 ⟨(Nat.le_of_ble_eq_true rfl), (Nat.le_of_ble_eq_true rfl)⟩) g hK (by decide) (by decide) (fx' := [(5, 8, q1_, .int x_118), (0, 12, a0_, .int x_25), (0, 13, a0_, .int x_17), (0, 2, a0_, .ref q2_), (0, 0, a0_, .ref q0_), (0, 1, a0_, .ref q1_), (5, 0, q1_, .ref q2_), (5, 1, q1_, .ref q3_), (8, 8, q0_, .int w38_8_8_q0_)]) rfl (fun r_121 fr_121 H locs hp hMr_121 g => ?_)
                                  have hG_122 := eOK.frame hMr_121 go_.2.2.2.1 ma0_ ka0_ (by decide) (by decide) hG_24
                                  have go_ := g
                                  refine g_callv (va_runV (As := [.int 1, .int r_121]) (rest := []) ⟨hx, hb, hml, hown, hts⟩ (r_X8_fail l dC dI L kd tys fr_121 H.size g.2.2.2.1 q0_ mq0_ kq0_ 1 (bd_sub kb_1 (by decide)) r_121 w38_8_8_q0_ bw38_8_8_q0_ (g.fcts [8] rfl)) (cwV 2 hts (gV_ t_1215 t_1107 t_1108 t_184 t_1109) rfl rfl rfl (by decide +kernel) ⟨(Nat.le_of_ble_eq_true rfl), (Nat.le_of_ble_eq_true rfl)⟩) (pre3V g hK mq0_ kq0_ (by decide) (q := (RX8, TX8, 10)) rfl) rfl rfl hl.1 rfl (lv_room (Nat.le_of_ble_eq_true rfl)) dX0_read_219 ⟨(Nat.le_of_ble_eq_true rfl), (Nat.le_of_ble_eq_true rfl)⟩) g hK (by decide) (by decide) (fx' := [(5, 8, q1_, .int x_118), (0, 12, a0_, .int x_25), (0, 13, a0_, .int x_17), (0, 2, a0_, .ref q2_), (0, 0, a0_, .ref q0_), (0, 1, a0_, .ref q1_), (5, 0, q1_, .ref q2_), (5, 1, q1_, .ref q3_)]) rfl (fun fr_123 H locs hp hMr_123 g => ?_)
                                  obtain ⟨x_124, h_125, hF_126⟩ := hp
                                  have hG_127 := eOK.frame hMr_123 go_.2.2.2.1 ma0_ ka0_ (by decide) (by decide) hG_122
                                  have g := g.more hF_126
                                  obtain ⟨y_128, ey_128⟩ : ∃ z : Int32, z = v38_1 + 1 := ⟨_, rfl⟩
                                  refine lv_iinc (v := y_128) (lv' := [(1, .int y_128), (2, .int r_23), (0, .ref a0_)]) hx hb dX0_read_222 hl (k := 1) rfl (by rw [ey_128]; rfl) (by decide) rfl (fun ls hl => ?_)
                                  have ty_128 := add_bd ey_128 b_16 kb_1 (by decide)
                                  have b_129 : bd 1 2401 y_128 := add_rg ty_128 b_16 kb_1 (by decide)
                                  refine lv_goto (tgt := 38) hx hb dX0_read_225 (by decide) ?_
                                  refine lv_iload_n hx hb dX0_read_38 rfl (lv_at hl 0 rfl) ?_
                                  refine lv_sipush (v := 2400) hx hb dX0_read_39 (by decide) ?_
                                  refine lv_icmp_gt (tgt := 228) hx hb dX0_read_42 (by decide) (fun c_130 => ?_) (fun c_130 => ?_)
                                  · have fc_130 := lt_f c_130
                                    have b_131 : bd 2401 2401 y_128 := ltR fc_130 kb_2400 b_129 (by decide)
                                    have b_132 : bd 2400 2400 v38_1 := add_inv ty_128 b_131 b_16 kb_1 (by decide)
                                    have kb_1201 : bd 1201 1201 (1201 : Int32) := ⟨by decide, by decide⟩
                                    subst hQ
                                    exact W.vret hx hb hr (fun t ht hW => ⟨⟨_, rfl, Or.inr (⟨hG_127, 1201, kb_1201, x_124, h_125, (g.fcts [0, 1, 5] rfl)⟩), q3_of g hK ht hW⟩, g.2.2.1.F ht⟩) g.2.2.1.2.2 dX0_read_228
                                  · have fc_130 := nlt_f c_130
                                    have b_133 : bd 1 2400 y_128 := leL fc_130 b_129 kb_2400 (by decide)
                                    have b_134 : bd 0 2399 v38_1 := add_inv ty_128 b_133 b_16 kb_1 (by decide)
                                    refine lv_aload_n hx hb dX0_read_45 rfl (lv_at hl 2 rfl) ?_
                                    refine g_getk (C := RX0) (T := TX0) (N := 14) hx hb hts (mc_ inX0) hown hK g rfl 13 (by decide) rfl (hts _ (List.mem_cons_of_mem _ t_386)) (fun _ h9 => h9) 4 rfl dX0_read_46 ?_
                                    refine lv_if_ne (tgt := 228) hx hb dX0_read_49 (by decide) (fun c_135 => ?_) (fun c_135 => ?_)
                                    · have fc_135 := neq_f c_135
                                      have b_136 : bd 1 (-1) x_17 := neX fc_135 b_20 kb_0 (by decide)
                                      exact bd_no b_136 (by decide)
                                    · have fc_135 := eq_f c_135
                                      refine lv_aload_n hx hb dX0_read_52 rfl (lv_at hl 2 rfl) ?_
                                      refine g_getk (C := RX0) (T := TX0) (N := 14) hx hb hts (mc_ inX0) hown hK g rfl 0 (by decide) rfl (hts _ (List.mem_cons_of_mem _ t_373)) (fun _ h9 => h9) 6 rfl dX0_read_53 ?_
                                      refine g_getk (C := RX8) (T := TX8) (N := 10) hx hb hts (mc_ inX8) hown hK g rfl 8 (by decide) rfl (hts _ (List.mem_cons_of_mem _ t_293)) (fun _ h9 => h9) 1 rfl dX0_read_56 ?_
                                      refine lv_if_ne (tgt := 228) hx hb dX0_read_59 (by decide) (fun c_137 => ?_) (fun c_137 => ?_)
                                      · have fc_137 := neq_f c_137
                                        have kb_1201 : bd 1201 1201 (1201 : Int32) := ⟨by decide, by decide⟩
                                        subst hQ
                                        exact W.vret hx hb hr (fun t ht hW => ⟨⟨_, rfl, Or.inr (⟨hG_127, 1201, kb_1201, x_124, h_125, (g.fcts [0, 1, 5] rfl)⟩), q3_of g hK ht hW⟩, g.2.2.1.F ht⟩) g.2.2.1.2.2 dX0_read_228
                                      · have fc_137 := eq_f c_137
                                        have b_138 : bd 1 0 x_124 := eqX fc_137 h_125 kb_0 (by decide)
                                        exact bd_no b_138 (by decide)
                                · have fc_119 := neq_f c_119
                                  have b_139 : bd 1 1 x_118 := neX fc_119 bx_118 kb_0 (by decide)
                                  refine lv_aload_n hx hb dX0_read_200 rfl (lv_at hl 2 rfl) ?_
                                  have go_ := g
                                  refine g_callv (va_runV (As := []) (rest := []) ⟨hx, hb, hml, hown, hts⟩ (r_X0_readResult l dC dI L kd tys fr_23 H.size g.2.2.2.1 a0_ ma0_ ka0_ q0_ mq0_ kq0_ q2_ mq2_ kq2_ w38_8_8_q0_ bw38_8_8_q0_ (g.fcts [4, 3, 8] rfl)) (cwV 0 hts (gV_ t_1297 t_1299 t_31 t_190 t_1300) rfl rfl rfl (by decide +kernel) ⟨(Nat.le_of_ble_eq_true rfl), (Nat.le_of_ble_eq_true rfl)⟩) (pre3V g hK ma0_ ka0_ (by decide) (q := (RX0, TX0, 14)) rfl) rfl rfl hl.1 rfl (lv_room (Nat.le_of_ble_eq_true rfl)) dX0_read_201 ⟨(Nat.le_of_ble_eq_true rfl), (Nat.le_of_ble_eq_true rfl)⟩) g hK (by decide) (by decide) (fx' := [(5, 8, q1_, .int x_118), (0, 13, a0_, .int x_17), (0, 2, a0_, .ref q2_), (0, 0, a0_, .ref q0_), (0, 1, a0_, .ref q1_), (5, 0, q1_, .ref q2_), (5, 1, q1_, .ref q3_), (8, 8, q0_, .int w38_8_8_q0_)]) rfl (fun fr_140 H locs hp hMr_140 g => ?_)
                                  obtain ⟨x_141, h_142, x_143, h_144, x_145, h_146, hF_147⟩ := hp
                                  have hG_148 := eOK.frame hMr_140 go_.2.2.2.1 ma0_ ka0_ (by decide) (by decide) hG_24
                                  have g := g.more hF_147
                                  refine lv_goto (tgt := 222) hx hb dX0_read_204 (by decide) ?_
                                  obtain ⟨y_149, ey_149⟩ : ∃ z : Int32, z = v38_1 + 1 := ⟨_, rfl⟩
                                  refine lv_iinc (v := y_149) (lv' := [(1, .int y_149), (2, .int r_23), (0, .ref a0_)]) hx hb dX0_read_222 hl (k := 1) rfl (by rw [ey_149]; rfl) (by decide) rfl (fun ls hl => ?_)
                                  have ty_149 := add_bd ey_149 b_16 kb_1 (by decide)
                                  have b_150 : bd 1 2401 y_149 := add_rg ty_149 b_16 kb_1 (by decide)
                                  refine lv_goto (tgt := 38) hx hb dX0_read_225 (by decide) ?_
                                  have hl9 := lv_sub hl [0, 2] (by rfl : lv_pick [(1, .int y_149), (2, .int r_23), (0, .ref a0_)] [0, 2] = [(1, .int y_149), (0, .ref a0_)])
                                  have g9 := g.sub (fx' := [(0, 2, a0_, .ref q2_), (0, 0, a0_, .ref q0_), (0, 1, a0_, .ref q1_), (5, 0, q1_, .ref q2_), (5, 1, q1_, .ref q3_), (8, 8, q0_, .int w38_8_8_q0_)]) [6, 7, 8, 9, 10, 11] rfl
                                  exact ih38  y_149 w38_8_8_q0_ (bd_sub b_150 (by decide)) bw38_8_8_q0_ (by have h9_0 := b_150; unfold bd at h9_0; have h9_1 := bv38_1; unfold bd at h9_1; have h9_2 := bw38_8_8_q0_; unfold bd at h9_2; have h9_3 := h_142; unfold bd at h9_3; have h9_4 := kb_0; unfold bd at h9_4; have h9_5 := kb_1; unfold bd at h9_5; have h9_6 := kb_11; unfold bd at h9_6; have h9_7 := kb_2400; unfold bd at h9_7; have h9_8 := kb_28; unfold bd at h9_8; have h9_9 := kb_29; unfold bd at h9_9; have h9_10 := kb_3; unfold bd at h9_10; have h9_11 := kb_30; unfold bd at h9_11; have h9_12 := kb_33; unfold bd at h9_12; have h9_13 := kb_4; unfold bd at h9_13; have h9_14 := kb_40; unfold bd at h9_14; have h9_15 := kb_45; unfold bd at h9_15; omega) _ _ _ _ g9 hG_148 hl9
                            · have fc_97 := eq_f c_97
                              have b_151 : bd 28 28 r_23 := eqX fc_97 (bdT r_23) kb_28 (by decide)
                              refine lv_aload_n hx hb dX0_read_167 rfl (lv_at hl 2 rfl) ?_
                              refine g_getk (C := RX0) (T := TX0) (N := 14) hx hb hts (mc_ inX0) hown hK g rfl 1 (by decide) rfl (hts _ (List.mem_cons_of_mem _ t_374)) (fun _ h9 => h9) 4 rfl dX0_read_168 ?_
                              refine g_geti (C := RX5) (T := TX5) (N := 9) hx hb hts (mc_ inX5) hown hK g mq1_ kq1_ (by decide) rfl 8 (by decide) rfl (hts _ (List.mem_cons_of_mem _ t_346)) (fun _ h9 => h9) rfl dX0_read_171 (fun x_152 bx_152 g => ?_)
                              refine lv_if_eq (tgt := 184) hx hb dX0_read_174 (by decide) (fun c_153 => ?_) (fun c_153 => ?_)
                              · have fc_153 := eq_f c_153
                                have b_154 : bd 0 0 x_152 := eqX fc_153 bx_152 kb_0 (by decide)
                                refine lv_iload_n hx hb dX0_read_184 rfl (lv_at hl 0 rfl) ?_
                                refine lv_bipush (v := 29) hx hb dX0_read_185 (by decide) ?_
                                have kb_29 : bd 29 29 (29 : Int32) := ⟨by decide, by decide⟩
                                refine lv_icmp_ne (tgt := 207) hx hb dX0_read_187 (by decide) (fun c_155 => ?_) (fun c_155 => ?_)
                                · have fc_155 := neq_f c_155
                                  refine lv_aload_n hx hb dX0_read_207 rfl (lv_at hl 2 rfl) ?_
                                  refine g_getk (C := RX0) (T := TX0) (N := 14) hx hb hts (mc_ inX0) hown hK g rfl 0 (by decide) rfl (hts _ (List.mem_cons_of_mem _ t_373)) (fun _ h9 => h9) 4 rfl dX0_read_208 ?_
                                  refine lv_iconst (v := 1) hx hb dX0_read_211 (by decide) ?_
                                  refine lv_aload_n hx hb dX0_read_212 rfl (lv_at hl 2 rfl) ?_
                                  refine g_getk (C := RX0) (T := TX0) (N := 14) hx hb hts (mc_ inX0) hown hK g rfl 0 (by decide) rfl (hts _ (List.mem_cons_of_mem _ t_373)) (fun _ h9 => h9) 4 rfl dX0_read_213 ?_
                                  have go_ := g
                                  refine g_calli (va_runV (As := []) (rest := [.int 1, .ref q0_]) ⟨hx, hb, hml, hown, hts⟩ (r_X8_place l dC dI L kd tys fr_23 H.size g.2.2.2.1 q0_ mq0_ kq0_) (cwV 0 hts (gV_ t_1220 t_1111 t_1112 t_184 t_1113) rfl rfl rfl (by decide +kernel) ⟨(Nat.le_of_ble_eq_true rfl), (Nat.le_of_ble_eq_true rfl)⟩) (pre3V g hK mq0_ kq0_ (by decide) (q := (RX8, TX8, 10)) rfl) rfl rfl hl.1 rfl (lv_room (Nat.le_of_ble_eq_true rfl)) dX0_read_216 ⟨(Nat.le_of_ble_eq_true rfl), (Nat.le_of_ble_eq_true rfl)⟩) g hK (by decide) (by decide) (fx' := [(5, 8, q1_, .int x_152), (0, 12, a0_, .int x_25), (0, 13, a0_, .int x_17), (0, 2, a0_, .ref q2_), (0, 0, a0_, .ref q0_), (0, 1, a0_, .ref q1_), (5, 0, q1_, .ref q2_), (5, 1, q1_, .ref q3_), (8, 8, q0_, .int w38_8_8_q0_)]) rfl (fun r_156 fr_156 H locs hp hMr_156 g => ?_)
                                  have hG_157 := eOK.frame hMr_156 go_.2.2.2.1 ma0_ ka0_ (by decide) (by decide) hG_24
                                  have go_ := g
                                  refine g_callv (va_runV (As := [.int 1, .int r_156]) (rest := []) ⟨hx, hb, hml, hown, hts⟩ (r_X8_fail l dC dI L kd tys fr_156 H.size g.2.2.2.1 q0_ mq0_ kq0_ 1 (bd_sub kb_1 (by decide)) r_156 w38_8_8_q0_ bw38_8_8_q0_ (g.fcts [8] rfl)) (cwV 2 hts (gV_ t_1215 t_1107 t_1108 t_184 t_1109) rfl rfl rfl (by decide +kernel) ⟨(Nat.le_of_ble_eq_true rfl), (Nat.le_of_ble_eq_true rfl)⟩) (pre3V g hK mq0_ kq0_ (by decide) (q := (RX8, TX8, 10)) rfl) rfl rfl hl.1 rfl (lv_room (Nat.le_of_ble_eq_true rfl)) dX0_read_219 ⟨(Nat.le_of_ble_eq_true rfl), (Nat.le_of_ble_eq_true rfl)⟩) g hK (by decide) (by decide) (fx' := [(5, 8, q1_, .int x_152), (0, 12, a0_, .int x_25), (0, 13, a0_, .int x_17), (0, 2, a0_, .ref q2_), (0, 0, a0_, .ref q0_), (0, 1, a0_, .ref q1_), (5, 0, q1_, .ref q2_), (5, 1, q1_, .ref q3_)]) rfl (fun fr_158 H locs hp hMr_158 g => ?_)
                                  obtain ⟨x_159, h_160, hF_161⟩ := hp
                                  have hG_162 := eOK.frame hMr_158 go_.2.2.2.1 ma0_ ka0_ (by decide) (by decide) hG_157
                                  have g := g.more hF_161
                                  obtain ⟨y_163, ey_163⟩ : ∃ z : Int32, z = v38_1 + 1 := ⟨_, rfl⟩
                                  refine lv_iinc (v := y_163) (lv' := [(1, .int y_163), (2, .int r_23), (0, .ref a0_)]) hx hb dX0_read_222 hl (k := 1) rfl (by rw [ey_163]; rfl) (by decide) rfl (fun ls hl => ?_)
                                  have ty_163 := add_bd ey_163 b_16 kb_1 (by decide)
                                  have b_164 : bd 1 2401 y_163 := add_rg ty_163 b_16 kb_1 (by decide)
                                  refine lv_goto (tgt := 38) hx hb dX0_read_225 (by decide) ?_
                                  refine lv_iload_n hx hb dX0_read_38 rfl (lv_at hl 0 rfl) ?_
                                  refine lv_sipush (v := 2400) hx hb dX0_read_39 (by decide) ?_
                                  refine lv_icmp_gt (tgt := 228) hx hb dX0_read_42 (by decide) (fun c_165 => ?_) (fun c_165 => ?_)
                                  · have fc_165 := lt_f c_165
                                    have b_166 : bd 2401 2401 y_163 := ltR fc_165 kb_2400 b_164 (by decide)
                                    have b_167 : bd 2400 2400 v38_1 := add_inv ty_163 b_166 b_16 kb_1 (by decide)
                                    have kb_1201 : bd 1201 1201 (1201 : Int32) := ⟨by decide, by decide⟩
                                    subst hQ
                                    exact W.vret hx hb hr (fun t ht hW => ⟨⟨_, rfl, Or.inr (⟨hG_162, 1201, kb_1201, x_159, h_160, (g.fcts [0, 1, 5] rfl)⟩), q3_of g hK ht hW⟩, g.2.2.1.F ht⟩) g.2.2.1.2.2 dX0_read_228
                                  · have fc_165 := nlt_f c_165
                                    have b_168 : bd 1 2400 y_163 := leL fc_165 b_164 kb_2400 (by decide)
                                    have b_169 : bd 0 2399 v38_1 := add_inv ty_163 b_168 b_16 kb_1 (by decide)
                                    refine lv_aload_n hx hb dX0_read_45 rfl (lv_at hl 2 rfl) ?_
                                    refine g_getk (C := RX0) (T := TX0) (N := 14) hx hb hts (mc_ inX0) hown hK g rfl 13 (by decide) rfl (hts _ (List.mem_cons_of_mem _ t_386)) (fun _ h9 => h9) 4 rfl dX0_read_46 ?_
                                    refine lv_if_ne (tgt := 228) hx hb dX0_read_49 (by decide) (fun c_170 => ?_) (fun c_170 => ?_)
                                    · have fc_170 := neq_f c_170
                                      have b_171 : bd 1 (-1) x_17 := neX fc_170 b_20 kb_0 (by decide)
                                      exact bd_no b_171 (by decide)
                                    · have fc_170 := eq_f c_170
                                      refine lv_aload_n hx hb dX0_read_52 rfl (lv_at hl 2 rfl) ?_
                                      refine g_getk (C := RX0) (T := TX0) (N := 14) hx hb hts (mc_ inX0) hown hK g rfl 0 (by decide) rfl (hts _ (List.mem_cons_of_mem _ t_373)) (fun _ h9 => h9) 6 rfl dX0_read_53 ?_
                                      refine g_getk (C := RX8) (T := TX8) (N := 10) hx hb hts (mc_ inX8) hown hK g rfl 8 (by decide) rfl (hts _ (List.mem_cons_of_mem _ t_293)) (fun _ h9 => h9) 1 rfl dX0_read_56 ?_
                                      refine lv_if_ne (tgt := 228) hx hb dX0_read_59 (by decide) (fun c_172 => ?_) (fun c_172 => ?_)
                                      · have fc_172 := neq_f c_172
                                        have kb_1201 : bd 1201 1201 (1201 : Int32) := ⟨by decide, by decide⟩
                                        subst hQ
                                        exact W.vret hx hb hr (fun t ht hW => ⟨⟨_, rfl, Or.inr (⟨hG_162, 1201, kb_1201, x_159, h_160, (g.fcts [0, 1, 5] rfl)⟩), q3_of g hK ht hW⟩, g.2.2.1.F ht⟩) g.2.2.1.2.2 dX0_read_228
                                      · have fc_172 := eq_f c_172
                                        have b_173 : bd 1 0 x_159 := eqX fc_172 h_160 kb_0 (by decide)
                                        exact bd_no b_173 (by decide)
                                · have fc_155 := eq_f c_155
                                  have b_174 : bd 29 28 r_23 := eqX fc_155 b_151 kb_29 (by decide)
                                  exact bd_no b_174 (by decide)
                              · have fc_153 := neq_f c_153
                                have b_175 : bd 1 1 x_152 := neX fc_153 bx_152 kb_0 (by decide)
                                refine lv_aload_n hx hb dX0_read_177 rfl (lv_at hl 2 rfl) ?_
                                have go_ := g
                                refine g_callv (va_runV (As := []) (rest := []) ⟨hx, hb, hml, hown, hts⟩ (r_X0_readOld_2 l dC dI L kd tys fr_23 H.size g.2.2.2.1 a0_ ma0_ ka0_ q0_ mq0_ kq0_ q1_ mq1_ kq1_ q2_ mq2_ kq2_ q3_ mq3_ kq3_ w38_8_8_q0_ bw38_8_8_q0_ hG_24 (g.fcts [4, 5, 3, 7, 8] rfl)) (cwV 0 hts (gV_ t_1293 t_1295 t_30 t_190 t_1296) rfl rfl rfl (by decide +kernel) ⟨(Nat.le_of_ble_eq_true rfl), (Nat.le_of_ble_eq_true rfl)⟩) (pre3V g hK ma0_ ka0_ (by decide) (q := (RX0, TX0, 14)) rfl) rfl rfl hl.1 rfl (lv_room (Nat.le_of_ble_eq_true rfl)) dX0_read_178 ⟨(Nat.le_of_ble_eq_true rfl), (Nat.le_of_ble_eq_true rfl)⟩) g hK (by decide) (by decide) (fx' := [(5, 8, q1_, .int x_152), (0, 13, a0_, .int x_17), (0, 2, a0_, .ref q2_), (0, 0, a0_, .ref q0_), (0, 1, a0_, .ref q1_), (5, 0, q1_, .ref q2_), (5, 1, q1_, .ref q3_)]) rfl (fun fr_176 H locs hp hMr_176 g => ?_)
                                rcases hp with ⟨hG_177, x_178, h_179, x_180, h_181, x_182, h_183, hF_184⟩ | ⟨hG_185, x_186, h_187, x_188, h_189, hF_190⟩
                                · have g := g.more hF_184
                                  refine lv_goto (tgt := 222) hx hb dX0_read_181 (by decide) ?_
                                  obtain ⟨y_191, ey_191⟩ : ∃ z : Int32, z = v38_1 + 1 := ⟨_, rfl⟩
                                  refine lv_iinc (v := y_191) (lv' := [(1, .int y_191), (2, .int r_23), (0, .ref a0_)]) hx hb dX0_read_222 hl (k := 1) rfl (by rw [ey_191]; rfl) (by decide) rfl (fun ls hl => ?_)
                                  have ty_191 := add_bd ey_191 b_16 kb_1 (by decide)
                                  have b_192 : bd 1 2401 y_191 := add_rg ty_191 b_16 kb_1 (by decide)
                                  refine lv_goto (tgt := 38) hx hb dX0_read_225 (by decide) ?_
                                  have hl9 := lv_sub hl [0, 2] (by rfl : lv_pick [(1, .int y_191), (2, .int r_23), (0, .ref a0_)] [0, 2] = [(1, .int y_191), (0, .ref a0_)])
                                  have g9 := g.sub (fx' := [(0, 2, a0_, .ref q2_), (0, 0, a0_, .ref q0_), (0, 1, a0_, .ref q1_), (5, 0, q1_, .ref q2_), (5, 1, q1_, .ref q3_), (8, 8, q0_, .int x_180)]) [5, 6, 7, 8, 9, 1] rfl
                                  exact ih38  y_191 x_180 (bd_sub b_192 (by decide)) h_181 (by have h9_0 := b_192; unfold bd at h9_0; have h9_1 := bv38_1; unfold bd at h9_1; have h9_2 := bw38_8_8_q0_; unfold bd at h9_2; have h9_3 := h_181; unfold bd at h9_3; have h9_4 := h_183; unfold bd at h9_4; have h9_5 := kb_0; unfold bd at h9_5; have h9_6 := kb_1; unfold bd at h9_6; have h9_7 := kb_11; unfold bd at h9_7; have h9_8 := kb_2400; unfold bd at h9_8; have h9_9 := kb_28; unfold bd at h9_9; have h9_10 := kb_3; unfold bd at h9_10; have h9_11 := kb_30; unfold bd at h9_11; have h9_12 := kb_33; unfold bd at h9_12; have h9_13 := kb_4; unfold bd at h9_13; have h9_14 := kb_40; unfold bd at h9_14; have h9_15 := kb_45; unfold bd at h9_15; omega) _ _ _ _ g9 hG_177 hl9
                                · have g := g.more hF_190
                                  refine lv_goto (tgt := 222) hx hb dX0_read_181 (by decide) ?_
                                  obtain ⟨y_193, ey_193⟩ : ∃ z : Int32, z = v38_1 + 1 := ⟨_, rfl⟩
                                  refine lv_iinc (v := y_193) (lv' := [(1, .int y_193), (2, .int r_23), (0, .ref a0_)]) hx hb dX0_read_222 hl (k := 1) rfl (by rw [ey_193]; rfl) (by decide) rfl (fun ls hl => ?_)
                                  have ty_193 := add_bd ey_193 b_16 kb_1 (by decide)
                                  have b_194 : bd 1 2401 y_193 := add_rg ty_193 b_16 kb_1 (by decide)
                                  refine lv_goto (tgt := 38) hx hb dX0_read_225 (by decide) ?_
                                  refine lv_iload_n hx hb dX0_read_38 rfl (lv_at hl 0 rfl) ?_
                                  refine lv_sipush (v := 2400) hx hb dX0_read_39 (by decide) ?_
                                  refine lv_icmp_gt (tgt := 228) hx hb dX0_read_42 (by decide) (fun c_195 => ?_) (fun c_195 => ?_)
                                  · have fc_195 := lt_f c_195
                                    have b_196 : bd 2401 2401 y_193 := ltR fc_195 kb_2400 b_194 (by decide)
                                    have b_197 : bd 2400 2400 v38_1 := add_inv ty_193 b_196 b_16 kb_1 (by decide)
                                    subst hQ
                                    exact W.vret hx hb hr (fun t ht hW => ⟨⟨_, rfl, Or.inr (⟨hG_185, x_186, h_187, x_188, h_189, (g.fcts [0, 1, 4] rfl)⟩), q3_of g hK ht hW⟩, g.2.2.1.F ht⟩) g.2.2.1.2.2 dX0_read_228
                                  · have fc_195 := nlt_f c_195
                                    have b_198 : bd 1 2400 y_193 := leL fc_195 b_194 kb_2400 (by decide)
                                    have b_199 : bd 0 2399 v38_1 := add_inv ty_193 b_198 b_16 kb_1 (by decide)
                                    refine lv_aload_n hx hb dX0_read_45 rfl (lv_at hl 2 rfl) ?_
                                    refine g_getk (C := RX0) (T := TX0) (N := 14) hx hb hts (mc_ inX0) hown hK g rfl 13 (by decide) rfl (hts _ (List.mem_cons_of_mem _ t_386)) (fun _ h9 => h9) 3 rfl dX0_read_46 ?_
                                    refine lv_if_ne (tgt := 228) hx hb dX0_read_49 (by decide) (fun c_200 => ?_) (fun c_200 => ?_)
                                    · have fc_200 := neq_f c_200
                                      have b_201 : bd 1 (-1) x_17 := neX fc_200 b_20 kb_0 (by decide)
                                      exact bd_no b_201 (by decide)
                                    · have fc_200 := eq_f c_200
                                      refine lv_aload_n hx hb dX0_read_52 rfl (lv_at hl 2 rfl) ?_
                                      refine g_getk (C := RX0) (T := TX0) (N := 14) hx hb hts (mc_ inX0) hown hK g rfl 0 (by decide) rfl (hts _ (List.mem_cons_of_mem _ t_373)) (fun _ h9 => h9) 5 rfl dX0_read_53 ?_
                                      refine g_getk (C := RX8) (T := TX8) (N := 10) hx hb hts (mc_ inX8) hown hK g rfl 8 (by decide) rfl (hts _ (List.mem_cons_of_mem _ t_293)) (fun _ h9 => h9) 1 rfl dX0_read_56 ?_
                                      refine lv_if_ne (tgt := 228) hx hb dX0_read_59 (by decide) (fun c_202 => ?_) (fun c_202 => ?_)
                                      · have fc_202 := neq_f c_202
                                        subst hQ
                                        exact W.vret hx hb hr (fun t ht hW => ⟨⟨_, rfl, Or.inr (⟨hG_185, x_186, h_187, x_188, h_189, (g.fcts [0, 1, 4] rfl)⟩), q3_of g hK ht hW⟩, g.2.2.1.F ht⟩) g.2.2.1.2.2 dX0_read_228
                                      · have fc_202 := eq_f c_202
                                        have b_203 : bd 1 0 x_188 := eqX fc_202 h_189 kb_0 (by decide)
                                        exact bd_no b_203 (by decide)
                          · have fc_96 := eq_f c_96
                            have b_204 : bd 30 30 r_23 := eqX fc_96 (bdT r_23) kb_30 (by decide)
                            refine lv_aload_n hx hb dX0_read_154 rfl (lv_at hl 2 rfl) ?_
                            have go_ := g
                            refine g_callv (va_runV (As := []) (rest := []) ⟨hx, hb, hml, hown, hts⟩ (r_X0_readSize l dC dI L kd tys fr_23 H.size g.2.2.2.1 a0_ ma0_ ka0_ q0_ mq0_ kq0_ q1_ mq1_ kq1_ q2_ mq2_ kq2_ q3_ mq3_ kq3_ w38_8_8_q0_ bw38_8_8_q0_ (g.fcts [3, 4, 2, 6, 7] rfl)) (cwV 0 hts (gV_ t_1285 t_1287 t_28 t_190 t_1288) rfl rfl rfl (by decide +kernel) ⟨(Nat.le_of_ble_eq_true rfl), (Nat.le_of_ble_eq_true rfl)⟩) (pre3V g hK ma0_ ka0_ (by decide) (q := (RX0, TX0, 14)) rfl) rfl rfl hl.1 rfl (lv_room (Nat.le_of_ble_eq_true rfl)) dX0_read_155 ⟨(Nat.le_of_ble_eq_true rfl), (Nat.le_of_ble_eq_true rfl)⟩) g hK (by decide) (by decide) (fx' := [(0, 13, a0_, .int x_17), (0, 2, a0_, .ref q2_), (0, 0, a0_, .ref q0_), (0, 1, a0_, .ref q1_), (5, 0, q1_, .ref q2_), (5, 1, q1_, .ref q3_)]) rfl (fun fr_205 H locs hp hMr_205 g => ?_)
                            rcases hp with ⟨x_206, h_207, x_208, h_209, x_210, h_211, x_212, h_213, x_214, h_215, x_216, h_217, hF_218⟩ | ⟨x_219, h_220, x_221, h_222, hF_223⟩
                            · have hG_224 := eOK.frame hMr_205 go_.2.2.2.1 ma0_ ka0_ (by decide) (by decide) hG_24
                              have g := g.more hF_218
                              refine lv_goto (tgt := 222) hx hb dX0_read_158 (by decide) ?_
                              obtain ⟨y_225, ey_225⟩ : ∃ z : Int32, z = v38_1 + 1 := ⟨_, rfl⟩
                              refine lv_iinc (v := y_225) (lv' := [(1, .int y_225), (2, .int r_23), (0, .ref a0_)]) hx hb dX0_read_222 hl (k := 1) rfl (by rw [ey_225]; rfl) (by decide) rfl (fun ls hl => ?_)
                              have ty_225 := add_bd ey_225 b_16 kb_1 (by decide)
                              have b_226 : bd 1 2401 y_225 := add_rg ty_225 b_16 kb_1 (by decide)
                              refine lv_goto (tgt := 38) hx hb dX0_read_225 (by decide) ?_
                              have hl9 := lv_sub hl [0, 2] (by rfl : lv_pick [(1, .int y_225), (2, .int r_23), (0, .ref a0_)] [0, 2] = [(1, .int y_225), (0, .ref a0_)])
                              have g9 := g.sub (fx' := [(0, 2, a0_, .ref q2_), (0, 0, a0_, .ref q0_), (0, 1, a0_, .ref q1_), (5, 0, q1_, .ref q2_), (5, 1, q1_, .ref q3_), (8, 8, q0_, .int x_212)]) [8, 9, 10, 11, 12, 4] rfl
                              exact ih38  y_225 x_212 (bd_sub b_226 (by decide)) h_213 (by have h9_0 := b_226; unfold bd at h9_0; have h9_1 := bv38_1; unfold bd at h9_1; have h9_2 := bw38_8_8_q0_; unfold bd at h9_2; have h9_3 := h_207; unfold bd at h9_3; have h9_4 := h_213; unfold bd at h9_4; have h9_5 := h_217; unfold bd at h9_5; have h9_6 := kb_0; unfold bd at h9_6; have h9_7 := kb_1; unfold bd at h9_7; have h9_8 := kb_11; unfold bd at h9_8; have h9_9 := kb_2400; unfold bd at h9_9; have h9_10 := kb_3; unfold bd at h9_10; have h9_11 := kb_30; unfold bd at h9_11; have h9_12 := kb_33; unfold bd at h9_12; have h9_13 := kb_4; unfold bd at h9_13; have h9_14 := kb_40; unfold bd at h9_14; have h9_15 := kb_45; unfold bd at h9_15; omega) _ _ _ _ g9 hG_224 hl9
                            · have hG_227 := eOK.frame hMr_205 go_.2.2.2.1 ma0_ ka0_ (by decide) (by decide) hG_24
                              have g := g.more hF_223
                              refine lv_goto (tgt := 222) hx hb dX0_read_158 (by decide) ?_
                              obtain ⟨y_228, ey_228⟩ : ∃ z : Int32, z = v38_1 + 1 := ⟨_, rfl⟩
                              refine lv_iinc (v := y_228) (lv' := [(1, .int y_228), (2, .int r_23), (0, .ref a0_)]) hx hb dX0_read_222 hl (k := 1) rfl (by rw [ey_228]; rfl) (by decide) rfl (fun ls hl => ?_)
                              have ty_228 := add_bd ey_228 b_16 kb_1 (by decide)
                              have b_229 : bd 1 2401 y_228 := add_rg ty_228 b_16 kb_1 (by decide)
                              refine lv_goto (tgt := 38) hx hb dX0_read_225 (by decide) ?_
                              refine lv_iload_n hx hb dX0_read_38 rfl (lv_at hl 0 rfl) ?_
                              refine lv_sipush (v := 2400) hx hb dX0_read_39 (by decide) ?_
                              refine lv_icmp_gt (tgt := 228) hx hb dX0_read_42 (by decide) (fun c_230 => ?_) (fun c_230 => ?_)
                              · have fc_230 := lt_f c_230
                                have b_231 : bd 2401 2401 y_228 := ltR fc_230 kb_2400 b_229 (by decide)
                                have b_232 : bd 2400 2400 v38_1 := add_inv ty_228 b_231 b_16 kb_1 (by decide)
                                subst hQ
                                exact W.vret hx hb hr (fun t ht hW => ⟨⟨_, rfl, Or.inr (⟨hG_227, x_219, h_220, x_221, h_222, (g.fcts [0, 1, 3] rfl)⟩), q3_of g hK ht hW⟩, g.2.2.1.F ht⟩) g.2.2.1.2.2 dX0_read_228
                              · have fc_230 := nlt_f c_230
                                have b_233 : bd 1 2400 y_228 := leL fc_230 b_229 kb_2400 (by decide)
                                have b_234 : bd 0 2399 v38_1 := add_inv ty_228 b_233 b_16 kb_1 (by decide)
                                refine lv_aload_n hx hb dX0_read_45 rfl (lv_at hl 2 rfl) ?_
                                refine g_getk (C := RX0) (T := TX0) (N := 14) hx hb hts (mc_ inX0) hown hK g rfl 13 (by decide) rfl (hts _ (List.mem_cons_of_mem _ t_386)) (fun _ h9 => h9) 2 rfl dX0_read_46 ?_
                                refine lv_if_ne (tgt := 228) hx hb dX0_read_49 (by decide) (fun c_235 => ?_) (fun c_235 => ?_)
                                · have fc_235 := neq_f c_235
                                  have b_236 : bd 1 (-1) x_17 := neX fc_235 b_20 kb_0 (by decide)
                                  exact bd_no b_236 (by decide)
                                · have fc_235 := eq_f c_235
                                  refine lv_aload_n hx hb dX0_read_52 rfl (lv_at hl 2 rfl) ?_
                                  refine g_getk (C := RX0) (T := TX0) (N := 14) hx hb hts (mc_ inX0) hown hK g rfl 0 (by decide) rfl (hts _ (List.mem_cons_of_mem _ t_373)) (fun _ h9 => h9) 4 rfl dX0_read_53 ?_
                                  refine g_getk (C := RX8) (T := TX8) (N := 10) hx hb hts (mc_ inX8) hown hK g rfl 8 (by decide) rfl (hts _ (List.mem_cons_of_mem _ t_293)) (fun _ h9 => h9) 1 rfl dX0_read_56 ?_
                                  refine lv_if_ne (tgt := 228) hx hb dX0_read_59 (by decide) (fun c_237 => ?_) (fun c_237 => ?_)
                                  · have fc_237 := neq_f c_237
                                    subst hQ
                                    exact W.vret hx hb hr (fun t ht hW => ⟨⟨_, rfl, Or.inr (⟨hG_227, x_219, h_220, x_221, h_222, (g.fcts [0, 1, 3] rfl)⟩), q3_of g hK ht hW⟩, g.2.2.1.F ht⟩) g.2.2.1.2.2 dX0_read_228
                                  · have fc_237 := eq_f c_237
                                    have b_238 : bd 1 0 x_221 := eqX fc_237 h_222 kb_0 (by decide)
                                    exact bd_no b_238 (by decide)
                        · have fc_95 := eq_f c_95
                          have b_239 : bd 11 11 r_23 := eqX fc_95 (bdT r_23) kb_11 (by decide)
                          refine lv_aload_n hx hb dX0_read_141 rfl (lv_at hl 2 rfl) ?_
                          have go_ := g
                          refine g_callv (va_runV (As := []) (rest := []) ⟨hx, hb, hml, hown, hts⟩ (r_X0_readAbove_2 l dC dI L kd tys fr_23 H.size g.2.2.2.1 a0_ ma0_ ka0_ q0_ mq0_ kq0_ q1_ mq1_ kq1_ q2_ mq2_ kq2_ q3_ mq3_ kq3_ w38_8_8_q0_ bw38_8_8_q0_ hG_24 (g.fcts [3, 4, 2, 6, 7] rfl)) (cwV 0 hts (gV_ t_1276 t_1278 t_27 t_190 t_1279) rfl rfl rfl (by decide +kernel) ⟨(Nat.le_of_ble_eq_true rfl), (Nat.le_of_ble_eq_true rfl)⟩) (pre3V g hK ma0_ ka0_ (by decide) (q := (RX0, TX0, 14)) rfl) rfl rfl hl.1 rfl (lv_room (Nat.le_of_ble_eq_true rfl)) dX0_read_142 ⟨(Nat.le_of_ble_eq_true rfl), (Nat.le_of_ble_eq_true rfl)⟩) g hK (by decide) (by decide) (fx' := [(0, 13, a0_, .int x_17), (0, 2, a0_, .ref q2_), (0, 0, a0_, .ref q0_), (0, 1, a0_, .ref q1_), (5, 0, q1_, .ref q2_), (5, 1, q1_, .ref q3_)]) rfl (fun fr_240 H locs hp hMr_240 g => ?_)
                          rcases hp with ⟨hG_241, x_242, h_243, x_244, h_245, x_246, h_247, x_248, h_249, x_250, h_251, hF_252⟩ | ⟨hG_253, x_254, h_255, hF_256⟩
                          · have g := g.more hF_252
                            refine lv_goto (tgt := 222) hx hb dX0_read_145 (by decide) ?_
                            obtain ⟨y_257, ey_257⟩ : ∃ z : Int32, z = v38_1 + 1 := ⟨_, rfl⟩
                            refine lv_iinc (v := y_257) (lv' := [(1, .int y_257), (2, .int r_23), (0, .ref a0_)]) hx hb dX0_read_222 hl (k := 1) rfl (by rw [ey_257]; rfl) (by decide) rfl (fun ls hl => ?_)
                            have ty_257 := add_bd ey_257 b_16 kb_1 (by decide)
                            have b_258 : bd 1 2401 y_257 := add_rg ty_257 b_16 kb_1 (by decide)
                            refine lv_goto (tgt := 38) hx hb dX0_read_225 (by decide) ?_
                            have hl9 := lv_sub hl [0, 2] (by rfl : lv_pick [(1, .int y_257), (2, .int r_23), (0, .ref a0_)] [0, 2] = [(1, .int y_257), (0, .ref a0_)])
                            have g9 := g.sub (fx' := [(0, 2, a0_, .ref q2_), (0, 0, a0_, .ref q0_), (0, 1, a0_, .ref q1_), (5, 0, q1_, .ref q2_), (5, 1, q1_, .ref q3_), (8, 8, q0_, .int x_246)]) [6, 7, 8, 9, 10, 2] rfl
                            exact ih38  y_257 x_246 (bd_sub b_258 (by decide)) h_247 (by have h9_0 := b_258; unfold bd at h9_0; have h9_1 := bv38_1; unfold bd at h9_1; have h9_2 := bw38_8_8_q0_; unfold bd at h9_2; have h9_3 := h_243; unfold bd at h9_3; have h9_4 := h_247; unfold bd at h9_4; have h9_5 := kb_0; unfold bd at h9_5; have h9_6 := kb_1; unfold bd at h9_6; have h9_7 := kb_11; unfold bd at h9_7; have h9_8 := kb_2400; unfold bd at h9_8; have h9_9 := kb_3; unfold bd at h9_9; have h9_10 := kb_33; unfold bd at h9_10; have h9_11 := kb_4; unfold bd at h9_11; have h9_12 := kb_40; unfold bd at h9_12; have h9_13 := kb_45; unfold bd at h9_13; omega) _ _ _ _ g9 hG_241 hl9
                          · have g := g.more hF_256
                            refine lv_goto (tgt := 222) hx hb dX0_read_145 (by decide) ?_
                            obtain ⟨y_259, ey_259⟩ : ∃ z : Int32, z = v38_1 + 1 := ⟨_, rfl⟩
                            refine lv_iinc (v := y_259) (lv' := [(1, .int y_259), (2, .int r_23), (0, .ref a0_)]) hx hb dX0_read_222 hl (k := 1) rfl (by rw [ey_259]; rfl) (by decide) rfl (fun ls hl => ?_)
                            have ty_259 := add_bd ey_259 b_16 kb_1 (by decide)
                            have b_260 : bd 1 2401 y_259 := add_rg ty_259 b_16 kb_1 (by decide)
                            refine lv_goto (tgt := 38) hx hb dX0_read_225 (by decide) ?_
                            refine lv_iload_n hx hb dX0_read_38 rfl (lv_at hl 0 rfl) ?_
                            refine lv_sipush (v := 2400) hx hb dX0_read_39 (by decide) ?_
                            refine lv_icmp_gt (tgt := 228) hx hb dX0_read_42 (by decide) (fun c_261 => ?_) (fun c_261 => ?_)
                            · have fc_261 := lt_f c_261
                              have b_262 : bd 2401 2401 y_259 := ltR fc_261 kb_2400 b_260 (by decide)
                              have b_263 : bd 2400 2400 v38_1 := add_inv ty_259 b_262 b_16 kb_1 (by decide)
                              have kb_1201 : bd 1201 1201 (1201 : Int32) := ⟨by decide, by decide⟩
                              subst hQ
                              exact W.vret hx hb hr (fun t ht hW => ⟨⟨_, rfl, Or.inr (⟨hG_253, 1201, kb_1201, x_254, h_255, (g.fcts [0, 1, 3] rfl)⟩), q3_of g hK ht hW⟩, g.2.2.1.F ht⟩) g.2.2.1.2.2 dX0_read_228
                            · have fc_261 := nlt_f c_261
                              have b_264 : bd 1 2400 y_259 := leL fc_261 b_260 kb_2400 (by decide)
                              have b_265 : bd 0 2399 v38_1 := add_inv ty_259 b_264 b_16 kb_1 (by decide)
                              refine lv_aload_n hx hb dX0_read_45 rfl (lv_at hl 2 rfl) ?_
                              refine g_getk (C := RX0) (T := TX0) (N := 14) hx hb hts (mc_ inX0) hown hK g rfl 13 (by decide) rfl (hts _ (List.mem_cons_of_mem _ t_386)) (fun _ h9 => h9) 2 rfl dX0_read_46 ?_
                              refine lv_if_ne (tgt := 228) hx hb dX0_read_49 (by decide) (fun c_266 => ?_) (fun c_266 => ?_)
                              · have fc_266 := neq_f c_266
                                have b_267 : bd 1 (-1) x_17 := neX fc_266 b_20 kb_0 (by decide)
                                exact bd_no b_267 (by decide)
                              · have fc_266 := eq_f c_266
                                refine lv_aload_n hx hb dX0_read_52 rfl (lv_at hl 2 rfl) ?_
                                refine g_getk (C := RX0) (T := TX0) (N := 14) hx hb hts (mc_ inX0) hown hK g rfl 0 (by decide) rfl (hts _ (List.mem_cons_of_mem _ t_373)) (fun _ h9 => h9) 4 rfl dX0_read_53 ?_
                                refine g_getk (C := RX8) (T := TX8) (N := 10) hx hb hts (mc_ inX8) hown hK g rfl 8 (by decide) rfl (hts _ (List.mem_cons_of_mem _ t_293)) (fun _ h9 => h9) 1 rfl dX0_read_56 ?_
                                refine lv_if_ne (tgt := 228) hx hb dX0_read_59 (by decide) (fun c_268 => ?_) (fun c_268 => ?_)
                                · have fc_268 := neq_f c_268
                                  have kb_1201 : bd 1201 1201 (1201 : Int32) := ⟨by decide, by decide⟩
                                  subst hQ
                                  exact W.vret hx hb hr (fun t ht hW => ⟨⟨_, rfl, Or.inr (⟨hG_253, 1201, kb_1201, x_254, h_255, (g.fcts [0, 1, 3] rfl)⟩), q3_of g hK ht hW⟩, g.2.2.1.F ht⟩) g.2.2.1.2.2 dX0_read_228
                                · have fc_268 := eq_f c_268
                                  have b_269 : bd 1 0 x_254 := eqX fc_268 h_255 kb_0 (by decide)
                                  exact bd_no b_269 (by decide)
                      · have fc_94 := eq_f c_94
                        have b_270 : bd 33 33 r_23 := eqX fc_94 (bdT r_23) kb_33 (by decide)
                        refine lv_aload_n hx hb dX0_read_127 rfl (lv_at hl 2 rfl) ?_
                        refine lv_iload_n hx hb dX0_read_128 rfl (lv_at hl 0 rfl) ?_
                        have go_ := g
                        refine g_callv (va_runV (As := [.int r_23]) (rest := []) ⟨hx, hb, hml, hown, hts⟩ (r_X0_openSign_2 l dC dI L kd tys fr_23 H.size g.2.2.2.1 a0_ ma0_ ka0_ r_23 q0_ mq0_ kq0_ q2_ mq2_ kq2_ w38_8_8_q0_ bw38_8_8_q0_ hG_24 (g.fcts [3, 2, 7] rfl)) (cwV 1 hts (gV_ t_1272 t_1274 t_26 t_190 t_1275) rfl rfl rfl (by decide +kernel) ⟨(Nat.le_of_ble_eq_true rfl), (Nat.le_of_ble_eq_true rfl)⟩) (pre3V g hK ma0_ ka0_ (by decide) (q := (RX0, TX0, 14)) rfl) rfl rfl hl.1 rfl (lv_room (Nat.le_of_ble_eq_true rfl)) dX0_read_129 ⟨(Nat.le_of_ble_eq_true rfl), (Nat.le_of_ble_eq_true rfl)⟩) g hK (by decide) (by decide) (fx' := [(0, 12, a0_, .int x_25), (0, 13, a0_, .int x_17), (0, 2, a0_, .ref q2_), (0, 0, a0_, .ref q0_), (0, 1, a0_, .ref q1_), (5, 0, q1_, .ref q2_), (5, 1, q1_, .ref q3_)]) rfl (fun fr_271 H locs hp hMr_271 g => ?_)
                        rcases hp with ⟨hG_272, x_273, h_274, x_275, h_276, x_277, h_278, x_279, h_280, hF_281⟩ | ⟨hG_282, x_283, h_284, x_285, h_286, hF_287⟩
                        · have g := g.more hF_281
                          refine lv_goto (tgt := 222) hx hb dX0_read_132 (by decide) ?_
                          obtain ⟨y_288, ey_288⟩ : ∃ z : Int32, z = v38_1 + 1 := ⟨_, rfl⟩
                          refine lv_iinc (v := y_288) (lv' := [(1, .int y_288), (2, .int r_23), (0, .ref a0_)]) hx hb dX0_read_222 hl (k := 1) rfl (by rw [ey_288]; rfl) (by decide) rfl (fun ls hl => ?_)
                          have ty_288 := add_bd ey_288 b_16 kb_1 (by decide)
                          have b_289 : bd 1 2401 y_288 := add_rg ty_288 b_16 kb_1 (by decide)
                          refine lv_goto (tgt := 38) hx hb dX0_read_225 (by decide) ?_
                          have hl9 := lv_sub hl [0, 2] (by rfl : lv_pick [(1, .int y_288), (2, .int r_23), (0, .ref a0_)] [0, 2] = [(1, .int y_288), (0, .ref a0_)])
                          have g9 := g.sub (fx' := [(0, 2, a0_, .ref q2_), (0, 0, a0_, .ref q0_), (0, 1, a0_, .ref q1_), (5, 0, q1_, .ref q2_), (5, 1, q1_, .ref q3_), (8, 8, q0_, .int x_279)]) [6, 7, 8, 9, 10, 3] rfl
                          exact ih38  y_288 x_279 (bd_sub b_289 (by decide)) h_280 (by have h9_0 := b_27; unfold bd at h9_0; have h9_1 := b_289; unfold bd at h9_1; have h9_2 := bv38_1; unfold bd at h9_2; have h9_3 := bw38_8_8_q0_; unfold bd at h9_3; have h9_4 := h_276; unfold bd at h9_4; have h9_5 := h_278; unfold bd at h9_5; have h9_6 := h_280; unfold bd at h9_6; have h9_7 := kb_0; unfold bd at h9_7; have h9_8 := kb_1; unfold bd at h9_8; have h9_9 := kb_2400; unfold bd at h9_9; have h9_10 := kb_3; unfold bd at h9_10; have h9_11 := kb_33; unfold bd at h9_11; have h9_12 := kb_4; unfold bd at h9_12; have h9_13 := kb_40; unfold bd at h9_13; have h9_14 := kb_45; unfold bd at h9_14; omega) _ _ _ _ g9 hG_272 hl9
                        · have g := g.more hF_287
                          refine lv_goto (tgt := 222) hx hb dX0_read_132 (by decide) ?_
                          obtain ⟨y_290, ey_290⟩ : ∃ z : Int32, z = v38_1 + 1 := ⟨_, rfl⟩
                          refine lv_iinc (v := y_290) (lv' := [(1, .int y_290), (2, .int r_23), (0, .ref a0_)]) hx hb dX0_read_222 hl (k := 1) rfl (by rw [ey_290]; rfl) (by decide) rfl (fun ls hl => ?_)
                          have ty_290 := add_bd ey_290 b_16 kb_1 (by decide)
                          have b_291 : bd 1 2401 y_290 := add_rg ty_290 b_16 kb_1 (by decide)
                          refine lv_goto (tgt := 38) hx hb dX0_read_225 (by decide) ?_
                          refine lv_iload_n hx hb dX0_read_38 rfl (lv_at hl 0 rfl) ?_
                          refine lv_sipush (v := 2400) hx hb dX0_read_39 (by decide) ?_
                          refine lv_icmp_gt (tgt := 228) hx hb dX0_read_42 (by decide) (fun c_292 => ?_) (fun c_292 => ?_)
                          · have fc_292 := lt_f c_292
                            have b_293 : bd 2401 2401 y_290 := ltR fc_292 kb_2400 b_291 (by decide)
                            have b_294 : bd 2400 2400 v38_1 := add_inv ty_290 b_293 b_16 kb_1 (by decide)
                            have kb_1201 : bd 1201 1201 (1201 : Int32) := ⟨by decide, by decide⟩
                            subst hQ
                            exact W.vret hx hb hr (fun t ht hW => ⟨⟨_, rfl, Or.inr (⟨hG_282, 1201, kb_1201, x_285, h_286, (g.fcts [1, 2, 5] rfl)⟩), q3_of g hK ht hW⟩, g.2.2.1.F ht⟩) g.2.2.1.2.2 dX0_read_228
                          · have fc_292 := nlt_f c_292
                            have b_295 : bd 1 2400 y_290 := leL fc_292 b_291 kb_2400 (by decide)
                            have b_296 : bd 0 2399 v38_1 := add_inv ty_290 b_295 b_16 kb_1 (by decide)
                            refine lv_aload_n hx hb dX0_read_45 rfl (lv_at hl 2 rfl) ?_
                            refine g_getk (C := RX0) (T := TX0) (N := 14) hx hb hts (mc_ inX0) hown hK g rfl 13 (by decide) rfl (hts _ (List.mem_cons_of_mem _ t_386)) (fun _ h9 => h9) 4 rfl dX0_read_46 ?_
                            refine lv_if_ne (tgt := 228) hx hb dX0_read_49 (by decide) (fun c_297 => ?_) (fun c_297 => ?_)
                            · have fc_297 := neq_f c_297
                              have b_298 : bd 1 (-1) x_17 := neX fc_297 b_20 kb_0 (by decide)
                              exact bd_no b_298 (by decide)
                            · have fc_297 := eq_f c_297
                              refine lv_aload_n hx hb dX0_read_52 rfl (lv_at hl 2 rfl) ?_
                              refine g_getk (C := RX0) (T := TX0) (N := 14) hx hb hts (mc_ inX0) hown hK g rfl 0 (by decide) rfl (hts _ (List.mem_cons_of_mem _ t_373)) (fun _ h9 => h9) 6 rfl dX0_read_53 ?_
                              refine g_getk (C := RX8) (T := TX8) (N := 10) hx hb hts (mc_ inX8) hown hK g rfl 8 (by decide) rfl (hts _ (List.mem_cons_of_mem _ t_293)) (fun _ h9 => h9) 2 rfl dX0_read_56 ?_
                              refine lv_if_ne (tgt := 228) hx hb dX0_read_59 (by decide) (fun c_299 => ?_) (fun c_299 => ?_)
                              · have fc_299 := neq_f c_299
                                have kb_1201 : bd 1201 1201 (1201 : Int32) := ⟨by decide, by decide⟩
                                subst hQ
                                exact W.vret hx hb hr (fun t ht hW => ⟨⟨_, rfl, Or.inr (⟨hG_282, 1201, kb_1201, x_285, h_286, (g.fcts [1, 2, 5] rfl)⟩), q3_of g hK ht hW⟩, g.2.2.1.F ht⟩) g.2.2.1.2.2 dX0_read_228
                              · have fc_299 := eq_f c_299
                                have b_300 : bd 1 0 x_285 := eqX fc_299 h_286 kb_0 (by decide)
                                exact bd_no b_300 (by decide)
                · have fc_29 := eq_f c_29
                  have b_301 : bd 4 4 r_23 := eqX fc_29 (bdT r_23) kb_4 (by decide)
                  refine lv_aload_n hx hb dX0_read_102 rfl (lv_at hl 2 rfl) ?_
                  have go_ := g
                  refine g_callv (va_runV (As := []) (rest := []) ⟨hx, hb, hml, hown, hts⟩ (r_X0_readNumber l dC dI L kd tys fr_23 H.size g.2.2.2.1 a0_ ma0_ ka0_ q0_ mq0_ kq0_ q2_ mq2_ kq2_ w38_8_8_q0_ bw38_8_8_q0_ (g.fcts [3, 2, 7] rfl)) (cwV 0 hts (gV_ t_1268 t_1270 t_25 t_190 t_1271) rfl rfl rfl (by decide +kernel) ⟨(Nat.le_of_ble_eq_true rfl), (Nat.le_of_ble_eq_true rfl)⟩) (pre3V g hK ma0_ ka0_ (by decide) (q := (RX0, TX0, 14)) rfl) rfl rfl hl.1 rfl (lv_room (Nat.le_of_ble_eq_true rfl)) dX0_read_103 ⟨(Nat.le_of_ble_eq_true rfl), (Nat.le_of_ble_eq_true rfl)⟩) g hK (by decide) (by decide) (fx' := [(0, 13, a0_, .int x_17), (0, 2, a0_, .ref q2_), (0, 0, a0_, .ref q0_), (0, 1, a0_, .ref q1_), (5, 0, q1_, .ref q2_), (5, 1, q1_, .ref q3_), (8, 8, q0_, .int w38_8_8_q0_)]) rfl (fun fr_302 H locs hp hMr_302 g => ?_)
                  obtain ⟨x_303, h_304, x_305, h_306, x_307, h_308, hF_309⟩ := hp
                  have hG_310 := eOK.frame hMr_302 go_.2.2.2.1 ma0_ ka0_ (by decide) (by decide) hG_24
                  have g := g.more hF_309
                  refine lv_goto (tgt := 222) hx hb dX0_read_106 (by decide) ?_
                  obtain ⟨y_311, ey_311⟩ : ∃ z : Int32, z = v38_1 + 1 := ⟨_, rfl⟩
                  refine lv_iinc (v := y_311) (lv' := [(1, .int y_311), (2, .int r_23), (0, .ref a0_)]) hx hb dX0_read_222 hl (k := 1) rfl (by rw [ey_311]; rfl) (by decide) rfl (fun ls hl => ?_)
                  have ty_311 := add_bd ey_311 b_16 kb_1 (by decide)
                  have b_312 : bd 1 2401 y_311 := add_rg ty_311 b_16 kb_1 (by decide)
                  refine lv_goto (tgt := 38) hx hb dX0_read_225 (by decide) ?_
                  have hl9 := lv_sub hl [0, 2] (by rfl : lv_pick [(1, .int y_311), (2, .int r_23), (0, .ref a0_)] [0, 2] = [(1, .int y_311), (0, .ref a0_)])
                  have g9 := g.sub (fx' := [(0, 2, a0_, .ref q2_), (0, 0, a0_, .ref q0_), (0, 1, a0_, .ref q1_), (5, 0, q1_, .ref q2_), (5, 1, q1_, .ref q3_), (8, 8, q0_, .int w38_8_8_q0_)]) [5, 6, 7, 8, 9, 10] rfl
                  exact ih38  y_311 w38_8_8_q0_ (bd_sub b_312 (by decide)) bw38_8_8_q0_ (by have h9_0 := b_312; unfold bd at h9_0; have h9_1 := bv38_1; unfold bd at h9_1; have h9_2 := bw38_8_8_q0_; unfold bd at h9_2; have h9_3 := h_304; unfold bd at h9_3; have h9_4 := kb_0; unfold bd at h9_4; have h9_5 := kb_1; unfold bd at h9_5; have h9_6 := kb_2400; unfold bd at h9_6; have h9_7 := kb_3; unfold bd at h9_7; have h9_8 := kb_4; unfold bd at h9_8; omega) _ _ _ _ g9 hG_310 hl9
              · have fc_28 := eq_f c_28
                have b_313 : bd 3 3 r_23 := eqX fc_28 (bdT r_23) kb_3 (by decide)
                refine lv_aload_n hx hb dX0_read_90 rfl (lv_at hl 2 rfl) ?_
                have go_ := g
                refine g_callv (va_runV (As := []) (rest := []) ⟨hx, hb, hml, hown, hts⟩ (r_X0_readName_2 l dC dI L kd tys fr_23 H.size g.2.2.2.1 a0_ ma0_ ka0_ q0_ mq0_ kq0_ q1_ mq1_ kq1_ q2_ mq2_ kq2_ q3_ mq3_ kq3_ w38_8_8_q0_ bw38_8_8_q0_ hG_24 (g.fcts [3, 4, 2, 6, 7] rfl)) (cwV 0 hts (gV_ t_1234 t_1236 t_22 t_190 t_1237) rfl rfl rfl (by decide +kernel) ⟨(Nat.le_of_ble_eq_true rfl), (Nat.le_of_ble_eq_true rfl)⟩) (pre3V g hK ma0_ ka0_ (by decide) (q := (RX0, TX0, 14)) rfl) rfl rfl hl.1 rfl (lv_room (Nat.le_of_ble_eq_true rfl)) dX0_read_91 ⟨(Nat.le_of_ble_eq_true rfl), (Nat.le_of_ble_eq_true rfl)⟩) g hK (by decide) (by decide) (fx' := [(0, 13, a0_, .int x_17), (0, 2, a0_, .ref q2_), (0, 0, a0_, .ref q0_), (0, 1, a0_, .ref q1_), (5, 0, q1_, .ref q2_), (5, 1, q1_, .ref q3_)]) rfl (fun fr_314 H locs hp hMr_314 g => ?_)
                rcases hp with ⟨hG_315, x_316, h_317, x_318, h_319, hF_320⟩ | ⟨hG_321, x_322, h_323, x_324, h_325, hF_326⟩
                · have g := g.more hF_320
                  refine lv_goto (tgt := 222) hx hb dX0_read_94 (by decide) ?_
                  obtain ⟨y_327, ey_327⟩ : ∃ z : Int32, z = v38_1 + 1 := ⟨_, rfl⟩
                  refine lv_iinc (v := y_327) (lv' := [(1, .int y_327), (2, .int r_23), (0, .ref a0_)]) hx hb dX0_read_222 hl (k := 1) rfl (by rw [ey_327]; rfl) (by decide) rfl (fun ls hl => ?_)
                  have ty_327 := add_bd ey_327 b_16 kb_1 (by decide)
                  have b_328 : bd 1 2401 y_327 := add_rg ty_327 b_16 kb_1 (by decide)
                  refine lv_goto (tgt := 38) hx hb dX0_read_225 (by decide) ?_
                  have hl9 := lv_sub hl [0, 2] (by rfl : lv_pick [(1, .int y_327), (2, .int r_23), (0, .ref a0_)] [0, 2] = [(1, .int y_327), (0, .ref a0_)])
                  have g9 := g.sub (fx' := [(0, 2, a0_, .ref q2_), (0, 0, a0_, .ref q0_), (0, 1, a0_, .ref q1_), (5, 0, q1_, .ref q2_), (5, 1, q1_, .ref q3_), (8, 8, q0_, .int x_318)]) [3, 4, 5, 6, 7, 1] rfl
                  exact ih38  y_327 x_318 (bd_sub b_328 (by decide)) h_319 (by have h9_0 := b_328; unfold bd at h9_0; have h9_1 := bv38_1; unfold bd at h9_1; have h9_2 := bw38_8_8_q0_; unfold bd at h9_2; have h9_3 := h_319; unfold bd at h9_3; have h9_4 := kb_0; unfold bd at h9_4; have h9_5 := kb_1; unfold bd at h9_5; have h9_6 := kb_2400; unfold bd at h9_6; have h9_7 := kb_3; unfold bd at h9_7; omega) _ _ _ _ g9 hG_315 hl9
                · have g := g.more hF_326
                  refine lv_goto (tgt := 222) hx hb dX0_read_94 (by decide) ?_
                  obtain ⟨y_329, ey_329⟩ : ∃ z : Int32, z = v38_1 + 1 := ⟨_, rfl⟩
                  refine lv_iinc (v := y_329) (lv' := [(1, .int y_329), (2, .int r_23), (0, .ref a0_)]) hx hb dX0_read_222 hl (k := 1) rfl (by rw [ey_329]; rfl) (by decide) rfl (fun ls hl => ?_)
                  have ty_329 := add_bd ey_329 b_16 kb_1 (by decide)
                  have b_330 : bd 1 2401 y_329 := add_rg ty_329 b_16 kb_1 (by decide)
                  refine lv_goto (tgt := 38) hx hb dX0_read_225 (by decide) ?_
                  refine lv_iload_n hx hb dX0_read_38 rfl (lv_at hl 0 rfl) ?_
                  refine lv_sipush (v := 2400) hx hb dX0_read_39 (by decide) ?_
                  refine lv_icmp_gt (tgt := 228) hx hb dX0_read_42 (by decide) (fun c_331 => ?_) (fun c_331 => ?_)
                  · have fc_331 := lt_f c_331
                    have b_332 : bd 2401 2401 y_329 := ltR fc_331 kb_2400 b_330 (by decide)
                    have b_333 : bd 2400 2400 v38_1 := add_inv ty_329 b_332 b_16 kb_1 (by decide)
                    subst hQ
                    exact W.vret hx hb hr (fun t ht hW => ⟨⟨_, rfl, Or.inr (⟨hG_321, x_322, h_323, x_324, h_325, (g.fcts [0, 1, 3] rfl)⟩), q3_of g hK ht hW⟩, g.2.2.1.F ht⟩) g.2.2.1.2.2 dX0_read_228
                  · have fc_331 := nlt_f c_331
                    have b_334 : bd 1 2400 y_329 := leL fc_331 b_330 kb_2400 (by decide)
                    have b_335 : bd 0 2399 v38_1 := add_inv ty_329 b_334 b_16 kb_1 (by decide)
                    refine lv_aload_n hx hb dX0_read_45 rfl (lv_at hl 2 rfl) ?_
                    refine g_getk (C := RX0) (T := TX0) (N := 14) hx hb hts (mc_ inX0) hown hK g rfl 13 (by decide) rfl (hts _ (List.mem_cons_of_mem _ t_386)) (fun _ h9 => h9) 2 rfl dX0_read_46 ?_
                    refine lv_if_ne (tgt := 228) hx hb dX0_read_49 (by decide) (fun c_336 => ?_) (fun c_336 => ?_)
                    · have fc_336 := neq_f c_336
                      have b_337 : bd 1 (-1) x_17 := neX fc_336 b_20 kb_0 (by decide)
                      exact bd_no b_337 (by decide)
                    · have fc_336 := eq_f c_336
                      refine lv_aload_n hx hb dX0_read_52 rfl (lv_at hl 2 rfl) ?_
                      refine g_getk (C := RX0) (T := TX0) (N := 14) hx hb hts (mc_ inX0) hown hK g rfl 0 (by decide) rfl (hts _ (List.mem_cons_of_mem _ t_373)) (fun _ h9 => h9) 4 rfl dX0_read_53 ?_
                      refine g_getk (C := RX8) (T := TX8) (N := 10) hx hb hts (mc_ inX8) hown hK g rfl 8 (by decide) rfl (hts _ (List.mem_cons_of_mem _ t_293)) (fun _ h9 => h9) 1 rfl dX0_read_56 ?_
                      refine lv_if_ne (tgt := 228) hx hb dX0_read_59 (by decide) (fun c_338 => ?_) (fun c_338 => ?_)
                      · have fc_338 := neq_f c_338
                        subst hQ
                        exact W.vret hx hb hr (fun t ht hW => ⟨⟨_, rfl, Or.inr (⟨hG_321, x_322, h_323, x_324, h_325, (g.fcts [0, 1, 3] rfl)⟩), q3_of g hK ht hW⟩, g.2.2.1.F ht⟩) g.2.2.1.2.2 dX0_read_228
                      · have fc_338 := eq_f c_338
                        have b_339 : bd 1 0 x_324 := eqX fc_338 h_325 kb_0 (by decide)
                        exact bd_no b_339 (by decide)
            · have fc_26 := eq_f c_26
              have b_340 : bd 0 0 x_25 := eqX fc_26 bx_25 kb_0 (by decide)
              refine lv_aload_n hx hb dX0_read_77 rfl (lv_at hl 2 rfl) ?_
              refine lv_iload_n hx hb dX0_read_78 rfl (lv_at hl 0 rfl) ?_
              have go_ := g
              refine g_callv (va_runV (As := [.int r_23]) (rest := []) ⟨hx, hb, hml, hown, hts⟩ (r_X0_readBehind l dC dI L kd tys fr_23 H.size g.2.2.2.1 a0_ ma0_ ka0_ r_23 q0_ mq0_ kq0_ q1_ mq1_ kq1_ q2_ mq2_ kq2_ q3_ mq3_ kq3_ w38_8_8_q0_ bw38_8_8_q0_ hG_24 (g.fcts [3, 4, 2, 6, 7] rfl)) (cwV 1 hts (gV_ t_1187 t_1189 t_14 t_190 t_1190) rfl rfl rfl (by decide +kernel) ⟨(Nat.le_of_ble_eq_true rfl), (Nat.le_of_ble_eq_true rfl)⟩) (pre3V g hK ma0_ ka0_ (by decide) (q := (RX0, TX0, 14)) rfl) rfl rfl hl.1 rfl (lv_room (Nat.le_of_ble_eq_true rfl)) dX0_read_79 ⟨(Nat.le_of_ble_eq_true rfl), (Nat.le_of_ble_eq_true rfl)⟩) g hK (by decide) (by decide) (fx' := [(0, 2, a0_, .ref q2_), (0, 0, a0_, .ref q0_), (0, 1, a0_, .ref q1_), (5, 0, q1_, .ref q2_), (5, 1, q1_, .ref q3_)]) rfl (fun fr_341 H locs hp hMr_341 g => ?_)
              rcases hp with ⟨hG_342, x_343, h_344, hF_345⟩ | ⟨hG_346, x_347, h_348, hF_349⟩
              · have g := g.more hF_345
                refine lv_goto (tgt := 222) hx hb dX0_read_82 (by decide) ?_
                obtain ⟨y_350, ey_350⟩ : ∃ z : Int32, z = v38_1 + 1 := ⟨_, rfl⟩
                refine lv_iinc (v := y_350) (lv' := [(1, .int y_350), (2, .int r_23), (0, .ref a0_)]) hx hb dX0_read_222 hl (k := 1) rfl (by rw [ey_350]; rfl) (by decide) rfl (fun ls hl => ?_)
                have ty_350 := add_bd ey_350 b_16 kb_1 (by decide)
                have b_351 : bd 1 2401 y_350 := add_rg ty_350 b_16 kb_1 (by decide)
                refine lv_goto (tgt := 38) hx hb dX0_read_225 (by decide) ?_
                have hl9 := lv_sub hl [0, 2] (by rfl : lv_pick [(1, .int y_350), (2, .int r_23), (0, .ref a0_)] [0, 2] = [(1, .int y_350), (0, .ref a0_)])
                have g9 := g.sub (fx' := [(0, 2, a0_, .ref q2_), (0, 0, a0_, .ref q0_), (0, 1, a0_, .ref q1_), (5, 0, q1_, .ref q2_), (5, 1, q1_, .ref q3_), (8, 8, q0_, .int x_343)]) [1, 2, 3, 4, 5, 0] rfl
                exact ih38  y_350 x_343 (bd_sub b_351 (by decide)) h_344 (by have h9_0 := b_351; unfold bd at h9_0; have h9_1 := bv38_1; unfold bd at h9_1; have h9_2 := bw38_8_8_q0_; unfold bd at h9_2; have h9_3 := h_344; unfold bd at h9_3; have h9_4 := kb_0; unfold bd at h9_4; have h9_5 := kb_1; unfold bd at h9_5; have h9_6 := kb_2400; unfold bd at h9_6; omega) _ _ _ _ g9 hG_342 hl9
              · have g := g.more hF_349
                refine lv_goto (tgt := 222) hx hb dX0_read_82 (by decide) ?_
                obtain ⟨y_352, ey_352⟩ : ∃ z : Int32, z = v38_1 + 1 := ⟨_, rfl⟩
                refine lv_iinc (v := y_352) (lv' := [(1, .int y_352), (2, .int r_23), (0, .ref a0_)]) hx hb dX0_read_222 hl (k := 1) rfl (by rw [ey_352]; rfl) (by decide) rfl (fun ls hl => ?_)
                have ty_352 := add_bd ey_352 b_16 kb_1 (by decide)
                have b_353 : bd 1 2401 y_352 := add_rg ty_352 b_16 kb_1 (by decide)
                refine lv_goto (tgt := 38) hx hb dX0_read_225 (by decide) ?_
                refine lv_iload_n hx hb dX0_read_38 rfl (lv_at hl 0 rfl) ?_
                refine lv_sipush (v := 2400) hx hb dX0_read_39 (by decide) ?_
                refine lv_icmp_gt (tgt := 228) hx hb dX0_read_42 (by decide) (fun c_354 => ?_) (fun c_354 => ?_)
                · have fc_354 := lt_f c_354
                  have b_355 : bd 2401 2401 y_352 := ltR fc_354 kb_2400 b_353 (by decide)
                  have b_356 : bd 2400 2400 v38_1 := add_inv ty_352 b_355 b_16 kb_1 (by decide)
                  have kb_1201 : bd 1201 1201 (1201 : Int32) := ⟨by decide, by decide⟩
                  subst hQ
                  exact W.vret hx hb hr (fun t ht hW => ⟨⟨_, rfl, Or.inr (⟨hG_346, 1201, kb_1201, x_347, h_348, (g.fcts [0, 1, 2] rfl)⟩), q3_of g hK ht hW⟩, g.2.2.1.F ht⟩) g.2.2.1.2.2 dX0_read_228
                · have fc_354 := nlt_f c_354
                  have b_357 : bd 1 2400 y_352 := leL fc_354 b_353 kb_2400 (by decide)
                  have b_358 : bd 0 2399 v38_1 := add_inv ty_352 b_357 b_16 kb_1 (by decide)
                  refine lv_aload_n hx hb dX0_read_45 rfl (lv_at hl 2 rfl) ?_
                  refine g_geti (C := RX0) (T := TX0) (N := 14) hx hb hts (mc_ inX0) hown hK g ma0_ ka0_ (by decide) rfl 13 (by decide) rfl (hts _ (List.mem_cons_of_mem _ t_386)) (fun _ h9 => h9) rfl dX0_read_46 (fun x_359 bx_359 g => ?_)
                  refine lv_if_ne (tgt := 228) hx hb dX0_read_49 (by decide) (fun c_360 => ?_) (fun c_360 => ?_)
                  · have fc_360 := neq_f c_360
                    have b_361 : bd 1 1 x_359 := neX fc_360 bx_359 kb_0 (by decide)
                    have kb_1201 : bd 1201 1201 (1201 : Int32) := ⟨by decide, by decide⟩
                    subst hQ
                    exact W.vret hx hb hr (fun t ht hW => ⟨⟨_, rfl, Or.inr (⟨hG_346, 1201, kb_1201, x_347, h_348, (g.fcts [1, 2, 3] rfl)⟩), q3_of g hK ht hW⟩, g.2.2.1.F ht⟩) g.2.2.1.2.2 dX0_read_228
                  · have fc_360 := eq_f c_360
                    have b_362 : bd 0 0 x_359 := eqX fc_360 bx_359 kb_0 (by decide)
                    refine lv_aload_n hx hb dX0_read_52 rfl (lv_at hl 2 rfl) ?_
                    refine g_getk (C := RX0) (T := TX0) (N := 14) hx hb hts (mc_ inX0) hown hK g rfl 0 (by decide) rfl (hts _ (List.mem_cons_of_mem _ t_373)) (fun _ h9 => h9) 4 rfl dX0_read_53 ?_
                    refine g_getk (C := RX8) (T := TX8) (N := 10) hx hb hts (mc_ inX8) hown hK g rfl 8 (by decide) rfl (hts _ (List.mem_cons_of_mem _ t_293)) (fun _ h9 => h9) 2 rfl dX0_read_56 ?_
                    refine lv_if_ne (tgt := 228) hx hb dX0_read_59 (by decide) (fun c_363 => ?_) (fun c_363 => ?_)
                    · have fc_363 := neq_f c_363
                      have kb_1201 : bd 1201 1201 (1201 : Int32) := ⟨by decide, by decide⟩
                      subst hQ
                      exact W.vret hx hb hr (fun t ht hW => ⟨⟨_, rfl, Or.inr (⟨hG_346, 1201, kb_1201, x_347, h_348, (g.fcts [1, 2, 3] rfl)⟩), q3_of g hK ht hW⟩, g.2.2.1.F ht⟩) g.2.2.1.2.2 dX0_read_228
                    · have fc_363 := eq_f c_363
                      have b_364 : bd 1 0 x_347 := eqX fc_363 h_348 kb_0 (by decide)
                      exact bd_no b_364 (by decide)
  have hl9 := lv_sub hl [0, 1] (by rfl : lv_pick [(1, .int 0), (0, .ref a0_)] [0, 1] = [(1, .int 0), (0, .ref a0_)])
  have g9 := g.sub (fx' := [(0, 2, a0_, .ref q2_), (0, 0, a0_, .ref q0_), (0, 1, a0_, .ref q1_), (5, 0, q1_, .ref q2_), (5, 1, q1_, .ref q3_), (8, 8, q0_, .int y0_)]) [5, 6, 7, 8, 9, 10] rfl
  exact loop_13 (4805) 0 y0_ (bd_sub kb_0 (by decide)) by0_ (by have h9_0 := by0_; unfold bd at h9_0; have h9_1 := kb_0; unfold bd at h9_1; have h9_2 := kb_1; unfold bd at h9_2; omega) _ _ _ _ g9 hG_12 hl9
set_option maxHeartbeats 4000000 in
set_option maxRecDepth 100000 in
theorem r_X2_readAsked (l : Launch) (dC : Nat → ClassId) (dI : Nat → Nat → Nat) (L : List Nat) (kd : Nat → Nat) (tys : List (ClassId × FieldType)) (f0 : Nat → va_E) (sz : Nat) (hWT : WT L kd tys f0) (a0_ : Nat) (ma0_ : a0_ ∈ L) (ka0_ : kd a0_ = 2) (x1_ : Int32) (bx1_ : bd 0 0 x1_) (q0_ : Nat) (mq0_ : q0_ ∈ L) (kq0_ : kd q0_ = 8) (q1_ : Nat) (mq1_ : q1_ ∈ L) (kq1_ : kd q1_ = 5) (q2_ : Nat) (mq2_ : q2_ ∈ L) (kq2_ : kd q2_ = 0) (q3_ : Nat) (mq3_ : q3_ ∈ L) (kq3_ : kd q3_ = 7) (q6_ : Nat) (mq6_ : q6_ ∈ L) (kq6_ : kd q6_ = 7) (q7_ : Nat) (mq7_ : q7_ ∈ L) (kq7_ : kd q7_ = 9) (y0_ : Int32) (by0_ : bd 1 500 y0_) (y1_ : Int32) (by1_ : bd 0 0 y1_) (hGeq2_ : eOK f0 q2_) (hfx : Fs L kd f0 [(2, 0, a0_, .ref q0_), (2, 1, a0_, .ref q1_), (2, 2, a0_, .ref q2_), (2, 3, a0_, .ref q3_), (0, 0, q2_, .ref q0_), (0, 1, q2_, .ref q1_), (5, 0, q1_, .ref q6_), (5, 1, q1_, .ref q7_), (7, 13, q3_, .int y0_), (8, 8, q0_, .int y1_)]) : Met l yX2_readAsked (.code yX2_readAsked cX2_readAsked 2 none :: lw_g) ({ frames := 4, cells := 0, slots := 0, locals := 97 }) (va_Pc [.ref a0_, .int x1_] (P3 (dC, dI) L tys f0 sz)) (va_Qv (fun (f : Nat → va_E) => (eOK f q2_ ∧ ∃ z0_ : Int32, bd 1 2000 z0_ ∧ ∃ z4_ : Int32, bd 0 0 z4_ ∧ Fs L kd f [(7, 6, q3_, .int z0_), (5, 8, q1_, .int 0), (5, 7, q1_, .int 0), (0, 2, q2_, .ref q6_), (8, 8, q0_, .int z4_)]) ∨ (eOK f q2_ ∧ ∃ z0_ : Int32, bd 1 2000 z0_ ∧ ∃ z3_ : Int32, bd 1201 1201 z3_ ∧ ∃ z4_ : Int32, bd 1 7 z4_ ∧ Fs L kd f [(7, 6, q3_, .int z0_), (5, 8, q1_, .int 0), (5, 7, q1_, .int 0), (8, 6, q0_, .int z3_), (8, 8, q0_, .int z4_), (0, 2, q2_, .ref q6_)])) (Q3 (dC, dI) L kd tys [(0, 2), (0, 8), (0, 10), (0, 11), (0, 12), (0, 13), (5, 7), (5, 8), (7, 6), (7, 18), (8, 6), (8, 8), (8, 9)] [110, 111, 112, 113, 114, 115, 138, 139] f0 sz) (pA L sz)) 0 0 (pA L sz) := by
  refine Met.ofW (cc := cX2_readAsked) (maxL := 2) (ret := none) (by decide) rfl ?_
  intro p e s m args below meth c s₁ B hml hv
  obtain ⟨rfl, hsz, hP, hK, hD0⟩ := hv
  have hx := B.exec
  have hb := B.bytes
  have hr := B.returns
  have hts := atoms_spec (ws := (.code yX2_readAsked cX2_readAsked 2 none :: lw_g)) B.pre
  have hown : s.vm.findClass RX2 = some m.cls := findClass_of_methodNamed B.named
  have hlocks := B.notSynchronized
  subst hsz
  have g : G3 (dC, dI) L kd tys s f0 [(0, 2), (0, 8), (0, 10), (0, 11), (0, 12), (0, 13), (5, 7), (5, 8), (7, 6), (7, 18), (8, 6), (8, 8), (8, 9)] [110, 111, 112, 113, 114, 115, 138, 139] f0 s.heap [] [(2, 0, a0_, .ref q0_), (2, 1, a0_, .ref q1_), (2, 2, a0_, .ref q2_), (2, 3, a0_, .ref q3_), (0, 0, q2_, .ref q0_), (0, 1, q2_, .ref q1_), (5, 0, q1_, .ref q6_), (5, 1, q1_, .ref q7_), (7, 13, q3_, .int y0_), (8, 8, q0_, .int y1_)] := G3.start hP hD0 hWT hfx
  have hl := lv_entry ([.ref a0_, .int x1_]) (n := 2) (Nat.le_of_ble_eq_true rfl)
  rw [lg_entry_eq]
  generalize (lg_sl ([.ref a0_, .int x1_]) ++ List.replicate (2 - (lg_sl ([.ref a0_, .int x1_])).length) Slot.unset).toArray = ls at hl ⊢
  have hl : lv_has ls 2 [(0, .ref a0_), (1, .int x1_)] := hl
  refine W_q (fun Q hQ => ?_)
  refine lv_aload_n hx hb dX2_readAsked_0 rfl (lv_at hl 0 rfl) ?_
  refine g_getk (C := RX2) (T := TX2) (N := 16) hx hb hts (mc_ inX2) hown hK g rfl 1 (by decide) rfl (hts _ (List.mem_cons_of_mem _ t_417)) (fun _ h9 => h9) 1 rfl dX2_readAsked_1 ?_
  refine lv_iconst (v := 1) hx hb dX2_readAsked_4 (by decide) ?_
  have kb_1 : bd 1 1 (1 : Int32) := ⟨by decide, by decide⟩
  have go_ := g
  refine g_put (C := RX5) (T := TX5) (N := 9) hx hb hts (mc_ inX5) tyX5 tyX5_ok nmX5 hown hK g mq1_ kq1_ (by decide) rfl 7 (by decide) (hts _ (List.mem_cons_of_mem _ t_344)) (fun _ h9 => h9) rfl rfl (okV_i (bd_sub kb_1 (by decide))) rfl rfl (by decide) (Or.inr (Or.inl (by decide))) (fx' := [(2, 0, a0_, .ref q0_), (2, 1, a0_, .ref q1_), (2, 2, a0_, .ref q2_), (2, 3, a0_, .ref q3_), (0, 0, q2_, .ref q0_), (0, 1, q2_, .ref q1_), (5, 0, q1_, .ref q6_), (5, 1, q1_, .ref q7_), (7, 13, q3_, .int y0_), (8, 8, q0_, .int y1_)]) rfl dX2_readAsked_5 (fun f H locs hM_1 g => ?_)
  have hG_2 := eOK.frame hM_1 go_.2.2.2.1 mq2_ kq2_ (by decide) (by decide) hGeq2_
  refine lv_aload_n hx hb dX2_readAsked_8 rfl (lv_at hl 0 rfl) ?_
  refine g_getk (C := RX2) (T := TX2) (N := 16) hx hb hts (mc_ inX2) hown hK g rfl 1 (by decide) rfl (hts _ (List.mem_cons_of_mem _ t_417)) (fun _ h9 => h9) 2 rfl dX2_readAsked_9 ?_
  refine lv_iload_n hx hb dX2_readAsked_12 rfl (lv_at hl 1 rfl) ?_
  have go_ := g
  refine g_put (C := RX5) (T := TX5) (N := 9) hx hb hts (mc_ inX5) tyX5 tyX5_ok nmX5 hown hK g mq1_ kq1_ (by decide) rfl 8 (by decide) (hts _ (List.mem_cons_of_mem _ t_347)) (fun _ h9 => h9) rfl rfl (okV_i (bd_sub bx1_ (by decide))) (nar_z (bd_sub bx1_ (by decide) : bd 0 1 _).1 (bd_sub bx1_ (by decide) : bd 0 1 _).2) (fit_z (bd_sub bx1_ (by decide) : bd 0 1 _)) (by decide) (Or.inr (Or.inl (by decide))) (fx' := [(5, 7, q1_, .int 1), (2, 0, a0_, .ref q0_), (2, 1, a0_, .ref q1_), (2, 2, a0_, .ref q2_), (2, 3, a0_, .ref q3_), (0, 0, q2_, .ref q0_), (0, 1, q2_, .ref q1_), (5, 0, q1_, .ref q6_), (5, 1, q1_, .ref q7_), (7, 13, q3_, .int y0_), (8, 8, q0_, .int y1_)]) rfl dX2_readAsked_13 (fun f H locs hM_3 g => ?_)
  have hG_4 := eOK.frame hM_3 go_.2.2.2.1 mq2_ kq2_ (by decide) (by decide) hG_2
  refine lv_aload_n hx hb dX2_readAsked_16 rfl (lv_at hl 0 rfl) ?_
  refine g_getk (C := RX2) (T := TX2) (N := 16) hx hb hts (mc_ inX2) hown hK g rfl 2 (by decide) rfl (hts _ (List.mem_cons_of_mem _ t_418)) (fun _ h9 => h9) 4 rfl dX2_readAsked_17 ?_
  have go_ := g
  refine g_callv (va_runV (As := []) (rest := []) ⟨hx, hb, hml, hown, hts⟩ (r_X0_read l dC dI L kd tys f H.size g.2.2.2.1 q2_ mq2_ kq2_ q0_ mq0_ kq0_ q1_ mq1_ kq1_ q6_ mq6_ kq6_ q7_ mq7_ kq7_ y1_ by1_ hG_4 (g.fcts [6, 7, 8, 9, 11] rfl)) (cwV 0 hts (gV_ t_1182 t_1183 t_1184 t_190 t_1185) rfl rfl rfl (by decide +kernel) ⟨(Nat.le_of_ble_eq_true rfl), (Nat.le_of_ble_eq_true rfl)⟩) (pre3V g hK mq2_ kq2_ (by decide) (q := (RX0, TX0, 14)) rfl) rfl rfl hl.1 rfl (lv_room (Nat.le_of_ble_eq_true rfl)) dX2_readAsked_20 ⟨(Nat.le_of_ble_eq_true rfl), (Nat.le_of_ble_eq_true rfl)⟩) g hK (by decide) (by decide) (fx' := [(5, 8, q1_, .int x1_), (5, 7, q1_, .int 1), (2, 0, a0_, .ref q0_), (2, 1, a0_, .ref q1_), (2, 2, a0_, .ref q2_), (2, 3, a0_, .ref q3_), (0, 0, q2_, .ref q0_), (0, 1, q2_, .ref q1_), (5, 0, q1_, .ref q6_), (5, 1, q1_, .ref q7_), (7, 13, q3_, .int y0_)]) rfl (fun fr_5 H locs hp hMr_5 g => ?_)
  rcases hp with ⟨hG_6, x_7, h_8, hF_9⟩ | ⟨hG_10, x_11, h_12, x_13, h_14, hF_15⟩
  · have g := g.more hF_9
    refine lv_aload_n hx hb dX2_readAsked_23 rfl (lv_at hl 0 rfl) ?_
    refine g_getk (C := RX2) (T := TX2) (N := 16) hx hb hts (mc_ inX2) hown hK g rfl 1 (by decide) rfl (hts _ (List.mem_cons_of_mem _ t_417)) (fun _ h9 => h9) 5 rfl dX2_readAsked_24 ?_
    refine lv_iconst (v := 0) hx hb dX2_readAsked_27 (by decide) ?_
    have kb_0 : bd 0 0 (0 : Int32) := ⟨by decide, by decide⟩
    have go_ := g
    refine g_put (C := RX5) (T := TX5) (N := 9) hx hb hts (mc_ inX5) tyX5 tyX5_ok nmX5 hown hK g mq1_ kq1_ (by decide) rfl 7 (by decide) (hts _ (List.mem_cons_of_mem _ t_344)) (fun _ h9 => h9) rfl rfl (okV_i (bd_sub kb_0 (by decide))) rfl rfl (by decide) (Or.inr (Or.inl (by decide))) (fx' := [(0, 2, q2_, .ref q6_), (8, 8, q0_, .int x_7), (5, 8, q1_, .int x1_), (2, 0, a0_, .ref q0_), (2, 1, a0_, .ref q1_), (2, 2, a0_, .ref q2_), (2, 3, a0_, .ref q3_), (0, 0, q2_, .ref q0_), (0, 1, q2_, .ref q1_), (5, 0, q1_, .ref q6_), (5, 1, q1_, .ref q7_), (7, 13, q3_, .int y0_)]) rfl dX2_readAsked_28 (fun f H locs hM_16 g => ?_)
    have hG_17 := eOK.frame hM_16 go_.2.2.2.1 mq2_ kq2_ (by decide) (by decide) hG_6
    refine lv_aload_n hx hb dX2_readAsked_31 rfl (lv_at hl 0 rfl) ?_
    refine g_getk (C := RX2) (T := TX2) (N := 16) hx hb hts (mc_ inX2) hown hK g rfl 1 (by decide) rfl (hts _ (List.mem_cons_of_mem _ t_417)) (fun _ h9 => h9) 5 rfl dX2_readAsked_32 ?_
    refine lv_iconst (v := 0) hx hb dX2_readAsked_35 (by decide) ?_
    have go_ := g
    refine g_put (C := RX5) (T := TX5) (N := 9) hx hb hts (mc_ inX5) tyX5 tyX5_ok nmX5 hown hK g mq1_ kq1_ (by decide) rfl 8 (by decide) (hts _ (List.mem_cons_of_mem _ t_347)) (fun _ h9 => h9) rfl rfl (okV_i (bd_sub kb_0 (by decide))) rfl rfl (by decide) (Or.inr (Or.inl (by decide))) (fx' := [(5, 7, q1_, .int 0), (0, 2, q2_, .ref q6_), (8, 8, q0_, .int x_7), (2, 0, a0_, .ref q0_), (2, 1, a0_, .ref q1_), (2, 2, a0_, .ref q2_), (2, 3, a0_, .ref q3_), (0, 0, q2_, .ref q0_), (0, 1, q2_, .ref q1_), (5, 0, q1_, .ref q6_), (5, 1, q1_, .ref q7_), (7, 13, q3_, .int y0_)]) rfl dX2_readAsked_36 (fun f H locs hM_18 g => ?_)
    have hG_19 := eOK.frame hM_18 go_.2.2.2.1 mq2_ kq2_ (by decide) (by decide) hG_17
    refine lv_aload_n hx hb dX2_readAsked_39 rfl (lv_at hl 0 rfl) ?_
    refine g_getk (C := RX2) (T := TX2) (N := 16) hx hb hts (mc_ inX2) hown hK g rfl 3 (by decide) rfl (hts _ (List.mem_cons_of_mem _ t_419)) (fun _ h9 => h9) 7 rfl dX2_readAsked_40 ?_
    refine lv_bipush (v := 26) hx hb dX2_readAsked_43 (by decide) ?_
    refine lv_iconst (v := 0) hx hb dX2_readAsked_45 (by decide) ?_
    have go_ := g
    refine g_callv (va_runV (As := [.int 26, .int 0]) (rest := []) ⟨hx, hb, hml, hown, hts⟩ (r_X7_emit l dC dI L kd tys f H.size g.2.2.2.1 q3_ mq3_ kq3_ 26 0) (cwV 2 hts (gV_ t_1301 t_1204 t_1205 t_191 t_1206) rfl rfl rfl (by decide +kernel) ⟨(Nat.le_of_ble_eq_true rfl), (Nat.le_of_ble_eq_true rfl)⟩) (pre3V g hK mq3_ kq3_ (by decide) (q := (RX7, TX7, 19)) rfl) rfl rfl hl.1 rfl (lv_room (Nat.le_of_ble_eq_true rfl)) dX2_readAsked_46 ⟨(Nat.le_of_ble_eq_true rfl), (Nat.le_of_ble_eq_true rfl)⟩) g hK (by decide) (by decide) (fx' := [(5, 8, q1_, .int 0), (5, 7, q1_, .int 0), (0, 2, q2_, .ref q6_), (8, 8, q0_, .int x_7), (2, 0, a0_, .ref q0_), (2, 1, a0_, .ref q1_), (2, 2, a0_, .ref q2_), (2, 3, a0_, .ref q3_), (0, 0, q2_, .ref q0_), (0, 1, q2_, .ref q1_), (5, 0, q1_, .ref q6_), (5, 1, q1_, .ref q7_), (7, 13, q3_, .int y0_)]) rfl (fun fr_20 H locs hp hMr_20 g => ?_)
    obtain ⟨x_21, h_22, hF_23⟩ := hp
    have hG_24 := eOK.frame hMr_20 go_.2.2.2.1 mq2_ kq2_ (by decide) (by decide) hG_19
    have g := g.more hF_23
    subst hQ
    exact W.vret hx hb hr (fun t ht hW => ⟨⟨_, rfl, Or.inl ⟨hG_24, x_21, h_22, x_7, h_8, (g.fcts [0, 1, 2, 3, 4] rfl)⟩, q3_of g hK ht hW⟩, g.2.2.1.F ht⟩) g.2.2.1.2.2 dX2_readAsked_49
  · have g := g.more hF_15
    refine lv_aload_n hx hb dX2_readAsked_23 rfl (lv_at hl 0 rfl) ?_
    refine g_getk (C := RX2) (T := TX2) (N := 16) hx hb hts (mc_ inX2) hown hK g rfl 1 (by decide) rfl (hts _ (List.mem_cons_of_mem _ t_417)) (fun _ h9 => h9) 6 rfl dX2_readAsked_24 ?_
    refine lv_iconst (v := 0) hx hb dX2_readAsked_27 (by decide) ?_
    have kb_0 : bd 0 0 (0 : Int32) := ⟨by decide, by decide⟩
    have go_ := g
    refine g_put (C := RX5) (T := TX5) (N := 9) hx hb hts (mc_ inX5) tyX5 tyX5_ok nmX5 hown hK g mq1_ kq1_ (by decide) rfl 7 (by decide) (hts _ (List.mem_cons_of_mem _ t_344)) (fun _ h9 => h9) rfl rfl (okV_i (bd_sub kb_0 (by decide))) rfl rfl (by decide) (Or.inr (Or.inl (by decide))) (fx' := [(8, 6, q0_, .int x_11), (8, 8, q0_, .int x_13), (0, 2, q2_, .ref q6_), (5, 8, q1_, .int x1_), (2, 0, a0_, .ref q0_), (2, 1, a0_, .ref q1_), (2, 2, a0_, .ref q2_), (2, 3, a0_, .ref q3_), (0, 0, q2_, .ref q0_), (0, 1, q2_, .ref q1_), (5, 0, q1_, .ref q6_), (5, 1, q1_, .ref q7_), (7, 13, q3_, .int y0_)]) rfl dX2_readAsked_28 (fun f H locs hM_25 g => ?_)
    have hG_26 := eOK.frame hM_25 go_.2.2.2.1 mq2_ kq2_ (by decide) (by decide) hG_10
    refine lv_aload_n hx hb dX2_readAsked_31 rfl (lv_at hl 0 rfl) ?_
    refine g_getk (C := RX2) (T := TX2) (N := 16) hx hb hts (mc_ inX2) hown hK g rfl 1 (by decide) rfl (hts _ (List.mem_cons_of_mem _ t_417)) (fun _ h9 => h9) 6 rfl dX2_readAsked_32 ?_
    refine lv_iconst (v := 0) hx hb dX2_readAsked_35 (by decide) ?_
    have go_ := g
    refine g_put (C := RX5) (T := TX5) (N := 9) hx hb hts (mc_ inX5) tyX5 tyX5_ok nmX5 hown hK g mq1_ kq1_ (by decide) rfl 8 (by decide) (hts _ (List.mem_cons_of_mem _ t_347)) (fun _ h9 => h9) rfl rfl (okV_i (bd_sub kb_0 (by decide))) rfl rfl (by decide) (Or.inr (Or.inl (by decide))) (fx' := [(5, 7, q1_, .int 0), (8, 6, q0_, .int x_11), (8, 8, q0_, .int x_13), (0, 2, q2_, .ref q6_), (2, 0, a0_, .ref q0_), (2, 1, a0_, .ref q1_), (2, 2, a0_, .ref q2_), (2, 3, a0_, .ref q3_), (0, 0, q2_, .ref q0_), (0, 1, q2_, .ref q1_), (5, 0, q1_, .ref q6_), (5, 1, q1_, .ref q7_), (7, 13, q3_, .int y0_)]) rfl dX2_readAsked_36 (fun f H locs hM_27 g => ?_)
    have hG_28 := eOK.frame hM_27 go_.2.2.2.1 mq2_ kq2_ (by decide) (by decide) hG_26
    refine lv_aload_n hx hb dX2_readAsked_39 rfl (lv_at hl 0 rfl) ?_
    refine g_getk (C := RX2) (T := TX2) (N := 16) hx hb hts (mc_ inX2) hown hK g rfl 3 (by decide) rfl (hts _ (List.mem_cons_of_mem _ t_419)) (fun _ h9 => h9) 8 rfl dX2_readAsked_40 ?_
    refine lv_bipush (v := 26) hx hb dX2_readAsked_43 (by decide) ?_
    refine lv_iconst (v := 0) hx hb dX2_readAsked_45 (by decide) ?_
    have go_ := g
    refine g_callv (va_runV (As := [.int 26, .int 0]) (rest := []) ⟨hx, hb, hml, hown, hts⟩ (r_X7_emit l dC dI L kd tys f H.size g.2.2.2.1 q3_ mq3_ kq3_ 26 0) (cwV 2 hts (gV_ t_1301 t_1204 t_1205 t_191 t_1206) rfl rfl rfl (by decide +kernel) ⟨(Nat.le_of_ble_eq_true rfl), (Nat.le_of_ble_eq_true rfl)⟩) (pre3V g hK mq3_ kq3_ (by decide) (q := (RX7, TX7, 19)) rfl) rfl rfl hl.1 rfl (lv_room (Nat.le_of_ble_eq_true rfl)) dX2_readAsked_46 ⟨(Nat.le_of_ble_eq_true rfl), (Nat.le_of_ble_eq_true rfl)⟩) g hK (by decide) (by decide) (fx' := [(5, 8, q1_, .int 0), (5, 7, q1_, .int 0), (8, 6, q0_, .int x_11), (8, 8, q0_, .int x_13), (0, 2, q2_, .ref q6_), (2, 0, a0_, .ref q0_), (2, 1, a0_, .ref q1_), (2, 2, a0_, .ref q2_), (2, 3, a0_, .ref q3_), (0, 0, q2_, .ref q0_), (0, 1, q2_, .ref q1_), (5, 0, q1_, .ref q6_), (5, 1, q1_, .ref q7_), (7, 13, q3_, .int y0_)]) rfl (fun fr_29 H locs hp hMr_29 g => ?_)
    obtain ⟨x_30, h_31, hF_32⟩ := hp
    have hG_33 := eOK.frame hMr_29 go_.2.2.2.1 mq2_ kq2_ (by decide) (by decide) hG_28
    have g := g.more hF_32
    subst hQ
    exact W.vret hx hb hr (fun t ht hW => ⟨⟨_, rfl, Or.inr (⟨hG_33, x_30, h_31, x_11, h_12, x_13, h_14, (g.fcts [0, 1, 2, 3, 4, 5] rfl)⟩), q3_of g hK ht hW⟩, g.2.2.1.F ht⟩) g.2.2.1.2.2 dX2_readAsked_49
