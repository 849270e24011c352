set_option maxHeartbeats 4000000 in
set_option maxRecDepth 100000 in
theorem r_X0_read (l : Launch) (dC : Nat → ClassId) (dI : Nat → Nat → Nat) (L : List Nat) (kd : Nat → Nat) (tys : List (ClassId × FieldType)) (f0 : Nat → va_E) (sz : Nat) (hWT : WT L kd tys f0) (a0_ : Nat) (ma0_ : a0_ ∈ L) (ka0_ : kd a0_ = 0) (q0_ : Nat) (mq0_ : q0_ ∈ L) (kq0_ : kd q0_ = 8) (q1_ : Nat) (mq1_ : q1_ ∈ L) (kq1_ : kd q1_ = 5) (q2_ : Nat) (mq2_ : q2_ ∈ L) (kq2_ : kd q2_ = 7) (q3_ : Nat) (mq3_ : q3_ ∈ L) (kq3_ : kd q3_ = 9) (y0_ : Int32) (by0_ : bd 0 0 y0_) (hGea0_ : eOK f0 a0_) (hfx : Fs L kd f0 [(0, 0, a0_, .ref q0_), (0, 1, a0_, .ref q1_), (5, 0, q1_, .ref q2_), (5, 1, q1_, .ref q3_), (8, 8, q0_, .int y0_)]) : Met l yX0_read (.code yX0_read cX0_read 3 none :: lw_g) ({ frames := 3, cells := 0, slots := 0, locals := 75 }) (va_Pc [.ref a0_] (P3 (dC, dI) L tys f0 sz)) (va_Qv (fun (f : Nat → va_E) => (eOK f a0_ ∧ Fs L kd f [(0, 2, a0_, .ref q2_), (8, 8, q0_, .int y0_)]) ∨ (eOK f a0_ ∧ ∃ z0_ : Int32, bd 1201 1201 z0_ ∧ ∃ z1_ : Int32, bd 1 7 z1_ ∧ Fs L kd f [(8, 6, q0_, .int z0_), (8, 8, q0_, .int z1_), (0, 2, a0_, .ref q2_)])) (Q3 (dC, dI) L kd tys [(0, 2), (0, 8), (0, 10), (0, 11), (0, 12), (0, 13), (7, 6), (7, 18), (8, 6), (8, 8), (8, 9)] [110, 111, 112, 113, 114, 115, 138, 139] f0 sz) (pA L sz)) 0 0 (pA L sz) := by
  refine Met.ofW (cc := cX0_read) (maxL := 3) (ret := none) (by decide) rfl ?_
  intro p e s m args below meth c s₁ B hml hv
  obtain ⟨rfl, hsz, hP, hK, hD0⟩ := hv
  have hx := B.exec
  have hb := B.bytes
  have hr := B.returns
  have hts := atoms_spec (ws := (.code yX0_read cX0_read 3 none :: lw_g)) B.pre
  have hown : s.vm.findClass RX0 = some m.cls := findClass_of_methodNamed B.named
  have hlocks := B.notSynchronized
  subst hsz
  have g : G3 (dC, dI) L kd tys s f0 [(0, 2), (0, 8), (0, 10), (0, 11), (0, 12), (0, 13), (7, 6), (7, 18), (8, 6), (8, 8), (8, 9)] [110, 111, 112, 113, 114, 115, 138, 139] f0 s.heap [] [(0, 0, a0_, .ref q0_), (0, 1, a0_, .ref q1_), (5, 0, q1_, .ref q2_), (5, 1, q1_, .ref q3_), (8, 8, q0_, .int y0_)] := G3.start hP hD0 hWT hfx
  have hl := lv_entry ([.ref a0_]) (n := 3) (Nat.le_of_ble_eq_true rfl)
  rw [lg_entry_eq]
  generalize (lg_sl ([.ref a0_]) ++ List.replicate (3 - (lg_sl ([.ref a0_])).length) Slot.unset).toArray = ls at hl ⊢
  have hl : lv_has ls 3 [(0, .ref a0_)] := hl
  refine W_q (fun Q hQ => ?_)
  refine lv_aload_n hx hb dX0_read_0 rfl (lv_at hl 0 rfl) ?_
  refine lv_aload_n hx hb dX0_read_1 rfl (lv_at hl 0 rfl) ?_
  refine g_getk (C := RX0) (T := TX0) (N := 14) hx hb hts (mc_ inX0) hown hK g rfl 1 (by decide) rfl (hts _ (List.mem_cons_of_mem _ t_374)) (fun _ h9 => h9) 1 rfl dX0_read_2 ?_
  refine g_getk (C := RX5) (T := TX5) (N := 9) hx hb hts (mc_ inX5) hown hK g rfl 0 (by decide) rfl (hts _ (List.mem_cons_of_mem _ t_328)) (fun _ h9 => h9) 2 rfl dX0_read_5 ?_
  have go_ := g
  refine g_put (C := RX0) (T := TX0) (N := 14) hx hb hts (mc_ inX0) tyX0 tyX0_ok nmX0 hown hK g ma0_ ka0_ (by decide) rfl 2 (by decide) (hts _ (List.mem_cons_of_mem _ t_375)) (fun _ h9 => h9) rfl rfl (okV_n mq2_ kq2_ (by decide)) rfl rfl (by decide) (Or.inr (Or.inl (by decide))) (fx' := [(0, 0, a0_, .ref q0_), (0, 1, a0_, .ref q1_), (5, 0, q1_, .ref q2_), (5, 1, q1_, .ref q3_), (8, 8, q0_, .int y0_)]) rfl dX0_read_8 (fun f H locs hM_1 g => ?_)
  have hG_2 := eOK.frame hM_1 go_.2.2.2.1 ma0_ ka0_ (by decide) (by decide) hGea0_
  refine lv_aload_n hx hb dX0_read_11 rfl (lv_at hl 0 rfl) ?_
  refine lv_iconst (v := 0) hx hb dX0_read_12 (by decide) ?_
  have kb_0 : bd 0 0 (0 : Int32) := ⟨by decide, by decide⟩
  have go_ := g
  refine g_put (C := RX0) (T := TX0) (N := 14) hx hb hts (mc_ inX0) tyX0 tyX0_ok nmX0 hown hK g ma0_ ka0_ (by decide) rfl 8 (by decide) (hts _ (List.mem_cons_of_mem _ t_381)) (fun _ h9 => h9) rfl rfl (okV_i (bd_sub kb_0 (by decide))) rfl rfl (by decide) (Or.inr (Or.inl (by decide))) (fx' := [(0, 2, a0_, .ref q2_), (0, 0, a0_, .ref q0_), (0, 1, a0_, .ref q1_), (5, 0, q1_, .ref q2_), (5, 1, q1_, .ref q3_), (8, 8, q0_, .int y0_)]) rfl dX0_read_13 (fun f H locs hM_3 g => ?_)
  have hG_4 := eOK.frame hM_3 go_.2.2.2.1 ma0_ ka0_ (by decide) (by decide) hG_2
  refine lv_aload_n hx hb dX0_read_16 rfl (lv_at hl 0 rfl) ?_
  refine lv_iconst (v := 0) hx hb dX0_read_17 (by decide) ?_
  have go_ := g
  refine g_put (C := RX0) (T := TX0) (N := 14) hx hb hts (mc_ inX0) tyX0 tyX0_ok nmX0 hown hK g ma0_ ka0_ (by decide) rfl 10 (by decide) (hts _ (List.mem_cons_of_mem _ t_383)) (fun _ h9 => h9) rfl rfl (okV_i (bd_sub kb_0 (by decide))) rfl rfl (by decide) (Or.inr (Or.inl (by decide))) (fx' := [(0, 8, a0_, .int 0), (0, 2, a0_, .ref q2_), (0, 0, a0_, .ref q0_), (0, 1, a0_, .ref q1_), (5, 0, q1_, .ref q2_), (5, 1, q1_, .ref q3_), (8, 8, q0_, .int y0_)]) rfl dX0_read_18 (fun f H locs hM_5 g => ?_)
  have hG_6 := eOK.frame hM_5 go_.2.2.2.1 ma0_ ka0_ (by decide) (by decide) hG_4
  refine lv_aload_n hx hb dX0_read_21 rfl (lv_at hl 0 rfl) ?_
  refine lv_iconst (v := 0) hx hb dX0_read_22 (by decide) ?_
  have go_ := g
  refine g_put (C := RX0) (T := TX0) (N := 14) hx hb hts (mc_ inX0) tyX0 tyX0_ok nmX0 hown hK g ma0_ ka0_ (by decide) rfl 11 (by decide) (hts _ (List.mem_cons_of_mem _ t_384)) (fun _ h9 => h9) rfl rfl (okV_i (bd_sub kb_0 (by decide))) rfl rfl (by decide) (Or.inr (Or.inl (by decide))) (fx' := [(0, 10, a0_, .int 0), (0, 8, a0_, .int 0), (0, 2, a0_, .ref q2_), (0, 0, a0_, .ref q0_), (0, 1, a0_, .ref q1_), (5, 0, q1_, .ref q2_), (5, 1, q1_, .ref q3_), (8, 8, q0_, .int y0_)]) rfl dX0_read_23 (fun f H locs hM_7 g => ?_)
  have hG_8 := eOK.frame hM_7 go_.2.2.2.1 ma0_ ka0_ (by decide) (by decide) hG_6
  refine lv_aload_n hx hb dX0_read_26 rfl (lv_at hl 0 rfl) ?_
  refine lv_iconst (v := 1) hx hb dX0_read_27 (by decide) ?_
  have kb_1 : bd 1 1 (1 : Int32) := ⟨by decide, by decide⟩
  have go_ := g
  refine g_put (C := RX0) (T := TX0) (N := 14) hx hb hts (mc_ inX0) tyX0 tyX0_ok nmX0 hown hK g ma0_ ka0_ (by decide) rfl 12 (by decide) (hts _ (List.mem_cons_of_mem _ t_385)) (fun _ h9 => h9) rfl rfl (okV_i (bd_sub kb_1 (by decide))) rfl rfl (by decide) (Or.inr (Or.inl (by decide))) (fx' := [(0, 11, a0_, .int 0), (0, 10, a0_, .int 0), (0, 8, a0_, .int 0), (0, 2, a0_, .ref q2_), (0, 0, a0_, .ref q0_), (0, 1, a0_, .ref q1_), (5, 0, q1_, .ref q2_), (5, 1, q1_, .ref q3_), (8, 8, q0_, .int y0_)]) rfl dX0_read_28 (fun f H locs hM_9 g => ?_)
  have hG_10 := eOK.frame hM_9 go_.2.2.2.1 ma0_ ka0_ (by decide) (by decide) hG_8
  refine lv_aload_n hx hb dX0_read_31 rfl (lv_at hl 0 rfl) ?_
  refine lv_iconst (v := 0) hx hb dX0_read_32 (by decide) ?_
  have go_ := g
  refine g_put (C := RX0) (T := TX0) (N := 14) hx hb hts (mc_ inX0) tyX0 tyX0_ok nmX0 hown hK g ma0_ ka0_ (by decide) rfl 13 (by decide) (hts _ (List.mem_cons_of_mem _ t_386)) (fun _ h9 => h9) rfl rfl (okV_i (bd_sub kb_0 (by decide))) rfl rfl (by decide) (Or.inr (Or.inl (by decide))) (fx' := [(0, 12, a0_, .int 1), (0, 11, a0_, .int 0), (0, 10, a0_, .int 0), (0, 8, a0_, .int 0), (0, 2, a0_, .ref q2_), (0, 0, a0_, .ref q0_), (0, 1, a0_, .ref q1_), (5, 0, q1_, .ref q2_), (5, 1, q1_, .ref q3_), (8, 8, q0_, .int y0_)]) rfl dX0_read_33 (fun f H locs hM_11 g => ?_)
  have hG_12 := eOK.frame hM_11 go_.2.2.2.1 ma0_ ka0_ (by decide) (by decide) hG_10
  refine lv_iconst (v := 0) hx hb dX0_read_36 (by decide) ?_
  refine lv_istore_n (lv' := [(1, .int 0), (0, .ref a0_)]) hx hb dX0_read_37 rfl hl (by decide) rfl (fun ls hl => ?_)
  have loop_13 : ∀ (n : Nat) (v38_1 : Int32), bd 0 2401 v38_1 → (2401 - v38_1.toInt < (n : Int)) → ∀ (f : Nat → va_E) (H : Heap) (locs : List Loc) (ls : Array Slot), G3 (dC, dI) L kd tys s f0 [(0, 2), (0, 8), (0, 10), (0, 11), (0, 12), (0, 13), (7, 6), (7, 18), (8, 6), (8, 8), (8, 9)] [110, 111, 112, 113, 114, 115, 138, 139] f H locs [(0, 2, a0_, .ref q2_), (0, 0, a0_, .ref q0_), (0, 1, a0_, .ref q1_), (5, 0, q1_, .ref q2_), (5, 1, q1_, .ref q3_), (8, 8, q0_, .int y0_)] → eOK f a0_ → lv_has ls 3 [(1, .int v38_1), (0, .ref a0_)] → W p l e ({ frames := 3, cells := 0, slots := 0, locals := 75 } : Room) s m [.ref a0_].toArray below meth c H locs 0 0 Q (F0 m 38 ls []) := by
    intro n38
    induction n38 with
    | zero =>
      intro v38_1 bv38_1 hm38 f H locs ls g hG38_e_a0_ hl
      exact absurd hm38 (by have h9_v38_1 := bv38_1; unfold bd at h9_v38_1; omega)
    | succ n38 ih38 =>
      intro v38_1 bv38_1 hm38 f H locs ls g hG38_e_a0_ hl
      refine lv_iload_n hx hb dX0_read_38 rfl (lv_at hl 0 rfl) ?_
      refine lv_sipush (v := 2400) hx hb dX0_read_39 (by decide) ?_
      have kb_2400 : bd 2400 2400 (2400 : Int32) := ⟨by decide, by decide⟩
      refine lv_icmp_gt (tgt := 228) hx hb dX0_read_42 (by decide) (fun c_14 => ?_) (fun c_14 => ?_)
      · have fc_14 := lt_f c_14
        have b_15 : bd 2401 2401 v38_1 := ltR fc_14 kb_2400 bv38_1 (by decide)
        subst hQ
        exact W.vret hx hb hr (fun t ht hW => ⟨⟨_, rfl, Or.inl ⟨hG38_e_a0_, (g.fcts [0, 5] rfl)⟩, q3_of g hK ht hW⟩, g.2.2.1.F ht⟩) g.2.2.1.2.2 dX0_read_228
      · have fc_14 := nlt_f c_14
        have b_16 : bd 0 2400 v38_1 := leL fc_14 bv38_1 kb_2400 (by decide)
        refine lv_aload_n hx hb dX0_read_45 rfl (lv_at hl 1 rfl) ?_
        refine g_geti (C := RX0) (T := TX0) (N := 14) hx hb hts (mc_ inX0) hown hK g ma0_ ka0_ (by decide) rfl 13 (by decide) rfl (hts _ (List.mem_cons_of_mem _ t_386)) (fun _ h9 => h9) rfl dX0_read_46 (fun x_17 bx_17 g => ?_)
        refine lv_if_ne (tgt := 228) hx hb dX0_read_49 (by decide) (fun c_18 => ?_) (fun c_18 => ?_)
        · have fc_18 := neq_f c_18
          have b_19 : bd 1 1 x_17 := neX fc_18 bx_17 kb_0 (by decide)
          subst hQ
          exact W.vret hx hb hr (fun t ht hW => ⟨⟨_, rfl, Or.inl ⟨hG38_e_a0_, (g.fcts [1, 6] rfl)⟩, q3_of g hK ht hW⟩, g.2.2.1.F ht⟩) g.2.2.1.2.2 dX0_read_228
        · have fc_18 := eq_f c_18
          have b_20 : bd 0 0 x_17 := eqX fc_18 bx_17 kb_0 (by decide)
          refine lv_aload_n hx hb dX0_read_52 rfl (lv_at hl 1 rfl) ?_
          refine g_getk (C := RX0) (T := TX0) (N := 14) hx hb hts (mc_ inX0) hown hK g rfl 0 (by decide) rfl (hts _ (List.mem_cons_of_mem _ t_373)) (fun _ h9 => h9) 2 rfl dX0_read_53 ?_
          refine g_getk (C := RX8) (T := TX8) (N := 10) hx hb hts (mc_ inX8) hown hK g rfl 8 (by decide) rfl (hts _ (List.mem_cons_of_mem _ t_293)) (fun _ h9 => h9) 6 rfl dX0_read_56 ?_
          refine lv_if_ne (tgt := 228) hx hb dX0_read_59 (by decide) (fun c_21 => ?_) (fun c_21 => ?_)
          · have fc_21 := neq_f c_21
            have b_22 : bd 1 (-1) y0_ := neX fc_21 by0_ kb_0 (by decide)
            exact bd_no b_22 (by decide)
          · have fc_21 := eq_f c_21
            refine lv_aload_n hx hb dX0_read_62 rfl (lv_at hl 1 rfl) ?_
            refine g_getk (C := RX0) (T := TX0) (N := 14) hx hb hts (mc_ inX0) hown hK g rfl 0 (by decide) rfl (hts _ (List.mem_cons_of_mem _ t_373)) (fun _ h9 => h9) 2 rfl dX0_read_63 ?_
            have go_ := g
            refine g_calli (va_runV (As := []) (rest := []) ⟨hx, hb, hml, hown, hts⟩ (r_X8_kind l dC dI L kd tys f H.size g.2.2.2.1 q0_ mq0_ kq0_) (cwV 0 hts (gV_ t_1186 t_1119 t_1120 t_184 t_1121) rfl rfl rfl (by decide +kernel) ⟨(Nat.le_of_ble_eq_true rfl), (Nat.le_of_ble_eq_true rfl)⟩) (pre3V g hK mq0_ kq0_ (by decide) (q := (RX8, TX8, 10)) rfl) rfl rfl hl.1 rfl (lv_room (Nat.le_of_ble_eq_true rfl)) dX0_read_66 ⟨(Nat.le_of_ble_eq_true rfl), (Nat.le_of_ble_eq_true rfl)⟩) g hK (by decide) (by decide) (fx' := [(0, 13, a0_, .int x_17), (0, 2, a0_, .ref q2_), (0, 0, a0_, .ref q0_), (0, 1, a0_, .ref q1_), (5, 0, q1_, .ref q2_), (5, 1, q1_, .ref q3_), (8, 8, q0_, .int y0_)]) rfl (fun r_23 fr_23 H locs hp hMr_23 g => ?_)
            have hG_24 := eOK.frame hMr_23 go_.2.2.2.1 ma0_ ka0_ (by decide) (by decide) hG38_e_a0_
            refine lv_istore_n (lv' := [(2, .int r_23), (1, .int v38_1), (0, .ref a0_)]) hx hb dX0_read_69 rfl hl (by decide) rfl (fun ls hl => ?_)
            refine lv_aload_n hx hb dX0_read_70 rfl (lv_at hl 2 rfl) ?_
            refine g_geti (C := RX0) (T := TX0) (N := 14) hx hb hts (mc_ inX0) hown hK g ma0_ ka0_ (by decide) rfl 12 (by decide) rfl (hts _ (List.mem_cons_of_mem _ t_385)) (fun _ h9 => h9) rfl dX0_read_71 (fun x_25 bx_25 g => ?_)
            refine lv_if_ne (tgt := 85) hx hb dX0_read_74 (by decide) (fun c_26 => ?_) (fun c_26 => ?_)
            · have fc_26 := neq_f c_26
              have b_27 : bd 1 1 x_25 := neX fc_26 bx_25 kb_0 (by decide)
              refine lv_iload_n hx hb dX0_read_85 rfl (lv_at hl 0 rfl) ?_
              refine lv_iconst (v := 3) hx hb dX0_read_86 (by decide) ?_
              have kb_3 : bd 3 3 (3 : Int32) := ⟨by decide, by decide⟩
              refine lv_icmp_ne (tgt := 97) hx hb dX0_read_87 (by decide) (fun c_28 => ?_) (fun c_28 => ?_)
              · have fc_28 := neq_f c_28
                refine lv_iload_n hx hb dX0_read_97 rfl (lv_at hl 0 rfl) ?_
                refine lv_iconst (v := 4) hx hb dX0_read_98 (by decide) ?_
                have kb_4 : bd 4 4 (4 : Int32) := ⟨by decide, by decide⟩
                refine lv_icmp_ne (tgt := 109) hx hb dX0_read_99 (by decide) (fun c_29 => ?_) (fun c_29 => ?_)
                · have fc_29 := neq_f c_29
                  refine lv_iload_n hx hb dX0_read_109 rfl (lv_at hl 0 rfl) ?_
                  refine lv_bipush (v := 40) hx hb dX0_read_110 (by decide) ?_
                  have kb_40 : bd 40 40 (40 : Int32) := ⟨by decide, by decide⟩
                  refine lv_icmp_eq (tgt := 127) hx hb dX0_read_112 (by decide) (fun c_30 => ?_) (fun c_30 => ?_)
                  · have fc_30 := eq_f c_30
                    have b_31 : bd 40 40 r_23 := eqX fc_30 (bdT r_23) kb_40 (by decide)
                    refine lv_aload_n hx hb dX0_read_127 rfl (lv_at hl 2 rfl) ?_
                    refine lv_iload_n hx hb dX0_read_128 rfl (lv_at hl 0 rfl) ?_
                    have go_ := g
                    refine g_callv (va_runV (As := [.int r_23]) (rest := []) ⟨hx, hb, hml, hown, hts⟩ (r_X0_openSign_2 l dC dI L kd tys fr_23 H.size g.2.2.2.1 a0_ ma0_ ka0_ r_23 q0_ mq0_ kq0_ q2_ mq2_ kq2_ y0_ by0_ hG_24 (g.fcts [3, 2, 7] rfl)) (cwV 1 hts (gV_ t_1272 t_1274 t_26 t_190 t_1275) rfl rfl rfl (by decide +kernel) ⟨(Nat.le_of_ble_eq_true rfl), (Nat.le_of_ble_eq_true rfl)⟩) (pre3V g hK ma0_ ka0_ (by decide) (q := (RX0, TX0, 14)) rfl) rfl rfl hl.1 rfl (lv_room (Nat.le_of_ble_eq_true rfl)) dX0_read_129 ⟨(Nat.le_of_ble_eq_true rfl), (Nat.le_of_ble_eq_true rfl)⟩) g hK (by decide) (by decide) (fx' := [(0, 12, a0_, .int x_25), (0, 13, a0_, .int x_17), (0, 2, a0_, .ref q2_), (0, 0, a0_, .ref q0_), (0, 1, a0_, .ref q1_), (5, 0, q1_, .ref q2_), (5, 1, q1_, .ref q3_)]) rfl (fun fr_32 H locs hp hMr_32 g => ?_)
                    rcases hp with ⟨hG_33, x_34, h_35, x_36, h_37, x_38, h_39, hF_40⟩ | ⟨hG_41, x_42, h_43, x_44, h_45, hF_46⟩
                    · have g := g.more hF_40
                      refine lv_goto (tgt := 222) hx hb dX0_read_132 (by decide) ?_
                      obtain ⟨y_47, ey_47⟩ : ∃ z : Int32, z = v38_1 + 1 := ⟨_, rfl⟩
                      refine lv_iinc (v := y_47) (lv' := [(1, .int y_47), (2, .int r_23), (0, .ref a0_)]) hx hb dX0_read_222 hl (k := 1) rfl (by rw [ey_47]; rfl) (by decide) rfl (fun ls hl => ?_)
                      have ty_47 := add_bd ey_47 b_16 kb_1 (by decide)
                      have b_48 : bd 1 2401 y_47 := add_rg ty_47 b_16 kb_1 (by decide)
                      refine lv_goto (tgt := 38) hx hb dX0_read_225 (by decide) ?_
                      have hl9 := lv_sub hl [0, 2] (by rfl : lv_pick [(1, .int y_47), (2, .int r_23), (0, .ref a0_)] [0, 2] = [(1, .int y_47), (0, .ref a0_)])
                      have g9 := g.sub (fx' := [(0, 2, a0_, .ref q2_), (0, 0, a0_, .ref q0_), (0, 1, a0_, .ref q1_), (5, 0, q1_, .ref q2_), (5, 1, q1_, .ref q3_), (8, 8, q0_, .int y0_)]) [6, 7, 8, 9, 10, 3] rfl
                      exact ih38  y_47 (bd_sub b_48 (by decide)) (by have h9_0 := b_27; unfold bd at h9_0; have h9_1 := b_48; unfold bd at h9_1; have h9_2 := bv38_1; unfold bd at h9_2; have h9_3 := h_37; unfold bd at h9_3; have h9_4 := h_39; unfold bd at h9_4; have h9_5 := kb_0; unfold bd at h9_5; have h9_6 := kb_1; unfold bd at h9_6; have h9_7 := kb_2400; unfold bd at h9_7; have h9_8 := kb_3; unfold bd at h9_8; have h9_9 := kb_4; unfold bd at h9_9; have h9_10 := kb_40; unfold bd at h9_10; omega) _ _ _ _ g9 hG_33 hl9
                    · have g := g.more hF_46
                      refine lv_goto (tgt := 222) hx hb dX0_read_132 (by decide) ?_
                      obtain ⟨y_49, ey_49⟩ : ∃ z : Int32, z = v38_1 + 1 := ⟨_, rfl⟩
                      refine lv_iinc (v := y_49) (lv' := [(1, .int y_49), (2, .int r_23), (0, .ref a0_)]) hx hb dX0_read_222 hl (k := 1) rfl (by rw [ey_49]; rfl) (by decide) rfl (fun ls hl => ?_)
                      have ty_49 := add_bd ey_49 b_16 kb_1 (by decide)
                      have b_50 : bd 1 2401 y_49 := add_rg ty_49 b_16 kb_1 (by decide)
                      refine lv_goto (tgt := 38) hx hb dX0_read_225 (by decide) ?_
                      refine lv_iload_n hx hb dX0_read_38 rfl (lv_at hl 0 rfl) ?_
                      refine lv_sipush (v := 2400) hx hb dX0_read_39 (by decide) ?_
                      refine lv_icmp_gt (tgt := 228) hx hb dX0_read_42 (by decide) (fun c_51 => ?_) (fun c_51 => ?_)
                      · have fc_51 := lt_f c_51
                        have b_52 : bd 2401 2401 y_49 := ltR fc_51 kb_2400 b_50 (by decide)
                        have b_53 : bd 2400 2400 v38_1 := add_inv ty_49 b_52 b_16 kb_1 (by decide)
                        have kb_1201 : bd 1201 1201 (1201 : Int32) := ⟨by decide, by decide⟩
                        subst hQ
                        exact W.vret hx hb hr (fun t ht hW => ⟨⟨_, rfl, Or.inr (⟨hG_41, 1201, kb_1201, x_44, h_45, (g.fcts [1, 2, 5] rfl)⟩), q3_of g hK ht hW⟩, g.2.2.1.F ht⟩) g.2.2.1.2.2 dX0_read_228
                      · have fc_51 := nlt_f c_51
                        have b_54 : bd 1 2400 y_49 := leL fc_51 b_50 kb_2400 (by decide)
                        have b_55 : bd 0 2399 v38_1 := add_inv ty_49 b_54 b_16 kb_1 (by decide)
                        refine lv_aload_n hx hb dX0_read_45 rfl (lv_at hl 2 rfl) ?_
                        refine g_getk (C := RX0) (T := TX0) (N := 14) hx hb hts (mc_ inX0) hown hK g rfl 13 (by decide) rfl (hts _ (List.mem_cons_of_mem _ t_386)) (fun _ h9 => h9) 4 rfl dX0_read_46 ?_
                        refine lv_if_ne (tgt := 228) hx hb dX0_read_49 (by decide) (fun c_56 => ?_) (fun c_56 => ?_)
                        · have fc_56 := neq_f c_56
                          have b_57 : bd 1 (-1) x_17 := neX fc_56 b_20 kb_0 (by decide)
                          exact bd_no b_57 (by decide)
                        · have fc_56 := eq_f c_56
                          refine lv_aload_n hx hb dX0_read_52 rfl (lv_at hl 2 rfl) ?_
                          refine g_getk (C := RX0) (T := TX0) (N := 14) hx hb hts (mc_ inX0) hown hK g rfl 0 (by decide) rfl (hts _ (List.mem_cons_of_mem _ t_373)) (fun _ h9 => h9) 6 rfl dX0_read_53 ?_
                          refine g_getk (C := RX8) (T := TX8) (N := 10) hx hb hts (mc_ inX8) hown hK g rfl 8 (by decide) rfl (hts _ (List.mem_cons_of_mem _ t_293)) (fun _ h9 => h9) 2 rfl dX0_read_56 ?_
                          refine lv_if_ne (tgt := 228) hx hb dX0_read_59 (by decide) (fun c_58 => ?_) (fun c_58 => ?_)
                          · have fc_58 := neq_f c_58
                            have kb_1201 : bd 1201 1201 (1201 : Int32) := ⟨by decide, by decide⟩
                            subst hQ
                            exact W.vret hx hb hr (fun t ht hW => ⟨⟨_, rfl, Or.inr (⟨hG_41, 1201, kb_1201, x_44, h_45, (g.fcts [1, 2, 5] rfl)⟩), q3_of g hK ht hW⟩, g.2.2.1.F ht⟩) g.2.2.1.2.2 dX0_read_228
                          · have fc_58 := eq_f c_58
                            have b_59 : bd 1 0 x_44 := eqX fc_58 h_45 kb_0 (by decide)
                            exact bd_no b_59 (by decide)
                  · have fc_30 := neq_f c_30
                    refine lv_iload_n hx hb dX0_read_115 rfl (lv_at hl 0 rfl) ?_
                    refine lv_bipush (v := 45) hx hb dX0_read_116 (by decide) ?_
                    have kb_45 : bd 45 45 (45 : Int32) := ⟨by decide, by decide⟩
                    refine lv_icmp_eq (tgt := 127) hx hb dX0_read_118 (by decide) (fun c_60 => ?_) (fun c_60 => ?_)
                    · have fc_60 := eq_f c_60
                      have b_61 : bd 45 45 r_23 := eqX fc_60 (bdT r_23) kb_45 (by decide)
                      refine lv_aload_n hx hb dX0_read_127 rfl (lv_at hl 2 rfl) ?_
                      refine lv_iload_n hx hb dX0_read_128 rfl (lv_at hl 0 rfl) ?_
                      have go_ := g
                      refine g_callv (va_runV (As := [.int r_23]) (rest := []) ⟨hx, hb, hml, hown, hts⟩ (r_X0_openSign_2 l dC dI L kd tys fr_23 H.size g.2.2.2.1 a0_ ma0_ ka0_ r_23 q0_ mq0_ kq0_ q2_ mq2_ kq2_ y0_ by0_ hG_24 (g.fcts [3, 2, 7] rfl)) (cwV 1 hts (gV_ t_1272 t_1274 t_26 t_190 t_1275) rfl rfl rfl (by decide +kernel) ⟨(Nat.le_of_ble_eq_true rfl), (Nat.le_of_ble_eq_true rfl)⟩) (pre3V g hK ma0_ ka0_ (by decide) (q := (RX0, TX0, 14)) rfl) rfl rfl hl.1 rfl (lv_room (Nat.le_of_ble_eq_true rfl)) dX0_read_129 ⟨(Nat.le_of_ble_eq_true rfl), (Nat.le_of_ble_eq_true rfl)⟩) g hK (by decide) (by decide) (fx' := [(0, 12, a0_, .int x_25), (0, 13, a0_, .int x_17), (0, 2, a0_, .ref q2_), (0, 0, a0_, .ref q0_), (0, 1, a0_, .ref q1_), (5, 0, q1_, .ref q2_), (5, 1, q1_, .ref q3_)]) rfl (fun fr_62 H locs hp hMr_62 g => ?_)
                      rcases hp with ⟨hG_63, x_64, h_65, x_66, h_67, x_68, h_69, hF_70⟩ | ⟨hG_71, x_72, h_73, x_74, h_75, hF_76⟩
                      · have g := g.more hF_70
                        refine lv_goto (tgt := 222) hx hb dX0_read_132 (by decide) ?_
                        obtain ⟨y_77, ey_77⟩ : ∃ z : Int32, z = v38_1 + 1 := ⟨_, rfl⟩
                        refine lv_iinc (v := y_77) (lv' := [(1, .int y_77), (2, .int r_23), (0, .ref a0_)]) hx hb dX0_read_222 hl (k := 1) rfl (by rw [ey_77]; rfl) (by decide) rfl (fun ls hl => ?_)
                        have ty_77 := add_bd ey_77 b_16 kb_1 (by decide)
                        have b_78 : bd 1 2401 y_77 := add_rg ty_77 b_16 kb_1 (by decide)
                        refine lv_goto (tgt := 38) hx hb dX0_read_225 (by decide) ?_
                        have hl9 := lv_sub hl [0, 2] (by rfl : lv_pick [(1, .int y_77), (2, .int r_23), (0, .ref a0_)] [0, 2] = [(1, .int y_77), (0, .ref a0_)])
                        have g9 := g.sub (fx' := [(0, 2, a0_, .ref q2_), (0, 0, a0_, .ref q0_), (0, 1, a0_, .ref q1_), (5, 0, q1_, .ref q2_), (5, 1, q1_, .ref q3_), (8, 8, q0_, .int y0_)]) [6, 7, 8, 9, 10, 3] rfl
                        exact ih38  y_77 (bd_sub b_78 (by decide)) (by have h9_0 := b_27; unfold bd at h9_0; have h9_1 := b_78; unfold bd at h9_1; have h9_2 := bv38_1; unfold bd at h9_2; have h9_3 := h_67; unfold bd at h9_3; have h9_4 := h_69; unfold bd at h9_4; have h9_5 := kb_0; unfold bd at h9_5; have h9_6 := kb_1; unfold bd at h9_6; have h9_7 := kb_2400; unfold bd at h9_7; have h9_8 := kb_3; unfold bd at h9_8; have h9_9 := kb_4; unfold bd at h9_9; have h9_10 := kb_40; unfold bd at h9_10; have h9_11 := kb_45; unfold bd at h9_11; omega) _ _ _ _ g9 hG_63 hl9
                      · have g := g.more hF_76
                        refine lv_goto (tgt := 222) hx hb dX0_read_132 (by decide) ?_
                        obtain ⟨y_79, ey_79⟩ : ∃ z : Int32, z = v38_1 + 1 := ⟨_, rfl⟩
                        refine lv_iinc (v := y_79) (lv' := [(1, .int y_79), (2, .int r_23), (0, .ref a0_)]) hx hb dX0_read_222 hl (k := 1) rfl (by rw [ey_79]; rfl) (by decide) rfl (fun ls hl => ?_)
                        have ty_79 := add_bd ey_79 b_16 kb_1 (by decide)
                        have b_80 : bd 1 2401 y_79 := add_rg ty_79 b_16 kb_1 (by decide)
                        refine lv_goto (tgt := 38) hx hb dX0_read_225 (by decide) ?_
                        refine lv_iload_n hx hb dX0_read_38 rfl (lv_at hl 0 rfl) ?_
                        refine lv_sipush (v := 2400) hx hb dX0_read_39 (by decide) ?_
                        refine lv_icmp_gt (tgt := 228) hx hb dX0_read_42 (by decide) (fun c_81 => ?_) (fun c_81 => ?_)
                        · have fc_81 := lt_f c_81
                          have b_82 : bd 2401 2401 y_79 := ltR fc_81 kb_2400 b_80 (by decide)
                          have b_83 : bd 2400 2400 v38_1 := add_inv ty_79 b_82 b_16 kb_1 (by decide)
                          have kb_1201 : bd 1201 1201 (1201 : Int32) := ⟨by decide, by decide⟩
                          subst hQ
                          exact W.vret hx hb hr (fun t ht hW => ⟨⟨_, rfl, Or.inr (⟨hG_71, 1201, kb_1201, x_74, h_75, (g.fcts [1, 2, 5] rfl)⟩), q3_of g hK ht hW⟩, g.2.2.1.F ht⟩) g.2.2.1.2.2 dX0_read_228
                        · have fc_81 := nlt_f c_81
                          have b_84 : bd 1 2400 y_79 := leL fc_81 b_80 kb_2400 (by decide)
                          have b_85 : bd 0 2399 v38_1 := add_inv ty_79 b_84 b_16 kb_1 (by decide)
                          refine lv_aload_n hx hb dX0_read_45 rfl (lv_at hl 2 rfl) ?_
                          refine g_getk (C := RX0) (T := TX0) (N := 14) hx hb hts (mc_ inX0) hown hK g rfl 13 (by decide) rfl (hts _ (List.mem_cons_of_mem _ t_386)) (fun _ h9 => h9) 4 rfl dX0_read_46 ?_
                          refine lv_if_ne (tgt := 228) hx hb dX0_read_49 (by decide) (fun c_86 => ?_) (fun c_86 => ?_)
                          · have fc_86 := neq_f c_86
                            have b_87 : bd 1 (-1) x_17 := neX fc_86 b_20 kb_0 (by decide)
                            exact bd_no b_87 (by decide)
                          · have fc_86 := eq_f c_86
                            refine lv_aload_n hx hb dX0_read_52 rfl (lv_at hl 2 rfl) ?_
                            refine g_getk (C := RX0) (T := TX0) (N := 14) hx hb hts (mc_ inX0) hown hK g rfl 0 (by decide) rfl (hts _ (List.mem_cons_of_mem _ t_373)) (fun _ h9 => h9) 6 rfl dX0_read_53 ?_
                            refine g_getk (C := RX8) (T := TX8) (N := 10) hx hb hts (mc_ inX8) hown hK g rfl 8 (by decide) rfl (hts _ (List.mem_cons_of_mem _ t_293)) (fun _ h9 => h9) 2 rfl dX0_read_56 ?_
                            refine lv_if_ne (tgt := 228) hx hb dX0_read_59 (by decide) (fun c_88 => ?_) (fun c_88 => ?_)
                            · have fc_88 := neq_f c_88
                              have kb_1201 : bd 1201 1201 (1201 : Int32) := ⟨by decide, by decide⟩
                              subst hQ
                              exact W.vret hx hb hr (fun t ht hW => ⟨⟨_, rfl, Or.inr (⟨hG_71, 1201, kb_1201, x_74, h_75, (g.fcts [1, 2, 5] rfl)⟩), q3_of g hK ht hW⟩, g.2.2.1.F ht⟩) g.2.2.1.2.2 dX0_read_228
                            · have fc_88 := eq_f c_88
                              have b_89 : bd 1 0 x_74 := eqX fc_88 h_75 kb_0 (by decide)
                              exact bd_no b_89 (by decide)
                    · have fc_60 := neq_f c_60
                      refine lv_iload_n hx hb dX0_read_121 rfl (lv_at hl 0 rfl) ?_
                      refine lv_bipush (v := 33) hx hb dX0_read_122 (by decide) ?_
                      have kb_33 : bd 33 33 (33 : Int32) := ⟨by decide, by decide⟩
                      refine lv_icmp_ne (tgt := 135) hx hb dX0_read_124 (by decide) (fun c_90 => ?_) (fun c_90 => ?_)
                      · have fc_90 := neq_f c_90
                        refine lv_iload_n hx hb dX0_read_135 rfl (lv_at hl 0 rfl) ?_
                        refine lv_bipush (v := 11) hx hb dX0_read_136 (by decide) ?_
                        have kb_11 : bd 11 11 (11 : Int32) := ⟨by decide, by decide⟩
                        refine lv_icmp_ne (tgt := 148) hx hb dX0_read_138 (by decide) (fun c_91 => ?_) (fun c_91 => ?_)
                        · have fc_91 := neq_f c_91
                          refine lv_iload_n hx hb dX0_read_148 rfl (lv_at hl 0 rfl) ?_
                          refine lv_bipush (v := 30) hx hb dX0_read_149 (by decide) ?_
                          have kb_30 : bd 30 30 (30 : Int32) := ⟨by decide, by decide⟩
                          refine lv_icmp_ne (tgt := 161) hx hb dX0_read_151 (by decide) (fun c_92 => ?_) (fun c_92 => ?_)
                          · have fc_92 := neq_f c_92
                            refine lv_iload_n hx hb dX0_read_161 rfl (lv_at hl 0 rfl) ?_
                            refine lv_bipush (v := 28) hx hb dX0_read_162 (by decide) ?_
                            have kb_28 : bd 28 28 (28 : Int32) := ⟨by decide, by decide⟩
                            refine lv_icmp_ne (tgt := 184) hx hb dX0_read_164 (by decide) (fun c_93 => ?_) (fun c_93 => ?_)
                            · have fc_93 := neq_f c_93
                              refine lv_iload_n hx hb dX0_read_184 rfl (lv_at hl 0 rfl) ?_
                              refine lv_bipush (v := 29) hx hb dX0_read_185 (by decide) ?_
                              have kb_29 : bd 29 29 (29 : Int32) := ⟨by decide, by decide⟩
                              refine lv_icmp_ne (tgt := 207) hx hb dX0_read_187 (by decide) (fun c_94 => ?_) (fun c_94 => ?_)
                              · have fc_94 := neq_f c_94
                                refine lv_aload_n hx hb dX0_read_207 rfl (lv_at hl 2 rfl) ?_
                                refine g_getk (C := RX0) (T := TX0) (N := 14) hx hb hts (mc_ inX0) hown hK g rfl 0 (by decide) rfl (hts _ (List.mem_cons_of_mem _ t_373)) (fun _ h9 => h9) 3 rfl dX0_read_208 ?_
                                refine lv_iconst (v := 1) hx hb dX0_read_211 (by decide) ?_
                                refine lv_aload_n hx hb dX0_read_212 rfl (lv_at hl 2 rfl) ?_
                                refine g_getk (C := RX0) (T := TX0) (N := 14) hx hb hts (mc_ inX0) hown hK g rfl 0 (by decide) rfl (hts _ (List.mem_cons_of_mem _ t_373)) (fun _ h9 => h9) 3 rfl dX0_read_213 ?_
                                have go_ := g
                                refine g_calli (va_runV (As := []) (rest := [.int 1, .ref q0_]) ⟨hx, hb, hml, hown, hts⟩ (r_X8_place l dC dI L kd tys fr_23 H.size g.2.2.2.1 q0_ mq0_ kq0_) (cwV 0 hts (gV_ t_1220 t_1111 t_1112 t_184 t_1113) rfl rfl rfl (by decide +kernel) ⟨(Nat.le_of_ble_eq_true rfl), (Nat.le_of_ble_eq_true rfl)⟩) (pre3V g hK mq0_ kq0_ (by decide) (q := (RX8, TX8, 10)) rfl) rfl rfl hl.1 rfl (lv_room (Nat.le_of_ble_eq_true rfl)) dX0_read_216 ⟨(Nat.le_of_ble_eq_true rfl), (Nat.le_of_ble_eq_true rfl)⟩) g hK (by decide) (by decide) (fx' := [(0, 12, a0_, .int x_25), (0, 13, a0_, .int x_17), (0, 2, a0_, .ref q2_), (0, 0, a0_, .ref q0_), (0, 1, a0_, .ref q1_), (5, 0, q1_, .ref q2_), (5, 1, q1_, .ref q3_), (8, 8, q0_, .int y0_)]) rfl (fun r_95 fr_95 H locs hp hMr_95 g => ?_)
                                have hG_96 := eOK.frame hMr_95 go_.2.2.2.1 ma0_ ka0_ (by decide) (by decide) hG_24
                                have go_ := g
                                refine g_callv (va_runV (As := [.int 1, .int r_95]) (rest := []) ⟨hx, hb, hml, hown, hts⟩ (r_X8_fail l dC dI L kd tys fr_95 H.size g.2.2.2.1 q0_ mq0_ kq0_ 1 (bd_sub kb_1 (by decide)) r_95 y0_ by0_ (g.fcts [7] rfl)) (cwV 2 hts (gV_ t_1215 t_1107 t_1108 t_184 t_1109) rfl rfl rfl (by decide +kernel) ⟨(Nat.le_of_ble_eq_true rfl), (Nat.le_of_ble_eq_true rfl)⟩) (pre3V g hK mq0_ kq0_ (by decide) (q := (RX8, TX8, 10)) rfl) rfl rfl hl.1 rfl (lv_room (Nat.le_of_ble_eq_true rfl)) dX0_read_219 ⟨(Nat.le_of_ble_eq_true rfl), (Nat.le_of_ble_eq_true rfl)⟩) g hK (by decide) (by decide) (fx' := [(0, 12, a0_, .int x_25), (0, 13, a0_, .int x_17), (0, 2, a0_, .ref q2_), (0, 0, a0_, .ref q0_), (0, 1, a0_, .ref q1_), (5, 0, q1_, .ref q2_), (5, 1, q1_, .ref q3_)]) rfl (fun fr_97 H locs hp hMr_97 g => ?_)
                                obtain ⟨x_98, h_99, hF_100⟩ := hp
                                have hG_101 := eOK.frame hMr_97 go_.2.2.2.1 ma0_ ka0_ (by decide) (by decide) hG_96
                                have g := g.more hF_100
                                obtain ⟨y_102, ey_102⟩ : ∃ z : Int32, z = v38_1 + 1 := ⟨_, rfl⟩
                                refine lv_iinc (v := y_102) (lv' := [(1, .int y_102), (2, .int r_23), (0, .ref a0_)]) hx hb dX0_read_222 hl (k := 1) rfl (by rw [ey_102]; rfl) (by decide) rfl (fun ls hl => ?_)
                                have ty_102 := add_bd ey_102 b_16 kb_1 (by decide)
                                have b_103 : bd 1 2401 y_102 := add_rg ty_102 b_16 kb_1 (by decide)
                                refine lv_goto (tgt := 38) hx hb dX0_read_225 (by decide) ?_
                                refine lv_iload_n hx hb dX0_read_38 rfl (lv_at hl 0 rfl) ?_
                                refine lv_sipush (v := 2400) hx hb dX0_read_39 (by decide) ?_
                                refine lv_icmp_gt (tgt := 228) hx hb dX0_read_42 (by decide) (fun c_104 => ?_) (fun c_104 => ?_)
                                · have fc_104 := lt_f c_104
                                  have b_105 : bd 2401 2401 y_102 := ltR fc_104 kb_2400 b_103 (by decide)
                                  have b_106 : bd 2400 2400 v38_1 := add_inv ty_102 b_105 b_16 kb_1 (by decide)
                                  have kb_1201 : bd 1201 1201 (1201 : Int32) := ⟨by decide, by decide⟩
                                  subst hQ
                                  exact W.vret hx hb hr (fun t ht hW => ⟨⟨_, rfl, Or.inr (⟨hG_101, 1201, kb_1201, x_98, h_99, (g.fcts [0, 1, 4] rfl)⟩), q3_of g hK ht hW⟩, g.2.2.1.F ht⟩) g.2.2.1.2.2 dX0_read_228
                                · have fc_104 := nlt_f c_104
                                  have b_107 : bd 1 2400 y_102 := leL fc_104 b_103 kb_2400 (by decide)
                                  have b_108 : bd 0 2399 v38_1 := add_inv ty_102 b_107 b_16 kb_1 (by decide)
                                  refine lv_aload_n hx hb dX0_read_45 rfl (lv_at hl 2 rfl) ?_
                                  refine g_getk (C := RX0) (T := TX0) (N := 14) hx hb hts (mc_ inX0) hown hK g rfl 13 (by decide) rfl (hts _ (List.mem_cons_of_mem _ t_386)) (fun _ h9 => h9) 3 rfl dX0_read_46 ?_
                                  refine lv_if_ne (tgt := 228) hx hb dX0_read_49 (by decide) (fun c_109 => ?_) (fun c_109 => ?_)
                                  · have fc_109 := neq_f c_109
                                    have b_110 : bd 1 (-1) x_17 := neX fc_109 b_20 kb_0 (by decide)
                                    exact bd_no b_110 (by decide)
                                  · have fc_109 := eq_f c_109
                                    refine lv_aload_n hx hb dX0_read_52 rfl (lv_at hl 2 rfl) ?_
                                    refine g_getk (C := RX0) (T := TX0) (N := 14) hx hb hts (mc_ inX0) hown hK g rfl 0 (by decide) rfl (hts _ (List.mem_cons_of_mem _ t_373)) (fun _ h9 => h9) 5 rfl dX0_read_53 ?_
                                    refine g_getk (C := RX8) (T := TX8) (N := 10) hx hb hts (mc_ inX8) hown hK g rfl 8 (by decide) rfl (hts _ (List.mem_cons_of_mem _ t_293)) (fun _ h9 => h9) 1 rfl dX0_read_56 ?_
                                    refine lv_if_ne (tgt := 228) hx hb dX0_read_59 (by decide) (fun c_111 => ?_) (fun c_111 => ?_)
                                    · have fc_111 := neq_f c_111
                                      have kb_1201 : bd 1201 1201 (1201 : Int32) := ⟨by decide, by decide⟩
                                      subst hQ
                                      exact W.vret hx hb hr (fun t ht hW => ⟨⟨_, rfl, Or.inr (⟨hG_101, 1201, kb_1201, x_98, h_99, (g.fcts [0, 1, 4] rfl)⟩), q3_of g hK ht hW⟩, g.2.2.1.F ht⟩) g.2.2.1.2.2 dX0_read_228
                                    · have fc_111 := eq_f c_111
                                      have b_112 : bd 1 0 x_98 := eqX fc_111 h_99 kb_0 (by decide)
                                      exact bd_no b_112 (by decide)
                              · have fc_94 := eq_f c_94
                                have b_113 : bd 29 29 r_23 := eqX fc_94 (bdT r_23) kb_29 (by decide)
                                refine lv_aload_n hx hb dX0_read_190 rfl (lv_at hl 2 rfl) ?_
                                refine g_getk (C := RX0) (T := TX0) (N := 14) hx hb hts (mc_ inX0) hown hK g rfl 1 (by decide) rfl (hts _ (List.mem_cons_of_mem _ t_374)) (fun _ h9 => h9) 4 rfl dX0_read_191 ?_
                                refine g_geti (C := RX5) (T := TX5) (N := 9) hx hb hts (mc_ inX5) hown hK g mq1_ kq1_ (by decide) rfl 8 (by decide) rfl (hts _ (List.mem_cons_of_mem _ t_346)) (fun _ h9 => h9) rfl dX0_read_194 (fun x_114 bx_114 g => ?_)
                                refine lv_if_eq (tgt := 207) hx hb dX0_read_197 (by decide) (fun c_115 => ?_) (fun c_115 => ?_)
                                · have fc_115 := eq_f c_115
                                  have b_116 : bd 0 0 x_114 := eqX fc_115 bx_114 kb_0 (by decide)
                                  refine lv_aload_n hx hb dX0_read_207 rfl (lv_at hl 2 rfl) ?_
                                  refine g_getk (C := RX0) (T := TX0) (N := 14) hx hb hts (mc_ inX0) hown hK g rfl 0 (by decide) rfl (hts _ (List.mem_cons_of_mem _ t_373)) (fun _ h9 => h9) 4 rfl dX0_read_208 ?_
                                  refine lv_iconst (v := 1) hx hb dX0_read_211 (by decide) ?_
                                  refine lv_aload_n hx hb dX0_read_212 rfl (lv_at hl 2 rfl) ?_
                                  refine g_getk (C := RX0) (T := TX0) (N := 14) hx hb hts (mc_ inX0) hown hK g rfl 0 (by decide) rfl (hts _ (List.mem_cons_of_mem _ t_373)) (fun _ h9 => h9) 4 rfl dX0_read_213 ?_
                                  have go_ := g
                                  refine g_calli (va_runV (As := []) (rest := [.int 1, .ref q0_]) ⟨hx, hb, hml, hown, hts⟩ (r_X8_place l dC dI L kd tys fr_23 H.size g.2.2.2.1 q0_ mq0_ kq0_) (cwV 0 hts (gV_ t_1220 t_1111 t_1112 t_184 t_1113) rfl rfl rfl (by decide +kernel) ⟨(Nat.le_of_ble_eq_true rfl), (Nat.le_of_ble_eq_true rfl)⟩) (pre3V g hK mq0_ kq0_ (by decide) (q := (RX8, TX8, 10)) rfl) rfl rfl hl.1 rfl (lv_room (Nat.le_of_ble_eq_true rfl)) dX0_read_216 ⟨(Nat.le_of_ble_eq_true rfl), (Nat.le_of_ble_eq_true rfl)⟩) g hK (by decide) (by decide) (fx' := [(5, 8, q1_, .int x_114), (0, 12, a0_, .int x_25), (0, 13, a0_, .int x_17), (0, 2, a0_, .ref q2_), (0, 0, a0_, .ref q0_), (0, 1, a0_, .ref q1_), (5, 0, q1_, .ref q2_), (5, 1, q1_, .ref q3_), (8, 8, q0_, .int y0_)]) rfl (fun r_117 fr_117 H locs hp hMr_117 g => ?_)
                                  have hG_118 := eOK.frame hMr_117 go_.2.2.2.1 ma0_ ka0_ (by decide) (by decide) hG_24
                                  have go_ := g
                                  refine g_callv (va_runV (As := [.int 1, .int r_117]) (rest := []) ⟨hx, hb, hml, hown, hts⟩ (r_X8_fail l dC dI L kd tys fr_117 H.size g.2.2.2.1 q0_ mq0_ kq0_ 1 (bd_sub kb_1 (by decide)) r_117 y0_ by0_ (g.fcts [8] rfl)) (cwV 2 hts (gV_ t_1215 t_1107 t_1108 t_184 t_1109) rfl rfl rfl (by decide +kernel) ⟨(Nat.le_of_ble_eq_true rfl), (Nat.le_of_ble_eq_true rfl)⟩) (pre3V g hK mq0_ kq0_ (by decide) (q := (RX8, TX8, 10)) rfl) rfl rfl hl.1 rfl (lv_room (Nat.le_of_ble_eq_true rfl)) dX0_read_219 ⟨(Nat.le_of_ble_eq_true rfl), (Nat.le_of_ble_eq_true rfl)⟩) g hK (by decide) (by decide) (fx' := [(5, 8, q1_, .int x_114), (0, 12, a0_, .int x_25), (0, 13, a0_, .int x_17), (0, 2, a0_, .ref q2_), (0, 0, a0_, .ref q0_), (0, 1, a0_, .ref q1_), (5, 0, q1_, .ref q2_), (5, 1, q1_, .ref q3_)]) rfl (fun fr_119 H locs hp hMr_119 g => ?_)
                                  obtain ⟨x_120, h_121, hF_122⟩ := hp
                                  have hG_123 := eOK.frame hMr_119 go_.2.2.2.1 ma0_ ka0_ (by decide) (by decide) hG_118
                                  have g := g.more hF_122
                                  obtain ⟨y_124, ey_124⟩ : ∃ z : Int32, z = v38_1 + 1 := ⟨_, rfl⟩
                                  refine lv_iinc (v := y_124) (lv' := [(1, .int y_124), (2, .int r_23), (0, .ref a0_)]) hx hb dX0_read_222 hl (k := 1) rfl (by rw [ey_124]; rfl) (by decide) rfl (fun ls hl => ?_)
                                  have ty_124 := add_bd ey_124 b_16 kb_1 (by decide)
                                  have b_125 : bd 1 2401 y_124 := add_rg ty_124 b_16 kb_1 (by decide)
                                  refine lv_goto (tgt := 38) hx hb dX0_read_225 (by decide) ?_
                                  refine lv_iload_n hx hb dX0_read_38 rfl (lv_at hl 0 rfl) ?_
                                  refine lv_sipush (v := 2400) hx hb dX0_read_39 (by decide) ?_
                                  refine lv_icmp_gt (tgt := 228) hx hb dX0_read_42 (by decide) (fun c_126 => ?_) (fun c_126 => ?_)
                                  · have fc_126 := lt_f c_126
                                    have b_127 : bd 2401 2401 y_124 := ltR fc_126 kb_2400 b_125 (by decide)
                                    have b_128 : bd 2400 2400 v38_1 := add_inv ty_124 b_127 b_16 kb_1 (by decide)
                                    have kb_1201 : bd 1201 1201 (1201 : Int32) := ⟨by decide, by decide⟩
                                    subst hQ
                                    exact W.vret hx hb hr (fun t ht hW => ⟨⟨_, rfl, Or.inr (⟨hG_123, 1201, kb_1201, x_120, h_121, (g.fcts [0, 1, 5] rfl)⟩), q3_of g hK ht hW⟩, g.2.2.1.F ht⟩) g.2.2.1.2.2 dX0_read_228
                                  · have fc_126 := nlt_f c_126
                                    have b_129 : bd 1 2400 y_124 := leL fc_126 b_125 kb_2400 (by decide)
                                    have b_130 : bd 0 2399 v38_1 := add_inv ty_124 b_129 b_16 kb_1 (by decide)
                                    refine lv_aload_n hx hb dX0_read_45 rfl (lv_at hl 2 rfl) ?_
                                    refine g_getk (C := RX0) (T := TX0) (N := 14) hx hb hts (mc_ inX0) hown hK g rfl 13 (by decide) rfl (hts _ (List.mem_cons_of_mem _ t_386)) (fun _ h9 => h9) 4 rfl dX0_read_46 ?_
                                    refine lv_if_ne (tgt := 228) hx hb dX0_read_49 (by decide) (fun c_131 => ?_) (fun c_131 => ?_)
                                    · have fc_131 := neq_f c_131
                                      have b_132 : bd 1 (-1) x_17 := neX fc_131 b_20 kb_0 (by decide)
                                      exact bd_no b_132 (by decide)
                                    · have fc_131 := eq_f c_131
                                      refine lv_aload_n hx hb dX0_read_52 rfl (lv_at hl 2 rfl) ?_
                                      refine g_getk (C := RX0) (T := TX0) (N := 14) hx hb hts (mc_ inX0) hown hK g rfl 0 (by decide) rfl (hts _ (List.mem_cons_of_mem _ t_373)) (fun _ h9 => h9) 6 rfl dX0_read_53 ?_
                                      refine g_getk (C := RX8) (T := TX8) (N := 10) hx hb hts (mc_ inX8) hown hK g rfl 8 (by decide) rfl (hts _ (List.mem_cons_of_mem _ t_293)) (fun _ h9 => h9) 1 rfl dX0_read_56 ?_
                                      refine lv_if_ne (tgt := 228) hx hb dX0_read_59 (by decide) (fun c_133 => ?_) (fun c_133 => ?_)
                                      · have fc_133 := neq_f c_133
                                        have kb_1201 : bd 1201 1201 (1201 : Int32) := ⟨by decide, by decide⟩
                                        subst hQ
                                        exact W.vret hx hb hr (fun t ht hW => ⟨⟨_, rfl, Or.inr (⟨hG_123, 1201, kb_1201, x_120, h_121, (g.fcts [0, 1, 5] rfl)⟩), q3_of g hK ht hW⟩, g.2.2.1.F ht⟩) g.2.2.1.2.2 dX0_read_228
                                      · have fc_133 := eq_f c_133
                                        have b_134 : bd 1 0 x_120 := eqX fc_133 h_121 kb_0 (by decide)
                                        exact bd_no b_134 (by decide)
                                · have fc_115 := neq_f c_115
                                  have b_135 : bd 1 1 x_114 := neX fc_115 bx_114 kb_0 (by decide)
                                  refine lv_aload_n hx hb dX0_read_200 rfl (lv_at hl 2 rfl) ?_
                                  have go_ := g
                                  refine g_callv (va_runV (As := []) (rest := []) ⟨hx, hb, hml, hown, hts⟩ (r_X0_readResult l dC dI L kd tys fr_23 H.size g.2.2.2.1 a0_ ma0_ ka0_ q0_ mq0_ kq0_ q2_ mq2_ kq2_ y0_ by0_ (g.fcts [4, 3, 8] rfl)) (cwV 0 hts (gV_ t_1297 t_1299 t_31 t_190 t_1300) rfl rfl rfl (by decide +kernel) ⟨(Nat.le_of_ble_eq_true rfl), (Nat.le_of_ble_eq_true rfl)⟩) (pre3V g hK ma0_ ka0_ (by decide) (q := (RX0, TX0, 14)) rfl) rfl rfl hl.1 rfl (lv_room (Nat.le_of_ble_eq_true rfl)) dX0_read_201 ⟨(Nat.le_of_ble_eq_true rfl), (Nat.le_of_ble_eq_true rfl)⟩) g hK (by decide) (by decide) (fx' := [(5, 8, q1_, .int x_114), (0, 13, a0_, .int x_17), (0, 2, a0_, .ref q2_), (0, 0, a0_, .ref q0_), (0, 1, a0_, .ref q1_), (5, 0, q1_, .ref q2_), (5, 1, q1_, .ref q3_), (8, 8, q0_, .int y0_)]) rfl (fun fr_136 H locs hp hMr_136 g => ?_)
                                  obtain ⟨x_137, h_138, x_139, h_140, x_141, h_142, hF_143⟩ := hp
                                  have hG_144 := eOK.frame hMr_136 go_.2.2.2.1 ma0_ ka0_ (by decide) (by decide) hG_24
                                  have g := g.more hF_143
                                  refine lv_goto (tgt := 222) hx hb dX0_read_204 (by decide) ?_
                                  obtain ⟨y_145, ey_145⟩ : ∃ z : Int32, z = v38_1 + 1 := ⟨_, rfl⟩
                                  refine lv_iinc (v := y_145) (lv' := [(1, .int y_145), (2, .int r_23), (0, .ref a0_)]) hx hb dX0_read_222 hl (k := 1) rfl (by rw [ey_145]; rfl) (by decide) rfl (fun ls hl => ?_)
                                  have ty_145 := add_bd ey_145 b_16 kb_1 (by decide)
                                  have b_146 : bd 1 2401 y_145 := add_rg ty_145 b_16 kb_1 (by decide)
                                  refine lv_goto (tgt := 38) hx hb dX0_read_225 (by decide) ?_
                                  have hl9 := lv_sub hl [0, 2] (by rfl : lv_pick [(1, .int y_145), (2, .int r_23), (0, .ref a0_)] [0, 2] = [(1, .int y_145), (0, .ref a0_)])
                                  have g9 := g.sub (fx' := [(0, 2, a0_, .ref q2_), (0, 0, a0_, .ref q0_), (0, 1, a0_, .ref q1_), (5, 0, q1_, .ref q2_), (5, 1, q1_, .ref q3_), (8, 8, q0_, .int y0_)]) [6, 7, 8, 9, 10, 11] rfl
                                  exact ih38  y_145 (bd_sub b_146 (by decide)) (by have h9_0 := b_146; unfold bd at h9_0; have h9_1 := bv38_1; unfold bd at h9_1; have h9_2 := h_138; unfold bd at h9_2; have h9_3 := kb_0; unfold bd at h9_3; have h9_4 := kb_1; unfold bd at h9_4; have h9_5 := kb_11; unfold bd at h9_5; have h9_6 := kb_2400; unfold bd at h9_6; have h9_7 := kb_28; unfold bd at h9_7; have h9_8 := kb_29; unfold bd at h9_8; have h9_9 := kb_3; unfold bd at h9_9; have h9_10 := kb_30; unfold bd at h9_10; have h9_11 := kb_33; unfold bd at h9_11; have h9_12 := kb_4; unfold bd at h9_12; have h9_13 := kb_40; unfold bd at h9_13; have h9_14 := kb_45; unfold bd at h9_14; omega) _ _ _ _ g9 hG_144 hl9
                            · have fc_93 := eq_f c_93
                              have b_147 : bd 28 28 r_23 := eqX fc_93 (bdT r_23) kb_28 (by decide)
                              refine lv_aload_n hx hb dX0_read_167 rfl (lv_at hl 2 rfl) ?_
                              refine g_getk (C := RX0) (T := TX0) (N := 14) hx hb hts (mc_ inX0) hown hK g rfl 1 (by decide) rfl (hts _ (List.mem_cons_of_mem _ t_374)) (fun _ h9 => h9) 4 rfl dX0_read_168 ?_
                              refine g_geti (C := RX5) (T := TX5) (N := 9) hx hb hts (mc_ inX5) hown hK g mq1_ kq1_ (by decide) rfl 8 (by decide) rfl (hts _ (List.mem_cons_of_mem _ t_346)) (fun _ h9 => h9) rfl dX0_read_171 (fun x_148 bx_148 g => ?_)
                              refine lv_if_eq (tgt := 184) hx hb dX0_read_174 (by decide) (fun c_149 => ?_) (fun c_149 => ?_)
                              · have fc_149 := eq_f c_149
                                have b_150 : bd 0 0 x_148 := eqX fc_149 bx_148 kb_0 (by decide)
                                refine lv_iload_n hx hb dX0_read_184 rfl (lv_at hl 0 rfl) ?_
                                refine lv_bipush (v := 29) hx hb dX0_read_185 (by decide) ?_
                                have kb_29 : bd 29 29 (29 : Int32) := ⟨by decide, by decide⟩
                                refine lv_icmp_ne (tgt := 207) hx hb dX0_read_187 (by decide) (fun c_151 => ?_) (fun c_151 => ?_)
                                · have fc_151 := neq_f c_151
                                  refine lv_aload_n hx hb dX0_read_207 rfl (lv_at hl 2 rfl) ?_
                                  refine g_getk (C := RX0) (T := TX0) (N := 14) hx hb hts (mc_ inX0) hown hK g rfl 0 (by decide) rfl (hts _ (List.mem_cons_of_mem _ t_373)) (fun _ h9 => h9) 4 rfl dX0_read_208 ?_
                                  refine lv_iconst (v := 1) hx hb dX0_read_211 (by decide) ?_
                                  refine lv_aload_n hx hb dX0_read_212 rfl (lv_at hl 2 rfl) ?_
                                  refine g_getk (C := RX0) (T := TX0) (N := 14) hx hb hts (mc_ inX0) hown hK g rfl 0 (by decide) rfl (hts _ (List.mem_cons_of_mem _ t_373)) (fun _ h9 => h9) 4 rfl dX0_read_213 ?_
                                  have go_ := g
                                  refine g_calli (va_runV (As := []) (rest := [.int 1, .ref q0_]) ⟨hx, hb, hml, hown, hts⟩ (r_X8_place l dC dI L kd tys fr_23 H.size g.2.2.2.1 q0_ mq0_ kq0_) (cwV 0 hts (gV_ t_1220 t_1111 t_1112 t_184 t_1113) rfl rfl rfl (by decide +kernel) ⟨(Nat.le_of_ble_eq_true rfl), (Nat.le_of_ble_eq_true rfl)⟩) (pre3V g hK mq0_ kq0_ (by decide) (q := (RX8, TX8, 10)) rfl) rfl rfl hl.1 rfl (lv_room (Nat.le_of_ble_eq_true rfl)) dX0_read_216 ⟨(Nat.le_of_ble_eq_true rfl), (Nat.le_of_ble_eq_true rfl)⟩) g hK (by decide) (by decide) (fx' := [(5, 8, q1_, .int x_148), (0, 12, a0_, .int x_25), (0, 13, a0_, .int x_17), (0, 2, a0_, .ref q2_), (0, 0, a0_, .ref q0_), (0, 1, a0_, .ref q1_), (5, 0, q1_, .ref q2_), (5, 1, q1_, .ref q3_), (8, 8, q0_, .int y0_)]) rfl (fun r_152 fr_152 H locs hp hMr_152 g => ?_)
                                  have hG_153 := eOK.frame hMr_152 go_.2.2.2.1 ma0_ ka0_ (by decide) (by decide) hG_24
                                  have go_ := g
                                  refine g_callv (va_runV (As := [.int 1, .int r_152]) (rest := []) ⟨hx, hb, hml, hown, hts⟩ (r_X8_fail l dC dI L kd tys fr_152 H.size g.2.2.2.1 q0_ mq0_ kq0_ 1 (bd_sub kb_1 (by decide)) r_152 y0_ by0_ (g.fcts [8] rfl)) (cwV 2 hts (gV_ t_1215 t_1107 t_1108 t_184 t_1109) rfl rfl rfl (by decide +kernel) ⟨(Nat.le_of_ble_eq_true rfl), (Nat.le_of_ble_eq_true rfl)⟩) (pre3V g hK mq0_ kq0_ (by decide) (q := (RX8, TX8, 10)) rfl) rfl rfl hl.1 rfl (lv_room (Nat.le_of_ble_eq_true rfl)) dX0_read_219 ⟨(Nat.le_of_ble_eq_true rfl), (Nat.le_of_ble_eq_true rfl)⟩) g hK (by decide) (by decide) (fx' := [(5, 8, q1_, .int x_148), (0, 12, a0_, .int x_25), (0, 13, a0_, .int x_17), (0, 2, a0_, .ref q2_), (0, 0, a0_, .ref q0_), (0, 1, a0_, .ref q1_), (5, 0, q1_, .ref q2_), (5, 1, q1_, .ref q3_)]) rfl (fun fr_154 H locs hp hMr_154 g => ?_)
                                  obtain ⟨x_155, h_156, hF_157⟩ := hp
                                  have hG_158 := eOK.frame hMr_154 go_.2.2.2.1 ma0_ ka0_ (by decide) (by decide) hG_153
                                  have g := g.more hF_157
                                  obtain ⟨y_159, ey_159⟩ : ∃ z : Int32, z = v38_1 + 1 := ⟨_, rfl⟩
                                  refine lv_iinc (v := y_159) (lv' := [(1, .int y_159), (2, .int r_23), (0, .ref a0_)]) hx hb dX0_read_222 hl (k := 1) rfl (by rw [ey_159]; rfl) (by decide) rfl (fun ls hl => ?_)
                                  have ty_159 := add_bd ey_159 b_16 kb_1 (by decide)
                                  have b_160 : bd 1 2401 y_159 := add_rg ty_159 b_16 kb_1 (by decide)
                                  refine lv_goto (tgt := 38) hx hb dX0_read_225 (by decide) ?_
                                  refine lv_iload_n hx hb dX0_read_38 rfl (lv_at hl 0 rfl) ?_
                                  refine lv_sipush (v := 2400) hx hb dX0_read_39 (by decide) ?_
                                  refine lv_icmp_gt (tgt := 228) hx hb dX0_read_42 (by decide) (fun c_161 => ?_) (fun c_161 => ?_)
                                  · have fc_161 := lt_f c_161
                                    have b_162 : bd 2401 2401 y_159 := ltR fc_161 kb_2400 b_160 (by decide)
                                    have b_163 : bd 2400 2400 v38_1 := add_inv ty_159 b_162 b_16 kb_1 (by decide)
                                    have kb_1201 : bd 1201 1201 (1201 : Int32) := ⟨by decide, by decide⟩
                                    subst hQ
                                    exact W.vret hx hb hr (fun t ht hW => ⟨⟨_, rfl, Or.inr (⟨hG_158, 1201, kb_1201, x_155, h_156, (g.fcts [0, 1, 5] rfl)⟩), q3_of g hK ht hW⟩, g.2.2.1.F ht⟩) g.2.2.1.2.2 dX0_read_228
                                  · have fc_161 := nlt_f c_161
                                    have b_164 : bd 1 2400 y_159 := leL fc_161 b_160 kb_2400 (by decide)
                                    have b_165 : bd 0 2399 v38_1 := add_inv ty_159 b_164 b_16 kb_1 (by decide)
                                    refine lv_aload_n hx hb dX0_read_45 rfl (lv_at hl 2 rfl) ?_
                                    refine g_getk (C := RX0) (T := TX0) (N := 14) hx hb hts (mc_ inX0) hown hK g rfl 13 (by decide) rfl (hts _ (List.mem_cons_of_mem _ t_386)) (fun _ h9 => h9) 4 rfl dX0_read_46 ?_
                                    refine lv_if_ne (tgt := 228) hx hb dX0_read_49 (by decide) (fun c_166 => ?_) (fun c_166 => ?_)
                                    · have fc_166 := neq_f c_166
                                      have b_167 : bd 1 (-1) x_17 := neX fc_166 b_20 kb_0 (by decide)
                                      exact bd_no b_167 (by decide)
                                    · have fc_166 := eq_f c_166
                                      refine lv_aload_n hx hb dX0_read_52 rfl (lv_at hl 2 rfl) ?_
                                      refine g_getk (C := RX0) (T := TX0) (N := 14) hx hb hts (mc_ inX0) hown hK g rfl 0 (by decide) rfl (hts _ (List.mem_cons_of_mem _ t_373)) (fun _ h9 => h9) 6 rfl dX0_read_53 ?_
                                      refine g_getk (C := RX8) (T := TX8) (N := 10) hx hb hts (mc_ inX8) hown hK g rfl 8 (by decide) rfl (hts _ (List.mem_cons_of_mem _ t_293)) (fun _ h9 => h9) 1 rfl dX0_read_56 ?_
                                      refine lv_if_ne (tgt := 228) hx hb dX0_read_59 (by decide) (fun c_168 => ?_) (fun c_168 => ?_)
                                      · have fc_168 := neq_f c_168
                                        have kb_1201 : bd 1201 1201 (1201 : Int32) := ⟨by decide, by decide⟩
                                        subst hQ
                                        exact W.vret hx hb hr (fun t ht hW => ⟨⟨_, rfl, Or.inr (⟨hG_158, 1201, kb_1201, x_155, h_156, (g.fcts [0, 1, 5] rfl)⟩), q3_of g hK ht hW⟩, g.2.2.1.F ht⟩) g.2.2.1.2.2 dX0_read_228
                                      · have fc_168 := eq_f c_168
                                        have b_169 : bd 1 0 x_155 := eqX fc_168 h_156 kb_0 (by decide)
                                        exact bd_no b_169 (by decide)
                                · have fc_151 := eq_f c_151
                                  have b_170 : bd 29 28 r_23 := eqX fc_151 b_147 kb_29 (by decide)
                                  exact bd_no b_170 (by decide)
                              · have fc_149 := neq_f c_149
                                have b_171 : bd 1 1 x_148 := neX fc_149 bx_148 kb_0 (by decide)
                                refine lv_aload_n hx hb dX0_read_177 rfl (lv_at hl 2 rfl) ?_
                                have go_ := g
                                refine g_callv (va_runV (As := []) (rest := []) ⟨hx, hb, hml, hown, hts⟩ (r_X0_readOld_2 l dC dI L kd tys fr_23 H.size g.2.2.2.1 a0_ ma0_ ka0_ q0_ mq0_ kq0_ q1_ mq1_ kq1_ q2_ mq2_ kq2_ q3_ mq3_ kq3_ y0_ by0_ hG_24 (g.fcts [4, 5, 3, 7, 8] rfl)) (cwV 0 hts (gV_ t_1293 t_1295 t_30 t_190 t_1296) rfl rfl rfl (by decide +kernel) ⟨(Nat.le_of_ble_eq_true rfl), (Nat.le_of_ble_eq_true rfl)⟩) (pre3V g hK ma0_ ka0_ (by decide) (q := (RX0, TX0, 14)) rfl) rfl rfl hl.1 rfl (lv_room (Nat.le_of_ble_eq_true rfl)) dX0_read_178 ⟨(Nat.le_of_ble_eq_true rfl), (Nat.le_of_ble_eq_true rfl)⟩) g hK (by decide) (by decide) (fx' := [(5, 8, q1_, .int x_148), (0, 13, a0_, .int x_17), (0, 2, a0_, .ref q2_), (0, 0, a0_, .ref q0_), (0, 1, a0_, .ref q1_), (5, 0, q1_, .ref q2_), (5, 1, q1_, .ref q3_)]) rfl (fun fr_172 H locs hp hMr_172 g => ?_)
                                rcases hp with ⟨hG_173, x_174, h_175, x_176, h_177, hF_178⟩ | ⟨hG_179, x_180, h_181, x_182, h_183, hF_184⟩
                                · have g := g.more hF_178
                                  refine lv_goto (tgt := 222) hx hb dX0_read_181 (by decide) ?_
                                  obtain ⟨y_185, ey_185⟩ : ∃ z : Int32, z = v38_1 + 1 := ⟨_, rfl⟩
                                  refine lv_iinc (v := y_185) (lv' := [(1, .int y_185), (2, .int r_23), (0, .ref a0_)]) hx hb dX0_read_222 hl (k := 1) rfl (by rw [ey_185]; rfl) (by decide) rfl (fun ls hl => ?_)
                                  have ty_185 := add_bd ey_185 b_16 kb_1 (by decide)
                                  have b_186 : bd 1 2401 y_185 := add_rg ty_185 b_16 kb_1 (by decide)
                                  refine lv_goto (tgt := 38) hx hb dX0_read_225 (by decide) ?_
                                  have hl9 := lv_sub hl [0, 2] (by rfl : lv_pick [(1, .int y_185), (2, .int r_23), (0, .ref a0_)] [0, 2] = [(1, .int y_185), (0, .ref a0_)])
                                  have g9 := g.sub (fx' := [(0, 2, a0_, .ref q2_), (0, 0, a0_, .ref q0_), (0, 1, a0_, .ref q1_), (5, 0, q1_, .ref q2_), (5, 1, q1_, .ref q3_), (8, 8, q0_, .int y0_)]) [5, 6, 7, 8, 9, 1] rfl
                                  exact ih38  y_185 (bd_sub b_186 (by decide)) (by have h9_0 := b_186; unfold bd at h9_0; have h9_1 := bv38_1; unfold bd at h9_1; have h9_2 := h_177; unfold bd at h9_2; have h9_3 := kb_0; unfold bd at h9_3; have h9_4 := kb_1; unfold bd at h9_4; have h9_5 := kb_11; unfold bd at h9_5; have h9_6 := kb_2400; unfold bd at h9_6; have h9_7 := kb_28; unfold bd at h9_7; have h9_8 := kb_3; unfold bd at h9_8; have h9_9 := kb_30; unfold bd at h9_9; have h9_10 := kb_33; unfold bd at h9_10; have h9_11 := kb_4; unfold bd at h9_11; have h9_12 := kb_40; unfold bd at h9_12; have h9_13 := kb_45; unfold bd at h9_13; omega) _ _ _ _ g9 hG_173 hl9
                                · have g := g.more hF_184
                                  refine lv_goto (tgt := 222) hx hb dX0_read_181 (by decide) ?_
                                  obtain ⟨y_187, ey_187⟩ : ∃ z : Int32, z = v38_1 + 1 := ⟨_, rfl⟩
                                  refine lv_iinc (v := y_187) (lv' := [(1, .int y_187), (2, .int r_23), (0, .ref a0_)]) hx hb dX0_read_222 hl (k := 1) rfl (by rw [ey_187]; rfl) (by decide) rfl (fun ls hl => ?_)
                                  have ty_187 := add_bd ey_187 b_16 kb_1 (by decide)
                                  have b_188 : bd 1 2401 y_187 := add_rg ty_187 b_16 kb_1 (by decide)
                                  refine lv_goto (tgt := 38) hx hb dX0_read_225 (by decide) ?_
                                  refine lv_iload_n hx hb dX0_read_38 rfl (lv_at hl 0 rfl) ?_
                                  refine lv_sipush (v := 2400) hx hb dX0_read_39 (by decide) ?_
                                  refine lv_icmp_gt (tgt := 228) hx hb dX0_read_42 (by decide) (fun c_189 => ?_) (fun c_189 => ?_)
                                  · have fc_189 := lt_f c_189
                                    have b_190 : bd 2401 2401 y_187 := ltR fc_189 kb_2400 b_188 (by decide)
                                    have b_191 : bd 2400 2400 v38_1 := add_inv ty_187 b_190 b_16 kb_1 (by decide)
                                    subst hQ
                                    exact W.vret hx hb hr (fun t ht hW => ⟨⟨_, rfl, Or.inr (⟨hG_179, x_180, h_181, x_182, h_183, (g.fcts [0, 1, 4] rfl)⟩), q3_of g hK ht hW⟩, g.2.2.1.F ht⟩) g.2.2.1.2.2 dX0_read_228
                                  · have fc_189 := nlt_f c_189
                                    have b_192 : bd 1 2400 y_187 := leL fc_189 b_188 kb_2400 (by decide)
                                    have b_193 : bd 0 2399 v38_1 := add_inv ty_187 b_192 b_16 kb_1 (by decide)
                                    refine lv_aload_n hx hb dX0_read_45 rfl (lv_at hl 2 rfl) ?_
                                    refine g_getk (C := RX0) (T := TX0) (N := 14) hx hb hts (mc_ inX0) hown hK g rfl 13 (by decide) rfl (hts _ (List.mem_cons_of_mem _ t_386)) (fun _ h9 => h9) 3 rfl dX0_read_46 ?_
                                    refine lv_if_ne (tgt := 228) hx hb dX0_read_49 (by decide) (fun c_194 => ?_) (fun c_194 => ?_)
                                    · have fc_194 := neq_f c_194
                                      have b_195 : bd 1 (-1) x_17 := neX fc_194 b_20 kb_0 (by decide)
                                      exact bd_no b_195 (by decide)
                                    · have fc_194 := eq_f c_194
                                      refine lv_aload_n hx hb dX0_read_52 rfl (lv_at hl 2 rfl) ?_
                                      refine g_getk (C := RX0) (T := TX0) (N := 14) hx hb hts (mc_ inX0) hown hK g rfl 0 (by decide) rfl (hts _ (List.mem_cons_of_mem _ t_373)) (fun _ h9 => h9) 5 rfl dX0_read_53 ?_
                                      refine g_getk (C := RX8) (T := TX8) (N := 10) hx hb hts (mc_ inX8) hown hK g rfl 8 (by decide) rfl (hts _ (List.mem_cons_of_mem _ t_293)) (fun _ h9 => h9) 1 rfl dX0_read_56 ?_
                                      refine lv_if_ne (tgt := 228) hx hb dX0_read_59 (by decide) (fun c_196 => ?_) (fun c_196 => ?_)
                                      · have fc_196 := neq_f c_196
                                        subst hQ
                                        exact W.vret hx hb hr (fun t ht hW => ⟨⟨_, rfl, Or.inr (⟨hG_179, x_180, h_181, x_182, h_183, (g.fcts [0, 1, 4] rfl)⟩), q3_of g hK ht hW⟩, g.2.2.1.F ht⟩) g.2.2.1.2.2 dX0_read_228
                                      · have fc_196 := eq_f c_196
                                        have b_197 : bd 1 0 x_182 := eqX fc_196 h_183 kb_0 (by decide)
                                        exact bd_no b_197 (by decide)
                          · have fc_92 := eq_f c_92
                            have b_198 : bd 30 30 r_23 := eqX fc_92 (bdT r_23) kb_30 (by decide)
                            refine lv_aload_n hx hb dX0_read_154 rfl (lv_at hl 2 rfl) ?_
                            have go_ := g
                            refine g_callv (va_runV (As := []) (rest := []) ⟨hx, hb, hml, hown, hts⟩ (r_X0_readSize l dC dI L kd tys fr_23 H.size g.2.2.2.1 a0_ ma0_ ka0_ q0_ mq0_ kq0_ q1_ mq1_ kq1_ q2_ mq2_ kq2_ q3_ mq3_ kq3_ y0_ by0_ (g.fcts [3, 4, 2, 6, 7] rfl)) (cwV 0 hts (gV_ t_1285 t_1287 t_28 t_190 t_1288) rfl rfl rfl (by decide +kernel) ⟨(Nat.le_of_ble_eq_true rfl), (Nat.le_of_ble_eq_true rfl)⟩) (pre3V g hK ma0_ ka0_ (by decide) (q := (RX0, TX0, 14)) rfl) rfl rfl hl.1 rfl (lv_room (Nat.le_of_ble_eq_true rfl)) dX0_read_155 ⟨(Nat.le_of_ble_eq_true rfl), (Nat.le_of_ble_eq_true rfl)⟩) g hK (by decide) (by decide) (fx' := [(0, 13, a0_, .int x_17), (0, 2, a0_, .ref q2_), (0, 0, a0_, .ref q0_), (0, 1, a0_, .ref q1_), (5, 0, q1_, .ref q2_), (5, 1, q1_, .ref q3_)]) rfl (fun fr_199 H locs hp hMr_199 g => ?_)
                            rcases hp with ⟨x_200, h_201, x_202, h_203, x_204, h_205, x_206, h_207, x_208, h_209, hF_210⟩ | ⟨x_211, h_212, x_213, h_214, hF_215⟩
                            · have hG_216 := eOK.frame hMr_199 go_.2.2.2.1 ma0_ ka0_ (by decide) (by decide) hG_24
                              have g := g.more hF_210
                              refine lv_goto (tgt := 222) hx hb dX0_read_158 (by decide) ?_
                              obtain ⟨y_217, ey_217⟩ : ∃ z : Int32, z = v38_1 + 1 := ⟨_, rfl⟩
                              refine lv_iinc (v := y_217) (lv' := [(1, .int y_217), (2, .int r_23), (0, .ref a0_)]) hx hb dX0_read_222 hl (k := 1) rfl (by rw [ey_217]; rfl) (by decide) rfl (fun ls hl => ?_)
                              have ty_217 := add_bd ey_217 b_16 kb_1 (by decide)
                              have b_218 : bd 1 2401 y_217 := add_rg ty_217 b_16 kb_1 (by decide)
                              refine lv_goto (tgt := 38) hx hb dX0_read_225 (by decide) ?_
                              have hl9 := lv_sub hl [0, 2] (by rfl : lv_pick [(1, .int y_217), (2, .int r_23), (0, .ref a0_)] [0, 2] = [(1, .int y_217), (0, .ref a0_)])
                              have g9 := g.sub (fx' := [(0, 2, a0_, .ref q2_), (0, 0, a0_, .ref q0_), (0, 1, a0_, .ref q1_), (5, 0, q1_, .ref q2_), (5, 1, q1_, .ref q3_), (8, 8, q0_, .int y0_)]) [8, 9, 10, 11, 12, 4] rfl
                              exact ih38  y_217 (bd_sub b_218 (by decide)) (by have h9_0 := b_218; unfold bd at h9_0; have h9_1 := bv38_1; unfold bd at h9_1; have h9_2 := h_201; unfold bd at h9_2; have h9_3 := h_209; unfold bd at h9_3; have h9_4 := kb_0; unfold bd at h9_4; have h9_5 := kb_1; unfold bd at h9_5; have h9_6 := kb_11; unfold bd at h9_6; have h9_7 := kb_2400; unfold bd at h9_7; have h9_8 := kb_3; unfold bd at h9_8; have h9_9 := kb_30; unfold bd at h9_9; have h9_10 := kb_33; unfold bd at h9_10; have h9_11 := kb_4; unfold bd at h9_11; have h9_12 := kb_40; unfold bd at h9_12; have h9_13 := kb_45; unfold bd at h9_13; omega) _ _ _ _ g9 hG_216 hl9
                            · have hG_219 := eOK.frame hMr_199 go_.2.2.2.1 ma0_ ka0_ (by decide) (by decide) hG_24
                              have g := g.more hF_215
                              refine lv_goto (tgt := 222) hx hb dX0_read_158 (by decide) ?_
                              obtain ⟨y_220, ey_220⟩ : ∃ z : Int32, z = v38_1 + 1 := ⟨_, rfl⟩
                              refine lv_iinc (v := y_220) (lv' := [(1, .int y_220), (2, .int r_23), (0, .ref a0_)]) hx hb dX0_read_222 hl (k := 1) rfl (by rw [ey_220]; rfl) (by decide) rfl (fun ls hl => ?_)
                              have ty_220 := add_bd ey_220 b_16 kb_1 (by decide)
                              have b_221 : bd 1 2401 y_220 := add_rg ty_220 b_16 kb_1 (by decide)
                              refine lv_goto (tgt := 38) hx hb dX0_read_225 (by decide) ?_
                              refine lv_iload_n hx hb dX0_read_38 rfl (lv_at hl 0 rfl) ?_
                              refine lv_sipush (v := 2400) hx hb dX0_read_39 (by decide) ?_
                              refine lv_icmp_gt (tgt := 228) hx hb dX0_read_42 (by decide) (fun c_222 => ?_) (fun c_222 => ?_)
                              · have fc_222 := lt_f c_222
                                have b_223 : bd 2401 2401 y_220 := ltR fc_222 kb_2400 b_221 (by decide)
                                have b_224 : bd 2400 2400 v38_1 := add_inv ty_220 b_223 b_16 kb_1 (by decide)
                                subst hQ
                                exact W.vret hx hb hr (fun t ht hW => ⟨⟨_, rfl, Or.inr (⟨hG_219, x_211, h_212, x_213, h_214, (g.fcts [0, 1, 3] rfl)⟩), q3_of g hK ht hW⟩, g.2.2.1.F ht⟩) g.2.2.1.2.2 dX0_read_228
                              · have fc_222 := nlt_f c_222
                                have b_225 : bd 1 2400 y_220 := leL fc_222 b_221 kb_2400 (by decide)
                                have b_226 : bd 0 2399 v38_1 := add_inv ty_220 b_225 b_16 kb_1 (by decide)
                                refine lv_aload_n hx hb dX0_read_45 rfl (lv_at hl 2 rfl) ?_
                                refine g_getk (C := RX0) (T := TX0) (N := 14) hx hb hts (mc_ inX0) hown hK g rfl 13 (by decide) rfl (hts _ (List.mem_cons_of_mem _ t_386)) (fun _ h9 => h9) 2 rfl dX0_read_46 ?_
                                refine lv_if_ne (tgt := 228) hx hb dX0_read_49 (by decide) (fun c_227 => ?_) (fun c_227 => ?_)
                                · have fc_227 := neq_f c_227
                                  have b_228 : bd 1 (-1) x_17 := neX fc_227 b_20 kb_0 (by decide)
                                  exact bd_no b_228 (by decide)
                                · have fc_227 := eq_f c_227
                                  refine lv_aload_n hx hb dX0_read_52 rfl (lv_at hl 2 rfl) ?_
                                  refine g_getk (C := RX0) (T := TX0) (N := 14) hx hb hts (mc_ inX0) hown hK g rfl 0 (by decide) rfl (hts _ (List.mem_cons_of_mem _ t_373)) (fun _ h9 => h9) 4 rfl dX0_read_53 ?_
                                  refine g_getk (C := RX8) (T := TX8) (N := 10) hx hb hts (mc_ inX8) hown hK g rfl 8 (by decide) rfl (hts _ (List.mem_cons_of_mem _ t_293)) (fun _ h9 => h9) 1 rfl dX0_read_56 ?_
                                  refine lv_if_ne (tgt := 228) hx hb dX0_read_59 (by decide) (fun c_229 => ?_) (fun c_229 => ?_)
                                  · have fc_229 := neq_f c_229
                                    subst hQ
                                    exact W.vret hx hb hr (fun t ht hW => ⟨⟨_, rfl, Or.inr (⟨hG_219, x_211, h_212, x_213, h_214, (g.fcts [0, 1, 3] rfl)⟩), q3_of g hK ht hW⟩, g.2.2.1.F ht⟩) g.2.2.1.2.2 dX0_read_228
                                  · have fc_229 := eq_f c_229
                                    have b_230 : bd 1 0 x_213 := eqX fc_229 h_214 kb_0 (by decide)
                                    exact bd_no b_230 (by decide)
                        · have fc_91 := eq_f c_91
                          have b_231 : bd 11 11 r_23 := eqX fc_91 (bdT r_23) kb_11 (by decide)
                          refine lv_aload_n hx hb dX0_read_141 rfl (lv_at hl 2 rfl) ?_
                          have go_ := g
                          refine g_callv (va_runV (As := []) (rest := []) ⟨hx, hb, hml, hown, hts⟩ (r_X0_readAbove_2 l dC dI L kd tys fr_23 H.size g.2.2.2.1 a0_ ma0_ ka0_ q0_ mq0_ kq0_ q1_ mq1_ kq1_ q2_ mq2_ kq2_ q3_ mq3_ kq3_ y0_ by0_ hG_24 (g.fcts [3, 4, 2, 6, 7] rfl)) (cwV 0 hts (gV_ t_1276 t_1278 t_27 t_190 t_1279) rfl rfl rfl (by decide +kernel) ⟨(Nat.le_of_ble_eq_true rfl), (Nat.le_of_ble_eq_true rfl)⟩) (pre3V g hK ma0_ ka0_ (by decide) (q := (RX0, TX0, 14)) rfl) rfl rfl hl.1 rfl (lv_room (Nat.le_of_ble_eq_true rfl)) dX0_read_142 ⟨(Nat.le_of_ble_eq_true rfl), (Nat.le_of_ble_eq_true rfl)⟩) g hK (by decide) (by decide) (fx' := [(0, 13, a0_, .int x_17), (0, 2, a0_, .ref q2_), (0, 0, a0_, .ref q0_), (0, 1, a0_, .ref q1_), (5, 0, q1_, .ref q2_), (5, 1, q1_, .ref q3_)]) rfl (fun fr_232 H locs hp hMr_232 g => ?_)
                          rcases hp with ⟨hG_233, x_234, h_235, x_236, h_237, x_238, h_239, x_240, h_241, hF_242⟩ | ⟨hG_243, x_244, h_245, hF_246⟩
                          · have g := g.more hF_242
                            refine lv_goto (tgt := 222) hx hb dX0_read_145 (by decide) ?_
                            obtain ⟨y_247, ey_247⟩ : ∃ z : Int32, z = v38_1 + 1 := ⟨_, rfl⟩
                            refine lv_iinc (v := y_247) (lv' := [(1, .int y_247), (2, .int r_23), (0, .ref a0_)]) hx hb dX0_read_222 hl (k := 1) rfl (by rw [ey_247]; rfl) (by decide) rfl (fun ls hl => ?_)
                            have ty_247 := add_bd ey_247 b_16 kb_1 (by decide)
                            have b_248 : bd 1 2401 y_247 := add_rg ty_247 b_16 kb_1 (by decide)
                            refine lv_goto (tgt := 38) hx hb dX0_read_225 (by decide) ?_
                            have hl9 := lv_sub hl [0, 2] (by rfl : lv_pick [(1, .int y_247), (2, .int r_23), (0, .ref a0_)] [0, 2] = [(1, .int y_247), (0, .ref a0_)])
                            have g9 := g.sub (fx' := [(0, 2, a0_, .ref q2_), (0, 0, a0_, .ref q0_), (0, 1, a0_, .ref q1_), (5, 0, q1_, .ref q2_), (5, 1, q1_, .ref q3_), (8, 8, q0_, .int y0_)]) [6, 7, 8, 9, 10, 2] rfl
                            exact ih38  y_247 (bd_sub b_248 (by decide)) (by have h9_0 := b_248; unfold bd at h9_0; have h9_1 := bv38_1; unfold bd at h9_1; have h9_2 := h_235; unfold bd at h9_2; have h9_3 := kb_0; unfold bd at h9_3; have h9_4 := kb_1; unfold bd at h9_4; have h9_5 := kb_11; unfold bd at h9_5; have h9_6 := kb_2400; unfold bd at h9_6; have h9_7 := kb_3; unfold bd at h9_7; have h9_8 := kb_33; unfold bd at h9_8; have h9_9 := kb_4; unfold bd at h9_9; have h9_10 := kb_40; unfold bd at h9_10; have h9_11 := kb_45; unfold bd at h9_11; omega) _ _ _ _ g9 hG_233 hl9
                          · have g := g.more hF_246
                            refine lv_goto (tgt := 222) hx hb dX0_read_145 (by decide) ?_
                            obtain ⟨y_249, ey_249⟩ : ∃ z : Int32, z = v38_1 + 1 := ⟨_, rfl⟩
                            refine lv_iinc (v := y_249) (lv' := [(1, .int y_249), (2, .int r_23), (0, .ref a0_)]) hx hb dX0_read_222 hl (k := 1) rfl (by rw [ey_249]; rfl) (by decide) rfl (fun ls hl => ?_)
                            have ty_249 := add_bd ey_249 b_16 kb_1 (by decide)
                            have b_250 : bd 1 2401 y_249 := add_rg ty_249 b_16 kb_1 (by decide)
                            refine lv_goto (tgt := 38) hx hb dX0_read_225 (by decide) ?_
                            refine lv_iload_n hx hb dX0_read_38 rfl (lv_at hl 0 rfl) ?_
                            refine lv_sipush (v := 2400) hx hb dX0_read_39 (by decide) ?_
                            refine lv_icmp_gt (tgt := 228) hx hb dX0_read_42 (by decide) (fun c_251 => ?_) (fun c_251 => ?_)
                            · have fc_251 := lt_f c_251
                              have b_252 : bd 2401 2401 y_249 := ltR fc_251 kb_2400 b_250 (by decide)
                              have b_253 : bd 2400 2400 v38_1 := add_inv ty_249 b_252 b_16 kb_1 (by decide)
                              have kb_1201 : bd 1201 1201 (1201 : Int32) := ⟨by decide, by decide⟩
                              subst hQ
                              exact W.vret hx hb hr (fun t ht hW => ⟨⟨_, rfl, Or.inr (⟨hG_243, 1201, kb_1201, x_244, h_245, (g.fcts [0, 1, 3] rfl)⟩), q3_of g hK ht hW⟩, g.2.2.1.F ht⟩) g.2.2.1.2.2 dX0_read_228
                            · have fc_251 := nlt_f c_251
                              have b_254 : bd 1 2400 y_249 := leL fc_251 b_250 kb_2400 (by decide)
                              have b_255 : bd 0 2399 v38_1 := add_inv ty_249 b_254 b_16 kb_1 (by decide)
                              refine lv_aload_n hx hb dX0_read_45 rfl (lv_at hl 2 rfl) ?_
                              refine g_getk (C := RX0) (T := TX0) (N := 14) hx hb hts (mc_ inX0) hown hK g rfl 13 (by decide) rfl (hts _ (List.mem_cons_of_mem _ t_386)) (fun _ h9 => h9) 2 rfl dX0_read_46 ?_
                              refine lv_if_ne (tgt := 228) hx hb dX0_read_49 (by decide) (fun c_256 => ?_) (fun c_256 => ?_)
                              · have fc_256 := neq_f c_256
                                have b_257 : bd 1 (-1) x_17 := neX fc_256 b_20 kb_0 (by decide)
                                exact bd_no b_257 (by decide)
                              · have fc_256 := eq_f c_256
                                refine lv_aload_n hx hb dX0_read_52 rfl (lv_at hl 2 rfl) ?_
                                refine g_getk (C := RX0) (T := TX0) (N := 14) hx hb hts (mc_ inX0) hown hK g rfl 0 (by decide) rfl (hts _ (List.mem_cons_of_mem _ t_373)) (fun _ h9 => h9) 4 rfl dX0_read_53 ?_
                                refine g_getk (C := RX8) (T := TX8) (N := 10) hx hb hts (mc_ inX8) hown hK g rfl 8 (by decide) rfl (hts _ (List.mem_cons_of_mem _ t_293)) (fun _ h9 => h9) 1 rfl dX0_read_56 ?_
                                refine lv_if_ne (tgt := 228) hx hb dX0_read_59 (by decide) (fun c_258 => ?_) (fun c_258 => ?_)
                                · have fc_258 := neq_f c_258
                                  have kb_1201 : bd 1201 1201 (1201 : Int32) := ⟨by decide, by decide⟩
                                  subst hQ
                                  exact W.vret hx hb hr (fun t ht hW => ⟨⟨_, rfl, Or.inr (⟨hG_243, 1201, kb_1201, x_244, h_245, (g.fcts [0, 1, 3] rfl)⟩), q3_of g hK ht hW⟩, g.2.2.1.F ht⟩) g.2.2.1.2.2 dX0_read_228
                                · have fc_258 := eq_f c_258
                                  have b_259 : bd 1 0 x_244 := eqX fc_258 h_245 kb_0 (by decide)
                                  exact bd_no b_259 (by decide)
                      · have fc_90 := eq_f c_90
                        have b_260 : bd 33 33 r_23 := eqX fc_90 (bdT r_23) kb_33 (by decide)
                        refine lv_aload_n hx hb dX0_read_127 rfl (lv_at hl 2 rfl) ?_
                        refine lv_iload_n hx hb dX0_read_128 rfl (lv_at hl 0 rfl) ?_
                        have go_ := g
                        refine g_callv (va_runV (As := [.int r_23]) (rest := []) ⟨hx, hb, hml, hown, hts⟩ (r_X0_openSign_2 l dC dI L kd tys fr_23 H.size g.2.2.2.1 a0_ ma0_ ka0_ r_23 q0_ mq0_ kq0_ q2_ mq2_ kq2_ y0_ by0_ hG_24 (g.fcts [3, 2, 7] rfl)) (cwV 1 hts (gV_ t_1272 t_1274 t_26 t_190 t_1275) rfl rfl rfl (by decide +kernel) ⟨(Nat.le_of_ble_eq_true rfl), (Nat.le_of_ble_eq_true rfl)⟩) (pre3V g hK ma0_ ka0_ (by decide) (q := (RX0, TX0, 14)) rfl) rfl rfl hl.1 rfl (lv_room (Nat.le_of_ble_eq_true rfl)) dX0_read_129 ⟨(Nat.le_of_ble_eq_true rfl), (Nat.le_of_ble_eq_true rfl)⟩) g hK (by decide) (by decide) (fx' := [(0, 12, a0_, .int x_25), (0, 13, a0_, .int x_17), (0, 2, a0_, .ref q2_), (0, 0, a0_, .ref q0_), (0, 1, a0_, .ref q1_), (5, 0, q1_, .ref q2_), (5, 1, q1_, .ref q3_)]) rfl (fun fr_261 H locs hp hMr_261 g => ?_)
                        rcases hp with ⟨hG_262, x_263, h_264, x_265, h_266, x_267, h_268, hF_269⟩ | ⟨hG_270, x_271, h_272, x_273, h_274, hF_275⟩
                        · have g := g.more hF_269
                          refine lv_goto (tgt := 222) hx hb dX0_read_132 (by decide) ?_
                          obtain ⟨y_276, ey_276⟩ : ∃ z : Int32, z = v38_1 + 1 := ⟨_, rfl⟩
                          refine lv_iinc (v := y_276) (lv' := [(1, .int y_276), (2, .int r_23), (0, .ref a0_)]) hx hb dX0_read_222 hl (k := 1) rfl (by rw [ey_276]; rfl) (by decide) rfl (fun ls hl => ?_)
                          have ty_276 := add_bd ey_276 b_16 kb_1 (by decide)
                          have b_277 : bd 1 2401 y_276 := add_rg ty_276 b_16 kb_1 (by decide)
                          refine lv_goto (tgt := 38) hx hb dX0_read_225 (by decide) ?_
                          have hl9 := lv_sub hl [0, 2] (by rfl : lv_pick [(1, .int y_276), (2, .int r_23), (0, .ref a0_)] [0, 2] = [(1, .int y_276), (0, .ref a0_)])
                          have g9 := g.sub (fx' := [(0, 2, a0_, .ref q2_), (0, 0, a0_, .ref q0_), (0, 1, a0_, .ref q1_), (5, 0, q1_, .ref q2_), (5, 1, q1_, .ref q3_), (8, 8, q0_, .int y0_)]) [6, 7, 8, 9, 10, 3] rfl
                          exact ih38  y_276 (bd_sub b_277 (by decide)) (by have h9_0 := b_27; unfold bd at h9_0; have h9_1 := b_277; unfold bd at h9_1; have h9_2 := bv38_1; unfold bd at h9_2; have h9_3 := h_266; unfold bd at h9_3; have h9_4 := h_268; unfold bd at h9_4; have h9_5 := kb_0; unfold bd at h9_5; have h9_6 := kb_1; unfold bd at h9_6; have h9_7 := kb_2400; unfold bd at h9_7; have h9_8 := kb_3; unfold bd at h9_8; have h9_9 := kb_33; unfold bd at h9_9; have h9_10 := kb_4; unfold bd at h9_10; have h9_11 := kb_40; unfold bd at h9_11; have h9_12 := kb_45; unfold bd at h9_12; omega) _ _ _ _ g9 hG_262 hl9
                        · have g := g.more hF_275
                          refine lv_goto (tgt := 222) hx hb dX0_read_132 (by decide) ?_
                          obtain ⟨y_278, ey_278⟩ : ∃ z : Int32, z = v38_1 + 1 := ⟨_, rfl⟩
                          refine lv_iinc (v := y_278) (lv' := [(1, .int y_278), (2, .int r_23), (0, .ref a0_)]) hx hb dX0_read_222 hl (k := 1) rfl (by rw [ey_278]; rfl) (by decide) rfl (fun ls hl => ?_)
                          have ty_278 := add_bd ey_278 b_16 kb_1 (by decide)
                          have b_279 : bd 1 2401 y_278 := add_rg ty_278 b_16 kb_1 (by decide)
                          refine lv_goto (tgt := 38) hx hb dX0_read_225 (by decide) ?_
                          refine lv_iload_n hx hb dX0_read_38 rfl (lv_at hl 0 rfl) ?_
                          refine lv_sipush (v := 2400) hx hb dX0_read_39 (by decide) ?_
                          refine lv_icmp_gt (tgt := 228) hx hb dX0_read_42 (by decide) (fun c_280 => ?_) (fun c_280 => ?_)
                          · have fc_280 := lt_f c_280
                            have b_281 : bd 2401 2401 y_278 := ltR fc_280 kb_2400 b_279 (by decide)
                            have b_282 : bd 2400 2400 v38_1 := add_inv ty_278 b_281 b_16 kb_1 (by decide)
                            have kb_1201 : bd 1201 1201 (1201 : Int32) := ⟨by decide, by decide⟩
                            subst hQ
                            exact W.vret hx hb hr (fun t ht hW => ⟨⟨_, rfl, Or.inr (⟨hG_270, 1201, kb_1201, x_273, h_274, (g.fcts [1, 2, 5] rfl)⟩), q3_of g hK ht hW⟩, g.2.2.1.F ht⟩) g.2.2.1.2.2 dX0_read_228
                          · have fc_280 := nlt_f c_280
                            have b_283 : bd 1 2400 y_278 := leL fc_280 b_279 kb_2400 (by decide)
                            have b_284 : bd 0 2399 v38_1 := add_inv ty_278 b_283 b_16 kb_1 (by decide)
                            refine lv_aload_n hx hb dX0_read_45 rfl (lv_at hl 2 rfl) ?_
                            refine g_getk (C := RX0) (T := TX0) (N := 14) hx hb hts (mc_ inX0) hown hK g rfl 13 (by decide) rfl (hts _ (List.mem_cons_of_mem _ t_386)) (fun _ h9 => h9) 4 rfl dX0_read_46 ?_
                            refine lv_if_ne (tgt := 228) hx hb dX0_read_49 (by decide) (fun c_285 => ?_) (fun c_285 => ?_)
                            · have fc_285 := neq_f c_285
                              have b_286 : bd 1 (-1) x_17 := neX fc_285 b_20 kb_0 (by decide)
                              exact bd_no b_286 (by decide)
                            · have fc_285 := eq_f c_285
                              refine lv_aload_n hx hb dX0_read_52 rfl (lv_at hl 2 rfl) ?_
                              refine g_getk (C := RX0) (T := TX0) (N := 14) hx hb hts (mc_ inX0) hown hK g rfl 0 (by decide) rfl (hts _ (List.mem_cons_of_mem _ t_373)) (fun _ h9 => h9) 6 rfl dX0_read_53 ?_
                              refine g_getk (C := RX8) (T := TX8) (N := 10) hx hb hts (mc_ inX8) hown hK g rfl 8 (by decide) rfl (hts _ (List.mem_cons_of_mem _ t_293)) (fun _ h9 => h9) 2 rfl dX0_read_56 ?_
                              refine lv_if_ne (tgt := 228) hx hb dX0_read_59 (by decide) (fun c_287 => ?_) (fun c_287 => ?_)
                              · have fc_287 := neq_f c_287
                                have kb_1201 : bd 1201 1201 (1201 : Int32) := ⟨by decide, by decide⟩
                                subst hQ
                                exact W.vret hx hb hr (fun t ht hW => ⟨⟨_, rfl, Or.inr (⟨hG_270, 1201, kb_1201, x_273, h_274, (g.fcts [1, 2, 5] rfl)⟩), q3_of g hK ht hW⟩, g.2.2.1.F ht⟩) g.2.2.1.2.2 dX0_read_228
                              · have fc_287 := eq_f c_287
                                have b_288 : bd 1 0 x_273 := eqX fc_287 h_274 kb_0 (by decide)
                                exact bd_no b_288 (by decide)
                · have fc_29 := eq_f c_29
                  have b_289 : bd 4 4 r_23 := eqX fc_29 (bdT r_23) kb_4 (by decide)
                  refine lv_aload_n hx hb dX0_read_102 rfl (lv_at hl 2 rfl) ?_
                  have go_ := g
                  refine g_callv (va_runV (As := []) (rest := []) ⟨hx, hb, hml, hown, hts⟩ (r_X0_readNumber l dC dI L kd tys fr_23 H.size g.2.2.2.1 a0_ ma0_ ka0_ q0_ mq0_ kq0_ q2_ mq2_ kq2_ y0_ by0_ (g.fcts [3, 2, 7] rfl)) (cwV 0 hts (gV_ t_1268 t_1270 t_25 t_190 t_1271) rfl rfl rfl (by decide +kernel) ⟨(Nat.le_of_ble_eq_true rfl), (Nat.le_of_ble_eq_true rfl)⟩) (pre3V g hK ma0_ ka0_ (by decide) (q := (RX0, TX0, 14)) rfl) rfl rfl hl.1 rfl (lv_room (Nat.le_of_ble_eq_true rfl)) dX0_read_103 ⟨(Nat.le_of_ble_eq_true rfl), (Nat.le_of_ble_eq_true rfl)⟩) g hK (by decide) (by decide) (fx' := [(0, 13, a0_, .int x_17), (0, 2, a0_, .ref q2_), (0, 0, a0_, .ref q0_), (0, 1, a0_, .ref q1_), (5, 0, q1_, .ref q2_), (5, 1, q1_, .ref q3_), (8, 8, q0_, .int y0_)]) rfl (fun fr_290 H locs hp hMr_290 g => ?_)
                  obtain ⟨x_291, h_292, x_293, h_294, x_295, h_296, hF_297⟩ := hp
                  have hG_298 := eOK.frame hMr_290 go_.2.2.2.1 ma0_ ka0_ (by decide) (by decide) hG_24
                  have g := g.more hF_297
                  refine lv_goto (tgt := 222) hx hb dX0_read_106 (by decide) ?_
                  obtain ⟨y_299, ey_299⟩ : ∃ z : Int32, z = v38_1 + 1 := ⟨_, rfl⟩
                  refine lv_iinc (v := y_299) (lv' := [(1, .int y_299), (2, .int r_23), (0, .ref a0_)]) hx hb dX0_read_222 hl (k := 1) rfl (by rw [ey_299]; rfl) (by decide) rfl (fun ls hl => ?_)
                  have ty_299 := add_bd ey_299 b_16 kb_1 (by decide)
                  have b_300 : bd 1 2401 y_299 := add_rg ty_299 b_16 kb_1 (by decide)
                  refine lv_goto (tgt := 38) hx hb dX0_read_225 (by decide) ?_
                  have hl9 := lv_sub hl [0, 2] (by rfl : lv_pick [(1, .int y_299), (2, .int r_23), (0, .ref a0_)] [0, 2] = [(1, .int y_299), (0, .ref a0_)])
                  have g9 := g.sub (fx' := [(0, 2, a0_, .ref q2_), (0, 0, a0_, .ref q0_), (0, 1, a0_, .ref q1_), (5, 0, q1_, .ref q2_), (5, 1, q1_, .ref q3_), (8, 8, q0_, .int y0_)]) [5, 6, 7, 8, 9, 10] rfl
                  exact ih38  y_299 (bd_sub b_300 (by decide)) (by have h9_0 := b_300; unfold bd at h9_0; have h9_1 := bv38_1; unfold bd at h9_1; have h9_2 := h_292; unfold bd at h9_2; have h9_3 := kb_0; unfold bd at h9_3; have h9_4 := kb_1; unfold bd at h9_4; have h9_5 := kb_2400; unfold bd at h9_5; have h9_6 := kb_3; unfold bd at h9_6; have h9_7 := kb_4; unfold bd at h9_7; omega) _ _ _ _ g9 hG_298 hl9
              · have fc_28 := eq_f c_28
                have b_301 : bd 3 3 r_23 := eqX fc_28 (bdT r_23) kb_3 (by decide)
                refine lv_aload_n hx hb dX0_read_90 rfl (lv_at hl 2 rfl) ?_
                have go_ := g
                refine g_callv (va_runV (As := []) (rest := []) ⟨hx, hb, hml, hown, hts⟩ (r_X0_readName_2 l dC dI L kd tys fr_23 H.size g.2.2.2.1 a0_ ma0_ ka0_ q0_ mq0_ kq0_ q1_ mq1_ kq1_ q2_ mq2_ kq2_ q3_ mq3_ kq3_ y0_ by0_ hG_24 (g.fcts [3, 4, 2, 6, 7] rfl)) (cwV 0 hts (gV_ t_1234 t_1236 t_22 t_190 t_1237) rfl rfl rfl (by decide +kernel) ⟨(Nat.le_of_ble_eq_true rfl), (Nat.le_of_ble_eq_true rfl)⟩) (pre3V g hK ma0_ ka0_ (by decide) (q := (RX0, TX0, 14)) rfl) rfl rfl hl.1 rfl (lv_room (Nat.le_of_ble_eq_true rfl)) dX0_read_91 ⟨(Nat.le_of_ble_eq_true rfl), (Nat.le_of_ble_eq_true rfl)⟩) g hK (by decide) (by decide) (fx' := [(0, 13, a0_, .int x_17), (0, 2, a0_, .ref q2_), (0, 0, a0_, .ref q0_), (0, 1, a0_, .ref q1_), (5, 0, q1_, .ref q2_), (5, 1, q1_, .ref q3_)]) rfl (fun fr_302 H locs hp hMr_302 g => ?_)
                rcases hp with ⟨hG_303, x_304, h_305, hF_306⟩ | ⟨hG_307, x_308, h_309, x_310, h_311, hF_312⟩
                · have g := g.more hF_306
                  refine lv_goto (tgt := 222) hx hb dX0_read_94 (by decide) ?_
                  obtain ⟨y_313, ey_313⟩ : ∃ z : Int32, z = v38_1 + 1 := ⟨_, rfl⟩
                  refine lv_iinc (v := y_313) (lv' := [(1, .int y_313), (2, .int r_23), (0, .ref a0_)]) hx hb dX0_read_222 hl (k := 1) rfl (by rw [ey_313]; rfl) (by decide) rfl (fun ls hl => ?_)
                  have ty_313 := add_bd ey_313 b_16 kb_1 (by decide)
                  have b_314 : bd 1 2401 y_313 := add_rg ty_313 b_16 kb_1 (by decide)
                  refine lv_goto (tgt := 38) hx hb dX0_read_225 (by decide) ?_
                  have hl9 := lv_sub hl [0, 2] (by rfl : lv_pick [(1, .int y_313), (2, .int r_23), (0, .ref a0_)] [0, 2] = [(1, .int y_313), (0, .ref a0_)])
                  have g9 := g.sub (fx' := [(0, 2, a0_, .ref q2_), (0, 0, a0_, .ref q0_), (0, 1, a0_, .ref q1_), (5, 0, q1_, .ref q2_), (5, 1, q1_, .ref q3_), (8, 8, q0_, .int y0_)]) [3, 4, 5, 6, 7, 1] rfl
                  exact ih38  y_313 (bd_sub b_314 (by decide)) (by have h9_0 := b_314; unfold bd at h9_0; have h9_1 := bv38_1; unfold bd at h9_1; have h9_2 := kb_0; unfold bd at h9_2; have h9_3 := kb_1; unfold bd at h9_3; have h9_4 := kb_2400; unfold bd at h9_4; have h9_5 := kb_3; unfold bd at h9_5; omega) _ _ _ _ g9 hG_303 hl9
                · have g := g.more hF_312
                  refine lv_goto (tgt := 222) hx hb dX0_read_94 (by decide) ?_
                  obtain ⟨y_315, ey_315⟩ : ∃ z : Int32, z = v38_1 + 1 := ⟨_, rfl⟩
                  refine lv_iinc (v := y_315) (lv' := [(1, .int y_315), (2, .int r_23), (0, .ref a0_)]) hx hb dX0_read_222 hl (k := 1) rfl (by rw [ey_315]; rfl) (by decide) rfl (fun ls hl => ?_)
                  have ty_315 := add_bd ey_315 b_16 kb_1 (by decide)
                  have b_316 : bd 1 2401 y_315 := add_rg ty_315 b_16 kb_1 (by decide)
                  refine lv_goto (tgt := 38) hx hb dX0_read_225 (by decide) ?_
                  refine lv_iload_n hx hb dX0_read_38 rfl (lv_at hl 0 rfl) ?_
                  refine lv_sipush (v := 2400) hx hb dX0_read_39 (by decide) ?_
                  refine lv_icmp_gt (tgt := 228) hx hb dX0_read_42 (by decide) (fun c_317 => ?_) (fun c_317 => ?_)
                  · have fc_317 := lt_f c_317
                    have b_318 : bd 2401 2401 y_315 := ltR fc_317 kb_2400 b_316 (by decide)
                    have b_319 : bd 2400 2400 v38_1 := add_inv ty_315 b_318 b_16 kb_1 (by decide)
                    subst hQ
                    exact W.vret hx hb hr (fun t ht hW => ⟨⟨_, rfl, Or.inr (⟨hG_307, x_308, h_309, x_310, h_311, (g.fcts [0, 1, 3] rfl)⟩), q3_of g hK ht hW⟩, g.2.2.1.F ht⟩) g.2.2.1.2.2 dX0_read_228
                  · have fc_317 := nlt_f c_317
                    have b_320 : bd 1 2400 y_315 := leL fc_317 b_316 kb_2400 (by decide)
                    have b_321 : bd 0 2399 v38_1 := add_inv ty_315 b_320 b_16 kb_1 (by decide)
                    refine lv_aload_n hx hb dX0_read_45 rfl (lv_at hl 2 rfl) ?_
                    refine g_getk (C := RX0) (T := TX0) (N := 14) hx hb hts (mc_ inX0) hown hK g rfl 13 (by decide) rfl (hts _ (List.mem_cons_of_mem _ t_386)) (fun _ h9 => h9) 2 rfl dX0_read_46 ?_
                    refine lv_if_ne (tgt := 228) hx hb dX0_read_49 (by decide) (fun c_322 => ?_) (fun c_322 => ?_)
                    · have fc_322 := neq_f c_322
                      have b_323 : bd 1 (-1) x_17 := neX fc_322 b_20 kb_0 (by decide)
                      exact bd_no b_323 (by decide)
                    · have fc_322 := eq_f c_322
                      refine lv_aload_n hx hb dX0_read_52 rfl (lv_at hl 2 rfl) ?_
                      refine g_getk (C := RX0) (T := TX0) (N := 14) hx hb hts (mc_ inX0) hown hK g rfl 0 (by decide) rfl (hts _ (List.mem_cons_of_mem _ t_373)) (fun _ h9 => h9) 4 rfl dX0_read_53 ?_
                      refine g_getk (C := RX8) (T := TX8) (N := 10) hx hb hts (mc_ inX8) hown hK g rfl 8 (by decide) rfl (hts _ (List.mem_cons_of_mem _ t_293)) (fun _ h9 => h9) 1 rfl dX0_read_56 ?_
                      refine lv_if_ne (tgt := 228) hx hb dX0_read_59 (by decide) (fun c_324 => ?_) (fun c_324 => ?_)
                      · have fc_324 := neq_f c_324
                        subst hQ
                        exact W.vret hx hb hr (fun t ht hW => ⟨⟨_, rfl, Or.inr (⟨hG_307, x_308, h_309, x_310, h_311, (g.fcts [0, 1, 3] rfl)⟩), q3_of g hK ht hW⟩, g.2.2.1.F ht⟩) g.2.2.1.2.2 dX0_read_228
                      · have fc_324 := eq_f c_324
                        have b_325 : bd 1 0 x_310 := eqX fc_324 h_311 kb_0 (by decide)
                        exact bd_no b_325 (by decide)
            · have fc_26 := eq_f c_26
              have b_326 : bd 0 0 x_25 := eqX fc_26 bx_25 kb_0 (by decide)
              refine lv_aload_n hx hb dX0_read_77 rfl (lv_at hl 2 rfl) ?_
              refine lv_iload_n hx hb dX0_read_78 rfl (lv_at hl 0 rfl) ?_
              have go_ := g
              refine g_callv (va_runV (As := [.int r_23]) (rest := []) ⟨hx, hb, hml, hown, hts⟩ (r_X0_readBehind l dC dI L kd tys fr_23 H.size g.2.2.2.1 a0_ ma0_ ka0_ r_23 q0_ mq0_ kq0_ q1_ mq1_ kq1_ q2_ mq2_ kq2_ q3_ mq3_ kq3_ y0_ by0_ hG_24 (g.fcts [3, 4, 2, 6, 7] rfl)) (cwV 1 hts (gV_ t_1187 t_1189 t_14 t_190 t_1190) rfl rfl rfl (by decide +kernel) ⟨(Nat.le_of_ble_eq_true rfl), (Nat.le_of_ble_eq_true rfl)⟩) (pre3V g hK ma0_ ka0_ (by decide) (q := (RX0, TX0, 14)) rfl) rfl rfl hl.1 rfl (lv_room (Nat.le_of_ble_eq_true rfl)) dX0_read_79 ⟨(Nat.le_of_ble_eq_true rfl), (Nat.le_of_ble_eq_true rfl)⟩) g hK (by decide) (by decide) (fx' := [(0, 2, a0_, .ref q2_), (0, 0, a0_, .ref q0_), (0, 1, a0_, .ref q1_), (5, 0, q1_, .ref q2_), (5, 1, q1_, .ref q3_)]) rfl (fun fr_327 H locs hp hMr_327 g => ?_)
              rcases hp with ⟨hG_328, hF_329⟩ | ⟨hG_330, x_331, h_332, hF_333⟩
              · have g := g.more hF_329
                refine lv_goto (tgt := 222) hx hb dX0_read_82 (by decide) ?_
                obtain ⟨y_334, ey_334⟩ : ∃ z : Int32, z = v38_1 + 1 := ⟨_, rfl⟩
                refine lv_iinc (v := y_334) (lv' := [(1, .int y_334), (2, .int r_23), (0, .ref a0_)]) hx hb dX0_read_222 hl (k := 1) rfl (by rw [ey_334]; rfl) (by decide) rfl (fun ls hl => ?_)
                have ty_334 := add_bd ey_334 b_16 kb_1 (by decide)
                have b_335 : bd 1 2401 y_334 := add_rg ty_334 b_16 kb_1 (by decide)
                refine lv_goto (tgt := 38) hx hb dX0_read_225 (by decide) ?_
                have hl9 := lv_sub hl [0, 2] (by rfl : lv_pick [(1, .int y_334), (2, .int r_23), (0, .ref a0_)] [0, 2] = [(1, .int y_334), (0, .ref a0_)])
                have g9 := g.sub (fx' := [(0, 2, a0_, .ref q2_), (0, 0, a0_, .ref q0_), (0, 1, a0_, .ref q1_), (5, 0, q1_, .ref q2_), (5, 1, q1_, .ref q3_), (8, 8, q0_, .int y0_)]) [1, 2, 3, 4, 5, 0] rfl
                exact ih38  y_334 (bd_sub b_335 (by decide)) (by have h9_0 := b_335; unfold bd at h9_0; have h9_1 := bv38_1; unfold bd at h9_1; have h9_2 := kb_0; unfold bd at h9_2; have h9_3 := kb_1; unfold bd at h9_3; have h9_4 := kb_2400; unfold bd at h9_4; omega) _ _ _ _ g9 hG_328 hl9
              · have g := g.more hF_333
                refine lv_goto (tgt := 222) hx hb dX0_read_82 (by decide) ?_
                obtain ⟨y_336, ey_336⟩ : ∃ z : Int32, z = v38_1 + 1 := ⟨_, rfl⟩
                refine lv_iinc (v := y_336) (lv' := [(1, .int y_336), (2, .int r_23), (0, .ref a0_)]) hx hb dX0_read_222 hl (k := 1) rfl (by rw [ey_336]; rfl) (by decide) rfl (fun ls hl => ?_)
                have ty_336 := add_bd ey_336 b_16 kb_1 (by decide)
                have b_337 : bd 1 2401 y_336 := add_rg ty_336 b_16 kb_1 (by decide)
                refine lv_goto (tgt := 38) hx hb dX0_read_225 (by decide) ?_
                refine lv_iload_n hx hb dX0_read_38 rfl (lv_at hl 0 rfl) ?_
                refine lv_sipush (v := 2400) hx hb dX0_read_39 (by decide) ?_
                refine lv_icmp_gt (tgt := 228) hx hb dX0_read_42 (by decide) (fun c_338 => ?_) (fun c_338 => ?_)
                · have fc_338 := lt_f c_338
                  have b_339 : bd 2401 2401 y_336 := ltR fc_338 kb_2400 b_337 (by decide)
                  have b_340 : bd 2400 2400 v38_1 := add_inv ty_336 b_339 b_16 kb_1 (by decide)
                  have kb_1201 : bd 1201 1201 (1201 : Int32) := ⟨by decide, by decide⟩
                  subst hQ
                  exact W.vret hx hb hr (fun t ht hW => ⟨⟨_, rfl, Or.inr (⟨hG_330, 1201, kb_1201, x_331, h_332, (g.fcts [0, 1, 2] rfl)⟩), q3_of g hK ht hW⟩, g.2.2.1.F ht⟩) g.2.2.1.2.2 dX0_read_228
                · have fc_338 := nlt_f c_338
                  have b_341 : bd 1 2400 y_336 := leL fc_338 b_337 kb_2400 (by decide)
                  have b_342 : bd 0 2399 v38_1 := add_inv ty_336 b_341 b_16 kb_1 (by decide)
                  refine lv_aload_n hx hb dX0_read_45 rfl (lv_at hl 2 rfl) ?_
                  refine g_geti (C := RX0) (T := TX0) (N := 14) hx hb hts (mc_ inX0) hown hK g ma0_ ka0_ (by decide) rfl 13 (by decide) rfl (hts _ (List.mem_cons_of_mem _ t_386)) (fun _ h9 => h9) rfl dX0_read_46 (fun x_343 bx_343 g => ?_)
                  refine lv_if_ne (tgt := 228) hx hb dX0_read_49 (by decide) (fun c_344 => ?_) (fun c_344 => ?_)
                  · have fc_344 := neq_f c_344
                    have b_345 : bd 1 1 x_343 := neX fc_344 bx_343 kb_0 (by decide)
                    have kb_1201 : bd 1201 1201 (1201 : Int32) := ⟨by decide, by decide⟩
                    subst hQ
                    exact W.vret hx hb hr (fun t ht hW => ⟨⟨_, rfl, Or.inr (⟨hG_330, 1201, kb_1201, x_331, h_332, (g.fcts [1, 2, 3] rfl)⟩), q3_of g hK ht hW⟩, g.2.2.1.F ht⟩) g.2.2.1.2.2 dX0_read_228
                  · have fc_344 := eq_f c_344
                    have b_346 : bd 0 0 x_343 := eqX fc_344 bx_343 kb_0 (by decide)
                    refine lv_aload_n hx hb dX0_read_52 rfl (lv_at hl 2 rfl) ?_
                    refine g_getk (C := RX0) (T := TX0) (N := 14) hx hb hts (mc_ inX0) hown hK g rfl 0 (by decide) rfl (hts _ (List.mem_cons_of_mem _ t_373)) (fun _ h9 => h9) 4 rfl dX0_read_53 ?_
                    refine g_getk (C := RX8) (T := TX8) (N := 10) hx hb hts (mc_ inX8) hown hK g rfl 8 (by decide) rfl (hts _ (List.mem_cons_of_mem _ t_293)) (fun _ h9 => h9) 2 rfl dX0_read_56 ?_
                    refine lv_if_ne (tgt := 228) hx hb dX0_read_59 (by decide) (fun c_347 => ?_) (fun c_347 => ?_)
                    · have fc_347 := neq_f c_347
                      have kb_1201 : bd 1201 1201 (1201 : Int32) := ⟨by decide, by decide⟩
                      subst hQ
                      exact W.vret hx hb hr (fun t ht hW => ⟨⟨_, rfl, Or.inr (⟨hG_330, 1201, kb_1201, x_331, h_332, (g.fcts [1, 2, 3] rfl)⟩), q3_of g hK ht hW⟩, g.2.2.1.F ht⟩) g.2.2.1.2.2 dX0_read_228
                    · have fc_347 := eq_f c_347
                      have b_348 : bd 1 0 x_331 := eqX fc_347 h_332 kb_0 (by decide)
                      exact bd_no b_348 (by decide)
  have hl9 := lv_sub hl [0, 1] (by rfl : lv_pick [(1, .int 0), (0, .ref a0_)] [0, 1] = [(1, .int 0), (0, .ref a0_)])
  have g9 := g.sub (fx' := [(0, 2, a0_, .ref q2_), (0, 0, a0_, .ref q0_), (0, 1, a0_, .ref q1_), (5, 0, q1_, .ref q2_), (5, 1, q1_, .ref q3_), (8, 8, q0_, .int y0_)]) [5, 6, 7, 8, 9, 10] rfl
  exact loop_13 (4805) 0 (bd_sub kb_0 (by decide)) (by have h9_0 := kb_0; unfold bd at h9_0; have h9_1 := kb_1; unfold bd at h9_1; omega) _ _ _ _ g9 hG_12 hl9
set_option maxHeartbeats 4000000 in
set_option maxRecDepth 100000 in
theorem r_X2_readAsked (l : Launch) (dC : Nat → ClassId) (dI : Nat → Nat → Nat) (L : List Nat) (kd : Nat → Nat) (tys : List (ClassId × FieldType)) (f0 : Nat → va_E) (sz : Nat) (hWT : WT L kd tys f0) (a0_ : Nat) (ma0_ : a0_ ∈ L) (ka0_ : kd a0_ = 2) (x1_ : Int32) (bx1_ : bd 0 0 x1_) (q0_ : Nat) (mq0_ : q0_ ∈ L) (kq0_ : kd q0_ = 8) (q1_ : Nat) (mq1_ : q1_ ∈ L) (kq1_ : kd q1_ = 5) (q2_ : Nat) (mq2_ : q2_ ∈ L) (kq2_ : kd q2_ = 0) (q3_ : Nat) (mq3_ : q3_ ∈ L) (kq3_ : kd q3_ = 7) (q6_ : Nat) (mq6_ : q6_ ∈ L) (kq6_ : kd q6_ = 7) (q7_ : Nat) (mq7_ : q7_ ∈ L) (kq7_ : kd q7_ = 9) (y0_ : Int32) (by0_ : bd 1 500 y0_) (y1_ : Int32) (by1_ : bd 0 0 y1_) (hGeq2_ : eOK f0 q2_) (hfx : Fs L kd f0 [(2, 0, a0_, .ref q0_), (2, 1, a0_, .ref q1_), (2, 2, a0_, .ref q2_), (2, 3, a0_, .ref q3_), (0, 0, q2_, .ref q0_), (0, 1, q2_, .ref q1_), (5, 0, q1_, .ref q6_), (5, 1, q1_, .ref q7_), (7, 13, q3_, .int y0_), (8, 8, q0_, .int y1_)]) : Met l yX2_readAsked (.code yX2_readAsked cX2_readAsked 2 none :: lw_g) ({ frames := 4, cells := 0, slots := 0, locals := 97 }) (va_Pc [.ref a0_, .int x1_] (P3 (dC, dI) L tys f0 sz)) (va_Qv (fun (f : Nat → va_E) => (eOK f q2_ ∧ ∃ z0_ : Int32, bd 1 2000 z0_ ∧ Fs L kd f [(7, 6, q3_, .int z0_), (5, 8, q1_, .int 0), (5, 7, q1_, .int 0), (0, 2, q2_, .ref q6_), (8, 8, q0_, .int y1_)]) ∨ (eOK f q2_ ∧ ∃ z0_ : Int32, bd 1 2000 z0_ ∧ ∃ z3_ : Int32, bd 1201 1201 z3_ ∧ ∃ z4_ : Int32, bd 1 7 z4_ ∧ Fs L kd f [(7, 6, q3_, .int z0_), (5, 8, q1_, .int 0), (5, 7, q1_, .int 0), (8, 6, q0_, .int z3_), (8, 8, q0_, .int z4_), (0, 2, q2_, .ref q6_)])) (Q3 (dC, dI) L kd tys [(0, 2), (0, 8), (0, 10), (0, 11), (0, 12), (0, 13), (5, 7), (5, 8), (7, 6), (7, 18), (8, 6), (8, 8), (8, 9)] [110, 111, 112, 113, 114, 115, 138, 139] f0 sz) (pA L sz)) 0 0 (pA L sz) := by
  refine Met.ofW (cc := cX2_readAsked) (maxL := 2) (ret := none) (by decide) rfl ?_
  intro p e s m args below meth c s₁ B hml hv
  obtain ⟨rfl, hsz, hP, hK, hD0⟩ := hv
  have hx := B.exec
  have hb := B.bytes
  have hr := B.returns
  have hts := atoms_spec (ws := (.code yX2_readAsked cX2_readAsked 2 none :: lw_g)) B.pre
  have hown : s.vm.findClass RX2 = some m.cls := findClass_of_methodNamed B.named
  have hlocks := B.notSynchronized
  subst hsz
  have g : G3 (dC, dI) L kd tys s f0 [(0, 2), (0, 8), (0, 10), (0, 11), (0, 12), (0, 13), (5, 7), (5, 8), (7, 6), (7, 18), (8, 6), (8, 8), (8, 9)] [110, 111, 112, 113, 114, 115, 138, 139] f0 s.heap [] [(2, 0, a0_, .ref q0_), (2, 1, a0_, .ref q1_), (2, 2, a0_, .ref q2_), (2, 3, a0_, .ref q3_), (0, 0, q2_, .ref q0_), (0, 1, q2_, .ref q1_), (5, 0, q1_, .ref q6_), (5, 1, q1_, .ref q7_), (7, 13, q3_, .int y0_), (8, 8, q0_, .int y1_)] := G3.start hP hD0 hWT hfx
  have hl := lv_entry ([.ref a0_, .int x1_]) (n := 2) (Nat.le_of_ble_eq_true rfl)
  rw [lg_entry_eq]
  generalize (lg_sl ([.ref a0_, .int x1_]) ++ List.replicate (2 - (lg_sl ([.ref a0_, .int x1_])).length) Slot.unset).toArray = ls at hl ⊢
  have hl : lv_has ls 2 [(0, .ref a0_), (1, .int x1_)] := hl
  refine W_q (fun Q hQ => ?_)
  refine lv_aload_n hx hb dX2_readAsked_0 rfl (lv_at hl 0 rfl) ?_
  refine g_getk (C := RX2) (T := TX2) (N := 16) hx hb hts (mc_ inX2) hown hK g rfl 1 (by decide) rfl (hts _ (List.mem_cons_of_mem _ t_417)) (fun _ h9 => h9) 1 rfl dX2_readAsked_1 ?_
  refine lv_iconst (v := 1) hx hb dX2_readAsked_4 (by decide) ?_
  have kb_1 : bd 1 1 (1 : Int32) := ⟨by decide, by decide⟩
  have go_ := g
  refine g_put (C := RX5) (T := TX5) (N := 9) hx hb hts (mc_ inX5) tyX5 tyX5_ok nmX5 hown hK g mq1_ kq1_ (by decide) rfl 7 (by decide) (hts _ (List.mem_cons_of_mem _ t_344)) (fun _ h9 => h9) rfl rfl (okV_i (bd_sub kb_1 (by decide))) rfl rfl (by decide) (Or.inr (Or.inl (by decide))) (fx' := [(2, 0, a0_, .ref q0_), (2, 1, a0_, .ref q1_), (2, 2, a0_, .ref q2_), (2, 3, a0_, .ref q3_), (0, 0, q2_, .ref q0_), (0, 1, q2_, .ref q1_), (5, 0, q1_, .ref q6_), (5, 1, q1_, .ref q7_), (7, 13, q3_, .int y0_), (8, 8, q0_, .int y1_)]) rfl dX2_readAsked_5 (fun f H locs hM_1 g => ?_)
  have hG_2 := eOK.frame hM_1 go_.2.2.2.1 mq2_ kq2_ (by decide) (by decide) hGeq2_
  refine lv_aload_n hx hb dX2_readAsked_8 rfl (lv_at hl 0 rfl) ?_
  refine g_getk (C := RX2) (T := TX2) (N := 16) hx hb hts (mc_ inX2) hown hK g rfl 1 (by decide) rfl (hts _ (List.mem_cons_of_mem _ t_417)) (fun _ h9 => h9) 2 rfl dX2_readAsked_9 ?_
  refine lv_iload_n hx hb dX2_readAsked_12 rfl (lv_at hl 1 rfl) ?_
  have go_ := g
  refine g_put (C := RX5) (T := TX5) (N := 9) hx hb hts (mc_ inX5) tyX5 tyX5_ok nmX5 hown hK g mq1_ kq1_ (by decide) rfl 8 (by decide) (hts _ (List.mem_cons_of_mem _ t_347)) (fun _ h9 => h9) rfl rfl (okV_i (bd_sub bx1_ (by decide))) (nar_z (bd_sub bx1_ (by decide) : bd 0 1 _).1 (bd_sub bx1_ (by decide) : bd 0 1 _).2) (fit_z (bd_sub bx1_ (by decide) : bd 0 1 _)) (by decide) (Or.inr (Or.inl (by decide))) (fx' := [(5, 7, q1_, .int 1), (2, 0, a0_, .ref q0_), (2, 1, a0_, .ref q1_), (2, 2, a0_, .ref q2_), (2, 3, a0_, .ref q3_), (0, 0, q2_, .ref q0_), (0, 1, q2_, .ref q1_), (5, 0, q1_, .ref q6_), (5, 1, q1_, .ref q7_), (7, 13, q3_, .int y0_), (8, 8, q0_, .int y1_)]) rfl dX2_readAsked_13 (fun f H locs hM_3 g => ?_)
  have hG_4 := eOK.frame hM_3 go_.2.2.2.1 mq2_ kq2_ (by decide) (by decide) hG_2
  refine lv_aload_n hx hb dX2_readAsked_16 rfl (lv_at hl 0 rfl) ?_
  refine g_getk (C := RX2) (T := TX2) (N := 16) hx hb hts (mc_ inX2) hown hK g rfl 2 (by decide) rfl (hts _ (List.mem_cons_of_mem _ t_418)) (fun _ h9 => h9) 4 rfl dX2_readAsked_17 ?_
  have go_ := g
  refine g_callv (va_runV (As := []) (rest := []) ⟨hx, hb, hml, hown, hts⟩ (r_X0_read l dC dI L kd tys f H.size g.2.2.2.1 q2_ mq2_ kq2_ q0_ mq0_ kq0_ q1_ mq1_ kq1_ q6_ mq6_ kq6_ q7_ mq7_ kq7_ y1_ by1_ hG_4 (g.fcts [6, 7, 8, 9, 11] rfl)) (cwV 0 hts (gV_ t_1182 t_1183 t_1184 t_190 t_1185) rfl rfl rfl (by decide +kernel) ⟨(Nat.le_of_ble_eq_true rfl), (Nat.le_of_ble_eq_true rfl)⟩) (pre3V g hK mq2_ kq2_ (by decide) (q := (RX0, TX0, 14)) rfl) rfl rfl hl.1 rfl (lv_room (Nat.le_of_ble_eq_true rfl)) dX2_readAsked_20 ⟨(Nat.le_of_ble_eq_true rfl), (Nat.le_of_ble_eq_true rfl)⟩) g hK (by decide) (by decide) (fx' := [(5, 8, q1_, .int x1_), (5, 7, q1_, .int 1), (2, 0, a0_, .ref q0_), (2, 1, a0_, .ref q1_), (2, 2, a0_, .ref q2_), (2, 3, a0_, .ref q3_), (0, 0, q2_, .ref q0_), (0, 1, q2_, .ref q1_), (5, 0, q1_, .ref q6_), (5, 1, q1_, .ref q7_), (7, 13, q3_, .int y0_)]) rfl (fun fr_5 H locs hp hMr_5 g => ?_)
  rcases hp with ⟨hG_6, hF_7⟩ | ⟨hG_8, x_9, h_10, x_11, h_12, hF_13⟩
  · have g := g.more hF_7
    refine lv_aload_n hx hb dX2_readAsked_23 rfl (lv_at hl 0 rfl) ?_
    refine g_getk (C := RX2) (T := TX2) (N := 16) hx hb hts (mc_ inX2) hown hK g rfl 1 (by decide) rfl (hts _ (List.mem_cons_of_mem _ t_417)) (fun _ h9 => h9) 5 rfl dX2_readAsked_24 ?_
    refine lv_iconst (v := 0) hx hb dX2_readAsked_27 (by decide) ?_
    have kb_0 : bd 0 0 (0 : Int32) := ⟨by decide, by decide⟩
    have go_ := g
    refine g_put (C := RX5) (T := TX5) (N := 9) hx hb hts (mc_ inX5) tyX5 tyX5_ok nmX5 hown hK g mq1_ kq1_ (by decide) rfl 7 (by decide) (hts _ (List.mem_cons_of_mem _ t_344)) (fun _ h9 => h9) rfl rfl (okV_i (bd_sub kb_0 (by decide))) rfl rfl (by decide) (Or.inr (Or.inl (by decide))) (fx' := [(0, 2, q2_, .ref q6_), (8, 8, q0_, .int y1_), (5, 8, q1_, .int x1_), (2, 0, a0_, .ref q0_), (2, 1, a0_, .ref q1_), (2, 2, a0_, .ref q2_), (2, 3, a0_, .ref q3_), (0, 0, q2_, .ref q0_), (0, 1, q2_, .ref q1_), (5, 0, q1_, .ref q6_), (5, 1, q1_, .ref q7_), (7, 13, q3_, .int y0_)]) rfl dX2_readAsked_28 (fun f H locs hM_14 g => ?_)
    have hG_15 := eOK.frame hM_14 go_.2.2.2.1 mq2_ kq2_ (by decide) (by decide) hG_6
    refine lv_aload_n hx hb dX2_readAsked_31 rfl (lv_at hl 0 rfl) ?_
    refine g_getk (C := RX2) (T := TX2) (N := 16) hx hb hts (mc_ inX2) hown hK g rfl 1 (by decide) rfl (hts _ (List.mem_cons_of_mem _ t_417)) (fun _ h9 => h9) 5 rfl dX2_readAsked_32 ?_
    refine lv_iconst (v := 0) hx hb dX2_readAsked_35 (by decide) ?_
    have go_ := g
    refine g_put (C := RX5) (T := TX5) (N := 9) hx hb hts (mc_ inX5) tyX5 tyX5_ok nmX5 hown hK g mq1_ kq1_ (by decide) rfl 8 (by decide) (hts _ (List.mem_cons_of_mem _ t_347)) (fun _ h9 => h9) rfl rfl (okV_i (bd_sub kb_0 (by decide))) rfl rfl (by decide) (Or.inr (Or.inl (by decide))) (fx' := [(5, 7, q1_, .int 0), (0, 2, q2_, .ref q6_), (8, 8, q0_, .int y1_), (2, 0, a0_, .ref q0_), (2, 1, a0_, .ref q1_), (2, 2, a0_, .ref q2_), (2, 3, a0_, .ref q3_), (0, 0, q2_, .ref q0_), (0, 1, q2_, .ref q1_), (5, 0, q1_, .ref q6_), (5, 1, q1_, .ref q7_), (7, 13, q3_, .int y0_)]) rfl dX2_readAsked_36 (fun f H locs hM_16 g => ?_)
    have hG_17 := eOK.frame hM_16 go_.2.2.2.1 mq2_ kq2_ (by decide) (by decide) hG_15
    refine lv_aload_n hx hb dX2_readAsked_39 rfl (lv_at hl 0 rfl) ?_
    refine g_getk (C := RX2) (T := TX2) (N := 16) hx hb hts (mc_ inX2) hown hK g rfl 3 (by decide) rfl (hts _ (List.mem_cons_of_mem _ t_419)) (fun _ h9 => h9) 7 rfl dX2_readAsked_40 ?_
    refine lv_bipush (v := 26) hx hb dX2_readAsked_43 (by decide) ?_
    refine lv_iconst (v := 0) hx hb dX2_readAsked_45 (by decide) ?_
    have go_ := g
    refine g_callv (va_runV (As := [.int 26, .int 0]) (rest := []) ⟨hx, hb, hml, hown, hts⟩ (r_X7_emit l dC dI L kd tys f H.size g.2.2.2.1 q3_ mq3_ kq3_ 26 0) (cwV 2 hts (gV_ t_1301 t_1204 t_1205 t_191 t_1206) rfl rfl rfl (by decide +kernel) ⟨(Nat.le_of_ble_eq_true rfl), (Nat.le_of_ble_eq_true rfl)⟩) (pre3V g hK mq3_ kq3_ (by decide) (q := (RX7, TX7, 19)) rfl) rfl rfl hl.1 rfl (lv_room (Nat.le_of_ble_eq_true rfl)) dX2_readAsked_46 ⟨(Nat.le_of_ble_eq_true rfl), (Nat.le_of_ble_eq_true rfl)⟩) g hK (by decide) (by decide) (fx' := [(5, 8, q1_, .int 0), (5, 7, q1_, .int 0), (0, 2, q2_, .ref q6_), (8, 8, q0_, .int y1_), (2, 0, a0_, .ref q0_), (2, 1, a0_, .ref q1_), (2, 2, a0_, .ref q2_), (2, 3, a0_, .ref q3_), (0, 0, q2_, .ref q0_), (0, 1, q2_, .ref q1_), (5, 0, q1_, .ref q6_), (5, 1, q1_, .ref q7_), (7, 13, q3_, .int y0_)]) rfl (fun fr_18 H locs hp hMr_18 g => ?_)
    obtain ⟨x_19, h_20, hF_21⟩ := hp
    have hG_22 := eOK.frame hMr_18 go_.2.2.2.1 mq2_ kq2_ (by decide) (by decide) hG_17
    have g := g.more hF_21
    subst hQ
    exact W.vret hx hb hr (fun t ht hW => ⟨⟨_, rfl, Or.inl ⟨hG_22, x_19, h_20, (g.fcts [0, 1, 2, 3, 4] rfl)⟩, q3_of g hK ht hW⟩, g.2.2.1.F ht⟩) g.2.2.1.2.2 dX2_readAsked_49
  · have g := g.more hF_13
    refine lv_aload_n hx hb dX2_readAsked_23 rfl (lv_at hl 0 rfl) ?_
    refine g_getk (C := RX2) (T := TX2) (N := 16) hx hb hts (mc_ inX2) hown hK g rfl 1 (by decide) rfl (hts _ (List.mem_cons_of_mem _ t_417)) (fun _ h9 => h9) 6 rfl dX2_readAsked_24 ?_
    refine lv_iconst (v := 0) hx hb dX2_readAsked_27 (by decide) ?_
    have kb_0 : bd 0 0 (0 : Int32) := ⟨by decide, by decide⟩
    have go_ := g
    refine g_put (C := RX5) (T := TX5) (N := 9) hx hb hts (mc_ inX5) tyX5 tyX5_ok nmX5 hown hK g mq1_ kq1_ (by decide) rfl 7 (by decide) (hts _ (List.mem_cons_of_mem _ t_344)) (fun _ h9 => h9) rfl rfl (okV_i (bd_sub kb_0 (by decide))) rfl rfl (by decide) (Or.inr (Or.inl (by decide))) (fx' := [(8, 6, q0_, .int x_9), (8, 8, q0_, .int x_11), (0, 2, q2_, .ref q6_), (5, 8, q1_, .int x1_), (2, 0, a0_, .ref q0_), (2, 1, a0_, .ref q1_), (2, 2, a0_, .ref q2_), (2, 3, a0_, .ref q3_), (0, 0, q2_, .ref q0_), (0, 1, q2_, .ref q1_), (5, 0, q1_, .ref q6_), (5, 1, q1_, .ref q7_), (7, 13, q3_, .int y0_)]) rfl dX2_readAsked_28 (fun f H locs hM_23 g => ?_)
    have hG_24 := eOK.frame hM_23 go_.2.2.2.1 mq2_ kq2_ (by decide) (by decide) hG_8
    refine lv_aload_n hx hb dX2_readAsked_31 rfl (lv_at hl 0 rfl) ?_
    refine g_getk (C := RX2) (T := TX2) (N := 16) hx hb hts (mc_ inX2) hown hK g rfl 1 (by decide) rfl (hts _ (List.mem_cons_of_mem _ t_417)) (fun _ h9 => h9) 6 rfl dX2_readAsked_32 ?_
    refine lv_iconst (v := 0) hx hb dX2_readAsked_35 (by decide) ?_
    have go_ := g
    refine g_put (C := RX5) (T := TX5) (N := 9) hx hb hts (mc_ inX5) tyX5 tyX5_ok nmX5 hown hK g mq1_ kq1_ (by decide) rfl 8 (by decide) (hts _ (List.mem_cons_of_mem _ t_347)) (fun _ h9 => h9) rfl rfl (okV_i (bd_sub kb_0 (by decide))) rfl rfl (by decide) (Or.inr (Or.inl (by decide))) (fx' := [(5, 7, q1_, .int 0), (8, 6, q0_, .int x_9), (8, 8, q0_, .int x_11), (0, 2, q2_, .ref q6_), (2, 0, a0_, .ref q0_), (2, 1, a0_, .ref q1_), (2, 2, a0_, .ref q2_), (2, 3, a0_, .ref q3_), (0, 0, q2_, .ref q0_), (0, 1, q2_, .ref q1_), (5, 0, q1_, .ref q6_), (5, 1, q1_, .ref q7_), (7, 13, q3_, .int y0_)]) rfl dX2_readAsked_36 (fun f H locs hM_25 g => ?_)
    have hG_26 := eOK.frame hM_25 go_.2.2.2.1 mq2_ kq2_ (by decide) (by decide) hG_24
    refine lv_aload_n hx hb dX2_readAsked_39 rfl (lv_at hl 0 rfl) ?_
    refine g_getk (C := RX2) (T := TX2) (N := 16) hx hb hts (mc_ inX2) hown hK g rfl 3 (by decide) rfl (hts _ (List.mem_cons_of_mem _ t_419)) (fun _ h9 => h9) 8 rfl dX2_readAsked_40 ?_
    refine lv_bipush (v := 26) hx hb dX2_readAsked_43 (by decide) ?_
    refine lv_iconst (v := 0) hx hb dX2_readAsked_45 (by decide) ?_
    have go_ := g
    refine g_callv (va_runV (As := [.int 26, .int 0]) (rest := []) ⟨hx, hb, hml, hown, hts⟩ (r_X7_emit l dC dI L kd tys f H.size g.2.2.2.1 q3_ mq3_ kq3_ 26 0) (cwV 2 hts (gV_ t_1301 t_1204 t_1205 t_191 t_1206) rfl rfl rfl (by decide +kernel) ⟨(Nat.le_of_ble_eq_true rfl), (Nat.le_of_ble_eq_true rfl)⟩) (pre3V g hK mq3_ kq3_ (by decide) (q := (RX7, TX7, 19)) rfl) rfl rfl hl.1 rfl (lv_room (Nat.le_of_ble_eq_true rfl)) dX2_readAsked_46 ⟨(Nat.le_of_ble_eq_true rfl), (Nat.le_of_ble_eq_true rfl)⟩) g hK (by decide) (by decide) (fx' := [(5, 8, q1_, .int 0), (5, 7, q1_, .int 0), (8, 6, q0_, .int x_9), (8, 8, q0_, .int x_11), (0, 2, q2_, .ref q6_), (2, 0, a0_, .ref q0_), (2, 1, a0_, .ref q1_), (2, 2, a0_, .ref q2_), (2, 3, a0_, .ref q3_), (0, 0, q2_, .ref q0_), (0, 1, q2_, .ref q1_), (5, 0, q1_, .ref q6_), (5, 1, q1_, .ref q7_), (7, 13, q3_, .int y0_)]) rfl (fun fr_27 H locs hp hMr_27 g => ?_)
    obtain ⟨x_28, h_29, hF_30⟩ := hp
    have hG_31 := eOK.frame hMr_27 go_.2.2.2.1 mq2_ kq2_ (by decide) (by decide) hG_26
    have g := g.more hF_30
    subst hQ
    exact W.vret hx hb hr (fun t ht hW => ⟨⟨_, rfl, Or.inr (⟨hG_31, x_28, h_29, x_9, h_10, x_11, h_12, (g.fcts [0, 1, 2, 3, 4, 5] rfl)⟩), q3_of g hK ht hW⟩, g.2.2.1.F ht⟩) g.2.2.1.2.2 dX2_readAsked_49
