set_option maxHeartbeats 4000000 in
set_option maxRecDepth 100000 in
theorem r_X1_go_2 (l : Launch) (dC : Nat → ClassId) (dI : Nat → Nat → Nat) (L : List Nat) (kd : Nat → Nat) (tys : List (ClassId × FieldType)) (f0 : Nat → va_E) (sz : Nat) (hWT : WT L kd tys f0) (a0_ : Nat) (ma0_ : a0_ ∈ L) (ka0_ : kd a0_ = 1) (q0_ : Nat) (mq0_ : q0_ ∈ L) (kq0_ : kd q0_ = 7) (q1_ : Nat) (mq1_ : q1_ ∈ L) (kq1_ : kd q1_ = 9) (y0_ : Int32) (by0_ : bd 0 0 y0_) (y1_ : Int32) (by1_ : bd 1 1 y1_) (y2_ : Int32) (by2_ : bd 1 8 y2_) (hGcq0_ : cOK f0 q0_) (hfx : Fs L kd f0 [(1, 0, a0_, .ref q0_), (1, 1, a0_, .ref q1_), (1, 12, a0_, .int y0_), (1, 5, a0_, .int y1_), (7, 1, q0_, .int y2_)]) : Met l yX1_go (.code yX1_go cX1_go 7 none :: lw_g) ({ frames := 1, cells := 0, slots := 0, locals := 24 }) (va_Pc [.ref a0_] (P3 (dC, dI) L tys f0 sz)) (va_Qv (fun (f : Nat → va_E) => (True)) (Q3 (dC, dI) L kd tys [(1, 8), (1, 11), (1, 13), (1, 14), (1, 15), (1, 16), (1, 17)] [100, 116, 117, 146] f0 sz) (pA L sz)) 0 0 (pA L sz) := by
  refine Met.ofW (cc := cX1_go) (maxL := 7) (ret := none) (by decide) rfl ?_
  intro p e s m args below meth c s₁ B hml hv
  obtain ⟨rfl, hsz, hP, hK, hD0⟩ := hv
  have hx := B.exec
  have hb := B.bytes
  have hr := B.returns
  have hts := atoms_spec (ws := (.code yX1_go cX1_go 7 none :: lw_g)) B.pre
  have hown : s.vm.findClass RX1 = some m.cls := findClass_of_methodNamed B.named
  have hlocks := B.notSynchronized
  subst hsz
  have g : G3 (dC, dI) L kd tys s f0 [(1, 8), (1, 11), (1, 13), (1, 14), (1, 15), (1, 16), (1, 17)] [100, 116, 117, 146] f0 s.heap [] [(1, 0, a0_, .ref q0_), (1, 1, a0_, .ref q1_), (1, 12, a0_, .int y0_), (1, 5, a0_, .int y1_), (7, 1, q0_, .int y2_)] := G3.start hP hD0 hWT hfx
  have hl := lv_entry ([.ref a0_]) (n := 7) (Nat.le_of_ble_eq_true rfl)
  rw [lg_entry_eq]
  generalize (lg_sl ([.ref a0_]) ++ List.replicate (7 - (lg_sl ([.ref a0_])).length) Slot.unset).toArray = ls at hl ⊢
  have hl : lv_has ls 7 [(0, .ref a0_)] := hl
  refine W_q (fun Q hQ => ?_)
  refine lv_aload_n hx hb dX1_go_0 rfl (lv_at hl 0 rfl) ?_
  have go_ := g
  refine g_callv (va_runV (As := []) (rest := []) ⟨hx, hb, hml, hown, hts⟩ (r_X1_begin_2 l dC dI L kd tys f0 s.heap.size g.2.2.2.1 a0_ ma0_ ka0_ y0_ by0_ (g.fcts [2] rfl)) (cwV 0 hts (gV_ t_1559 t_1561 t_58 t_195 t_1562) rfl rfl rfl (by decide +kernel) ⟨(Nat.le_of_ble_eq_true rfl), (Nat.le_of_ble_eq_true rfl)⟩) (pre3V g hK ma0_ ka0_ (by decide) (q := (RX1, TX1, 18)) rfl) rfl rfl hl.1 rfl (lv_room (Nat.le_of_ble_eq_true rfl)) dX1_go_1 ⟨(Nat.le_of_ble_eq_true rfl), (Nat.le_of_ble_eq_true rfl)⟩) g hK (by decide) (by decide) (fx' := [(1, 0, a0_, .ref q0_), (1, 1, a0_, .ref q1_), (1, 12, a0_, .int y0_), (1, 5, a0_, .int y1_), (7, 1, q0_, .int y2_)]) rfl (fun fr_1 H locs hp hMr_1 g => ?_)
  have hF_2 := hp
  have hG_3 := cOK.frame hMr_1 go_.2.2.2.1 mq0_ kq0_ (by decide) (by decide) hGcq0_
  have g := g.more hF_2
  refine lv_iconst (v := 0) hx hb dX1_go_4 (by decide) ?_
  refine lv_istore_n (lv' := [(1, .int 0), (0, .ref a0_)]) hx hb dX1_go_5 rfl hl (by decide) rfl (fun ls hl => ?_)
  have loop_4 : ∀ (n : Nat) (v6_1 : Int32), bd 0 1000000 v6_1 → (1000000 - v6_1.toInt < (n : Int)) → ∀ (f : Nat → va_E) (H : Heap) (locs : List Loc) (ls : Array Slot), G3 (dC, dI) L kd tys s f0 [(1, 8), (1, 11), (1, 13), (1, 14), (1, 15), (1, 16), (1, 17)] [100, 116, 117, 146] f H locs [(1, 0, a0_, .ref q0_), (1, 1, a0_, .ref q1_), (1, 12, a0_, .int y0_), (1, 5, a0_, .int y1_), (7, 1, q0_, .int y2_)] → cOK f q0_ → lv_has ls 7 [(1, .int v6_1), (0, .ref a0_)] → W p l e ({ frames := 1, cells := 0, slots := 0, locals := 24 } : Room) s m [.ref a0_].toArray below meth c H locs 0 0 Q (F0 m 6 ls []) := by
    intro n6
    induction n6 with
    | zero =>
      intro v6_1 bv6_1 hm6 f H locs ls g hG6_c_q0_ hl
      exact absurd hm6 (by have h9_v6_1 := bv6_1; unfold bd at h9_v6_1; omega)
    | succ n6 ih6 =>
      intro v6_1 bv6_1 hm6 f H locs ls g hG6_c_q0_ hl
      refine lv_iload_n hx hb dX1_go_6 rfl (lv_at hl 0 rfl) ?_
      refine lv_ldc (v := 1000000) hx hb hown (hts _ (List.mem_cons_of_mem _ t_1563)) dX1_go_7 ?_
      have kb_1000000 : bd 1000000 1000000 (1000000 : Int32) := ⟨by decide, by decide⟩
      refine lv_icmp_ge (tgt := 314) hx hb dX1_go_9 (by decide) (fun c_5 => ?_) (fun c_5 => ?_)
      · have fc_5 := le_f c_5
        have b_6 : bd 1000000 1000000 v6_1 := leR fc_5 kb_1000000 bv6_1 (by decide)
        refine lv_aload_n hx hb dX1_go_314 rfl (lv_at hl 1 rfl) ?_
        refine lv_aload_n hx hb dX1_go_315 rfl (lv_at hl 1 rfl) ?_
        refine g_geti (C := RX1) (T := TX1) (N := 18) hx hb hts (mc_ inX1) hown hK g ma0_ ka0_ (by decide) rfl 15 (by decide) rfl (hts _ (List.mem_cons_of_mem _ t_750)) (fun _ h9 => h9) rfl dX1_go_316 (fun x_7 bx_7 g => ?_)
        have kb_0 : bd 0 0 (0 : Int32) := ⟨by decide, by decide⟩
        refine lv_if_ne (tgt := 326) hx hb dX1_go_319 (by decide) (fun c_8 => ?_) (fun c_8 => ?_)
        · have fc_8 := neq_f c_8
          refine lv_aload_n hx hb dX1_go_326 rfl (lv_at hl 1 rfl) ?_
          refine g_getk (C := RX1) (T := TX1) (N := 18) hx hb hts (mc_ inX1) hown hK g rfl 15 (by decide) rfl (hts _ (List.mem_cons_of_mem _ t_750)) (fun _ h9 => h9) 0 rfl dX1_go_327 ?_
          have go_ := g
          refine g_put (C := RX1) (T := TX1) (N := 18) hx hb hts (mc_ inX1) tyX1 tyX1_ok nmX1 hown hK g ma0_ ka0_ (by decide) rfl 15 (by decide) (hts _ (List.mem_cons_of_mem _ t_750)) (fun _ h9 => h9) rfl rfl (okV_i (bdT x_7)) rfl rfl (by decide) (Or.inr (Or.inl (by decide))) (fx' := [(1, 0, a0_, .ref q0_), (1, 1, a0_, .ref q1_), (1, 12, a0_, .int y0_), (1, 5, a0_, .int y1_), (7, 1, q0_, .int y2_)]) rfl dX1_go_330 (fun f H locs hM_9 g => ?_)
          have hG_10 := cOK.frame hM_9 go_.2.2.2.1 mq0_ kq0_ (by decide) (by decide) hG6_c_q0_
          subst hQ
          exact W.vret hx hb hr (fun t ht hW => ⟨⟨_, rfl, trivial, q3_of g hK ht hW⟩, g.2.2.1.F ht⟩) g.2.2.1.2.2 dX1_go_333
        · have fc_8 := eq_f c_8
          have b_11 : bd 0 0 x_7 := eqX fc_8 (bdT x_7) kb_0 (by decide)
          refine lv_iconst (v := 3) hx hb dX1_go_322 (by decide) ?_
          refine lv_goto (tgt := 330) hx hb dX1_go_323 (by decide) ?_
          have kb_3 : bd 3 3 (3 : Int32) := ⟨by decide, by decide⟩
          have go_ := g
          refine g_put (C := RX1) (T := TX1) (N := 18) hx hb hts (mc_ inX1) tyX1 tyX1_ok nmX1 hown hK g ma0_ ka0_ (by decide) rfl 15 (by decide) (hts _ (List.mem_cons_of_mem _ t_750)) (fun _ h9 => h9) rfl rfl (okV_i (bd_sub kb_3 (by decide))) rfl rfl (by decide) (Or.inr (Or.inl (by decide))) (fx' := [(1, 0, a0_, .ref q0_), (1, 1, a0_, .ref q1_), (1, 12, a0_, .int y0_), (1, 5, a0_, .int y1_), (7, 1, q0_, .int y2_)]) rfl dX1_go_330 (fun f H locs hM_12 g => ?_)
          have hG_13 := cOK.frame hM_12 go_.2.2.2.1 mq0_ kq0_ (by decide) (by decide) hG6_c_q0_
          subst hQ
          exact W.vret hx hb hr (fun t ht hW => ⟨⟨_, rfl, trivial, q3_of g hK ht hW⟩, g.2.2.1.F ht⟩) g.2.2.1.2.2 dX1_go_333
      · have fc_5 := nle_f c_5
        have b_14 : bd 0 999999 v6_1 := ltL fc_5 bv6_1 kb_1000000 (by decide)
        refine lv_aload_n hx hb dX1_go_12 rfl (lv_at hl 1 rfl) ?_
        refine g_geti (C := RX1) (T := TX1) (N := 18) hx hb hts (mc_ inX1) hown hK g ma0_ ka0_ (by decide) rfl 15 (by decide) rfl (hts _ (List.mem_cons_of_mem _ t_750)) (fun _ h9 => h9) rfl dX1_go_13 (fun x_15 bx_15 g => ?_)
        have kb_0 : bd 0 0 (0 : Int32) := ⟨by decide, by decide⟩
        refine lv_if_ne (tgt := 314) hx hb dX1_go_16 (by decide) (fun c_16 => ?_) (fun c_16 => ?_)
        · have fc_16 := neq_f c_16
          refine lv_aload_n hx hb dX1_go_314 rfl (lv_at hl 1 rfl) ?_
          refine lv_aload_n hx hb dX1_go_315 rfl (lv_at hl 1 rfl) ?_
          refine g_getk (C := RX1) (T := TX1) (N := 18) hx hb hts (mc_ inX1) hown hK g rfl 15 (by decide) rfl (hts _ (List.mem_cons_of_mem _ t_750)) (fun _ h9 => h9) 0 rfl dX1_go_316 ?_
          refine lv_if_ne (tgt := 326) hx hb dX1_go_319 (by decide) (fun c_17 => ?_) (fun c_17 => ?_)
          · have fc_17 := neq_f c_17
            refine lv_aload_n hx hb dX1_go_326 rfl (lv_at hl 1 rfl) ?_
            refine g_getk (C := RX1) (T := TX1) (N := 18) hx hb hts (mc_ inX1) hown hK g rfl 15 (by decide) rfl (hts _ (List.mem_cons_of_mem _ t_750)) (fun _ h9 => h9) 0 rfl dX1_go_327 ?_
            have go_ := g
            refine g_put (C := RX1) (T := TX1) (N := 18) hx hb hts (mc_ inX1) tyX1 tyX1_ok nmX1 hown hK g ma0_ ka0_ (by decide) rfl 15 (by decide) (hts _ (List.mem_cons_of_mem _ t_750)) (fun _ h9 => h9) rfl rfl (okV_i (bdT x_15)) rfl rfl (by decide) (Or.inr (Or.inl (by decide))) (fx' := [(1, 0, a0_, .ref q0_), (1, 1, a0_, .ref q1_), (1, 12, a0_, .int y0_), (1, 5, a0_, .int y1_), (7, 1, q0_, .int y2_)]) rfl dX1_go_330 (fun f H locs hM_18 g => ?_)
            have hG_19 := cOK.frame hM_18 go_.2.2.2.1 mq0_ kq0_ (by decide) (by decide) hG6_c_q0_
            subst hQ
            exact W.vret hx hb hr (fun t ht hW => ⟨⟨_, rfl, trivial, q3_of g hK ht hW⟩, g.2.2.1.F ht⟩) g.2.2.1.2.2 dX1_go_333
          · have fc_17 := eq_f c_17
            exact absurd fc_17 fc_16
        · have fc_16 := eq_f c_16
          have b_20 : bd 0 0 x_15 := eqX fc_16 (bdT x_15) kb_0 (by decide)
          refine lv_aload_n hx hb dX1_go_19 rfl (lv_at hl 1 rfl) ?_
          refine g_geti (C := RX1) (T := TX1) (N := 18) hx hb hts (mc_ inX1) hown hK g ma0_ ka0_ (by decide) rfl 13 (by decide) rfl (hts _ (List.mem_cons_of_mem _ t_748)) (fun _ h9 => h9) rfl dX1_go_20 (fun x_21 bx_21 g => ?_)
          refine lv_if_lt (tgt := 44) hx hb dX1_go_23 (by decide) (fun c_22 => ?_) (fun c_22 => ?_)
          · have fc_22 := lt_f c_22
            have b_23 : bd (-2147483648) (-1) x_21 := ltL fc_22 (bdT x_21) kb_0 (by decide)
            refine lv_iconst (v := 0) hx hb dX1_go_44 (by decide) ?_
            refine lv_istore_n (lv' := [(2, .int 0), (1, .int v6_1), (0, .ref a0_)]) hx hb dX1_go_45 rfl hl (by decide) rfl (fun ls hl => ?_)
            refine lv_iload_n hx hb dX1_go_46 rfl (lv_at hl 0 rfl) ?_
            refine lv_if_eq (tgt := 65) hx hb dX1_go_47 (by decide) (fun c_ => ?_) (fun c_ => absurd (by decide) c_)
            refine lv_bipush (v := 19) hx hb dX1_go_65 (by decide) ?_
            refine lv_istore_n (lv' := [(3, .int 19), (2, .int 0), (1, .int v6_1), (0, .ref a0_)]) hx hb dX1_go_67 rfl hl (by decide) rfl (fun ls hl => ?_)
            refine lv_iload_n hx hb dX1_go_68 rfl (lv_at hl 1 rfl) ?_
            refine lv_if_eq (tgt := 87) hx hb dX1_go_69 (by decide) (fun c_ => ?_) (fun c_ => absurd (by decide) c_)
            refine lv_iconst (v := 0) hx hb dX1_go_87 (by decide) ?_
            refine lv_istore (lv' := [(4, .int 0), (3, .int 19), (2, .int 0), (1, .int v6_1), (0, .ref a0_)]) hx hb dX1_go_88 hl (by decide) rfl (fun ls hl => ?_)
            refine lv_aload_n hx hb dX1_go_90 rfl (lv_at hl 4 rfl) ?_
            refine lv_dup hx hb dX1_go_91 rfl ?_
            refine g_getk (C := RX1) (T := TX1) (N := 18) hx hb hts (mc_ inX1) hown hK g rfl 13 (by decide) rfl (hts _ (List.mem_cons_of_mem _ t_748)) (fun _ h9 => h9) 0 rfl dX1_go_92 ?_
            refine lv_iconst (v := 1) hx hb dX1_go_95 (by decide) ?_
            have kb_1 : bd 1 1 (1 : Int32) := ⟨by decide, by decide⟩
            refine lv_iadd hx hb dX1_go_96 ?_
            refine lv_topi (fun y_24 ey_24 => ?_)
            have ty_24 := add_bd ey_24 b_23 kb_1 (by decide)
            have b_25 : bd (-2147483647) 0 y_24 := add_rg ty_24 b_23 kb_1 (by decide)
            have go_ := g
            refine g_put (C := RX1) (T := TX1) (N := 18) hx hb hts (mc_ inX1) tyX1 tyX1_ok nmX1 hown hK g ma0_ ka0_ (by decide) rfl 13 (by decide) (hts _ (List.mem_cons_of_mem _ t_748)) (fun _ h9 => h9) rfl rfl (okV_i (bd_sub b_25 (by decide))) rfl rfl (by decide) (Or.inr (Or.inl (by decide))) (fx' := [(1, 15, a0_, .int x_15), (1, 0, a0_, .ref q0_), (1, 1, a0_, .ref q1_), (1, 12, a0_, .int y0_), (1, 5, a0_, .int y1_), (7, 1, q0_, .int y2_)]) rfl dX1_go_97 (fun f H locs hM_26 g => ?_)
            have hG_27 := cOK.frame hM_26 go_.2.2.2.1 mq0_ kq0_ (by decide) (by decide) hG6_c_q0_
            refine lv_iload_n hx hb dX1_go_100 rfl (lv_at hl 1 rfl) ?_
            refine lv_iconst (v := 5) hx hb dX1_go_101 (by decide) ?_
            refine lv_icmp_gt (tgt := 119) hx hb dX1_go_102 (by decide) (fun c_ => ?_) (fun c_ => absurd (by decide) c_)
            refine lv_iload_n hx hb dX1_go_119 rfl (lv_at hl 1 rfl) ?_
            refine lv_bipush (v := 11) hx hb dX1_go_120 (by decide) ?_
            refine lv_icmp_gt (tgt := 143) hx hb dX1_go_122 (by decide) (fun c_ => ?_) (fun c_ => absurd (by decide) c_)
            refine lv_iload_n hx hb dX1_go_143 rfl (lv_at hl 1 rfl) ?_
            refine lv_bipush (v := 16) hx hb dX1_go_144 (by decide) ?_
            refine lv_icmp_gt (tgt := 159) hx hb dX1_go_146 (by decide) (fun c_ => ?_) (fun c_ => absurd (by decide) c_)
            refine lv_iload_n hx hb dX1_go_159 rfl (lv_at hl 1 rfl) ?_
            refine lv_bipush (v := 17) hx hb dX1_go_160 (by decide) ?_
            refine lv_icmp_ne (tgt := 198) hx hb dX1_go_162 (by decide) (fun c_ => ?_) (fun c_ => absurd c_ (by decide))
            refine lv_iload_n hx hb dX1_go_198 rfl (lv_at hl 1 rfl) ?_
            refine lv_bipush (v := 18) hx hb dX1_go_199 (by decide) ?_
            refine lv_icmp_ne (tgt := 213) hx hb dX1_go_201 (by decide) (fun c_ => ?_) (fun c_ => absurd c_ (by decide))
            refine lv_iload_n hx hb dX1_go_213 rfl (lv_at hl 1 rfl) ?_
            refine lv_bipush (v := 19) hx hb dX1_go_214 (by decide) ?_
            refine lv_icmp_ne (tgt := 227) hx hb dX1_go_216 (by decide) (fun c_ => absurd c_ (by decide)) (fun c_ => ?_)
            refine lv_aload_n hx hb dX1_go_219 rfl (lv_at hl 4 rfl) ?_
            refine lv_iconst (v := 0) hx hb dX1_go_220 (by decide) ?_
            have go_ := g
            refine g_callv (va_runV (As := [.int 0]) (rest := []) ⟨hx, hb, hml, hown, hts⟩ (r_X1_leave_25 l dC dI L kd tys f H.size g.2.2.2.1 a0_ ma0_ ka0_ 0 kb_0 y_24 b_25 x_15 b_20 y0_ by0_ y1_ by1_ (g.fcts [0, 1, 4, 5] rfl)) (cwV 1 hts (gV_ t_1589 t_1591 t_65 t_195 t_1592) rfl rfl rfl (by decide +kernel) ⟨(Nat.le_of_ble_eq_true rfl), (Nat.le_of_ble_eq_true rfl)⟩) (pre3V g hK ma0_ ka0_ (by decide) (q := (RX1, TX1, 18)) rfl) rfl rfl hl.1 rfl (lv_room (Nat.le_of_ble_eq_true rfl)) dX1_go_221 ⟨(Nat.le_of_ble_eq_true rfl), (Nat.le_of_ble_eq_true rfl)⟩) g hK (by decide) (by decide) (fx' := [(1, 0, a0_, .ref q0_), (1, 1, a0_, .ref q1_), (1, 12, a0_, .int y0_), (1, 5, a0_, .int y1_), (7, 1, q0_, .int y2_)]) rfl (fun fr_28 H locs hp hMr_28 g => ?_)
            obtain ⟨x_29, h_30, x_31, h_32, hF_33⟩ := hp
            have hG_34 := cOK.frame hMr_28 go_.2.2.2.1 mq0_ kq0_ (by decide) (by decide) hG_27
            have g := g.more hF_33
            refine lv_goto (tgt := 308) hx hb dX1_go_224 (by decide) ?_
            obtain ⟨y_35, ey_35⟩ : ∃ z : Int32, z = v6_1 + 1 := ⟨_, rfl⟩
            refine lv_iinc (v := y_35) (lv' := [(1, .int y_35), (4, .int 0), (3, .int 19), (2, .int 0), (0, .ref a0_)]) hx hb dX1_go_308 hl (k := 3) rfl (by rw [ey_35]; rfl) (by decide) rfl (fun ls hl => ?_)
            have ty_35 := add_bd ey_35 b_14 kb_1 (by decide)
            have b_36 : bd 1 1000000 y_35 := add_rg ty_35 b_14 kb_1 (by decide)
            refine lv_goto (tgt := 6) hx hb dX1_go_311 (by decide) ?_
            have hl9 := lv_sub hl [0, 4] (by rfl : lv_pick [(1, .int y_35), (4, .int 0), (3, .int 19), (2, .int 0), (0, .ref a0_)] [0, 4] = [(1, .int y_35), (0, .ref a0_)])
            have g9 := g.sub (fx' := [(1, 0, a0_, .ref q0_), (1, 1, a0_, .ref q1_), (1, 12, a0_, .int y0_), (1, 5, a0_, .int y1_), (7, 1, q0_, .int y2_)]) [2, 3, 4, 5, 6] rfl
            exact ih6  y_35 (bd_sub b_36 (by decide)) (by have h9_0 := b_36; unfold bd at h9_0; have h9_1 := bv6_1; unfold bd at h9_1; have h9_2 := h_30; unfold bd at h9_2; have h9_3 := h_32; unfold bd at h9_3; have h9_4 := kb_0; unfold bd at h9_4; have h9_5 := kb_1; unfold bd at h9_5; have h9_6 := kb_1000000; unfold bd at h9_6; omega) _ _ _ _ g9 hG_34 hl9
          · have fc_22 := nlt_f c_22
            have b_37 : bd 0 2147483647 x_21 := leR fc_22 kb_0 (bdT x_21) (by decide)
            refine lv_aload_n hx hb dX1_go_26 rfl (lv_at hl 1 rfl) ?_
            refine g_getk (C := RX1) (T := TX1) (N := 18) hx hb hts (mc_ inX1) hown hK g rfl 13 (by decide) rfl (hts _ (List.mem_cons_of_mem _ t_748)) (fun _ h9 => h9) 0 rfl dX1_go_27 ?_
            refine lv_aload_n hx hb dX1_go_30 rfl (lv_at hl 1 rfl) ?_
            refine g_getk (C := RX1) (T := TX1) (N := 18) hx hb hts (mc_ inX1) hown hK g rfl 0 (by decide) rfl (hts _ (List.mem_cons_of_mem _ t_735)) (fun _ h9 => h9) 2 rfl dX1_go_31 ?_
            refine g_geti (C := RX7) (T := TX7) (N := 19) hx hb hts (mc_ inX7) hown hK g mq0_ kq0_ (by decide) rfl 6 (by decide) rfl (hts _ (List.mem_cons_of_mem _ t_645)) (fun _ h9 => h9) rfl dX1_go_34 (fun x_38 bx_38 g => ?_)
            refine lv_icmp_ge (tgt := 44) hx hb dX1_go_37 (by decide) (fun c_39 => ?_) (fun c_39 => ?_)
            · have fc_39 := le_f c_39
              refine lv_iconst (v := 0) hx hb dX1_go_44 (by decide) ?_
              refine lv_istore_n (lv' := [(2, .int 0), (1, .int v6_1), (0, .ref a0_)]) hx hb dX1_go_45 rfl hl (by decide) rfl (fun ls hl => ?_)
              refine lv_iload_n hx hb dX1_go_46 rfl (lv_at hl 0 rfl) ?_
              refine lv_if_eq (tgt := 65) hx hb dX1_go_47 (by decide) (fun c_ => ?_) (fun c_ => absurd (by decide) c_)
              refine lv_bipush (v := 19) hx hb dX1_go_65 (by decide) ?_
              refine lv_istore_n (lv' := [(3, .int 19), (2, .int 0), (1, .int v6_1), (0, .ref a0_)]) hx hb dX1_go_67 rfl hl (by decide) rfl (fun ls hl => ?_)
              refine lv_iload_n hx hb dX1_go_68 rfl (lv_at hl 1 rfl) ?_
              refine lv_if_eq (tgt := 87) hx hb dX1_go_69 (by decide) (fun c_ => ?_) (fun c_ => absurd (by decide) c_)
              refine lv_iconst (v := 0) hx hb dX1_go_87 (by decide) ?_
              refine lv_istore (lv' := [(4, .int 0), (3, .int 19), (2, .int 0), (1, .int v6_1), (0, .ref a0_)]) hx hb dX1_go_88 hl (by decide) rfl (fun ls hl => ?_)
              refine lv_aload_n hx hb dX1_go_90 rfl (lv_at hl 4 rfl) ?_
              refine lv_dup hx hb dX1_go_91 rfl ?_
              refine g_getk (C := RX1) (T := TX1) (N := 18) hx hb hts (mc_ inX1) hown hK g rfl 13 (by decide) rfl (hts _ (List.mem_cons_of_mem _ t_748)) (fun _ h9 => h9) 1 rfl dX1_go_92 ?_
              refine lv_iconst (v := 1) hx hb dX1_go_95 (by decide) ?_
              have kb_1 : bd 1 1 (1 : Int32) := ⟨by decide, by decide⟩
              refine lv_iadd hx hb dX1_go_96 ?_
              refine lv_topi (fun y_40 ey_40 => ?_)
              have go_ := g
              refine g_put (C := RX1) (T := TX1) (N := 18) hx hb hts (mc_ inX1) tyX1 tyX1_ok nmX1 hown hK g ma0_ ka0_ (by decide) rfl 13 (by decide) (hts _ (List.mem_cons_of_mem _ t_748)) (fun _ h9 => h9) rfl rfl (okV_i (bdT y_40)) rfl rfl (by decide) (Or.inr (Or.inl (by decide))) (fx' := [(7, 6, q0_, .int x_38), (1, 15, a0_, .int x_15), (1, 0, a0_, .ref q0_), (1, 1, a0_, .ref q1_), (1, 12, a0_, .int y0_), (1, 5, a0_, .int y1_), (7, 1, q0_, .int y2_)]) rfl dX1_go_97 (fun f H locs hM_41 g => ?_)
              have hG_42 := cOK.frame hM_41 go_.2.2.2.1 mq0_ kq0_ (by decide) (by decide) hG6_c_q0_
              refine lv_iload_n hx hb dX1_go_100 rfl (lv_at hl 1 rfl) ?_
              refine lv_iconst (v := 5) hx hb dX1_go_101 (by decide) ?_
              refine lv_icmp_gt (tgt := 119) hx hb dX1_go_102 (by decide) (fun c_ => ?_) (fun c_ => absurd (by decide) c_)
              refine lv_iload_n hx hb dX1_go_119 rfl (lv_at hl 1 rfl) ?_
              refine lv_bipush (v := 11) hx hb dX1_go_120 (by decide) ?_
              refine lv_icmp_gt (tgt := 143) hx hb dX1_go_122 (by decide) (fun c_ => ?_) (fun c_ => absurd (by decide) c_)
              refine lv_iload_n hx hb dX1_go_143 rfl (lv_at hl 1 rfl) ?_
              refine lv_bipush (v := 16) hx hb dX1_go_144 (by decide) ?_
              refine lv_icmp_gt (tgt := 159) hx hb dX1_go_146 (by decide) (fun c_ => ?_) (fun c_ => absurd (by decide) c_)
              refine lv_iload_n hx hb dX1_go_159 rfl (lv_at hl 1 rfl) ?_
              refine lv_bipush (v := 17) hx hb dX1_go_160 (by decide) ?_
              refine lv_icmp_ne (tgt := 198) hx hb dX1_go_162 (by decide) (fun c_ => ?_) (fun c_ => absurd c_ (by decide))
              refine lv_iload_n hx hb dX1_go_198 rfl (lv_at hl 1 rfl) ?_
              refine lv_bipush (v := 18) hx hb dX1_go_199 (by decide) ?_
              refine lv_icmp_ne (tgt := 213) hx hb dX1_go_201 (by decide) (fun c_ => ?_) (fun c_ => absurd c_ (by decide))
              refine lv_iload_n hx hb dX1_go_213 rfl (lv_at hl 1 rfl) ?_
              refine lv_bipush (v := 19) hx hb dX1_go_214 (by decide) ?_
              refine lv_icmp_ne (tgt := 227) hx hb dX1_go_216 (by decide) (fun c_ => absurd c_ (by decide)) (fun c_ => ?_)
              refine lv_aload_n hx hb dX1_go_219 rfl (lv_at hl 4 rfl) ?_
              refine lv_iconst (v := 0) hx hb dX1_go_220 (by decide) ?_
              have go_ := g
              refine g_callv (va_runV (As := [.int 0]) (rest := []) ⟨hx, hb, hml, hown, hts⟩ (r_X1_leave_26 l dC dI L kd tys f H.size g.2.2.2.1 a0_ ma0_ ka0_ 0 kb_0 x_15 b_20 y0_ by0_ y1_ by1_ (g.fcts [2, 5, 6] rfl)) (cwV 1 hts (gV_ t_1589 t_1591 t_65 t_195 t_1592) rfl rfl rfl (by decide +kernel) ⟨(Nat.le_of_ble_eq_true rfl), (Nat.le_of_ble_eq_true rfl)⟩) (pre3V g hK ma0_ ka0_ (by decide) (q := (RX1, TX1, 18)) rfl) rfl rfl hl.1 rfl (lv_room (Nat.le_of_ble_eq_true rfl)) dX1_go_221 ⟨(Nat.le_of_ble_eq_true rfl), (Nat.le_of_ble_eq_true rfl)⟩) g hK (by decide) (by decide) (fx' := [(7, 6, q0_, .int x_38), (1, 0, a0_, .ref q0_), (1, 1, a0_, .ref q1_), (1, 12, a0_, .int y0_), (1, 5, a0_, .int y1_), (7, 1, q0_, .int y2_)]) rfl (fun fr_43 H locs hp hMr_43 g => ?_)
              obtain ⟨x_44, h_45, x_46, h_47, hF_48⟩ := hp
              have hG_49 := cOK.frame hMr_43 go_.2.2.2.1 mq0_ kq0_ (by decide) (by decide) hG_42
              have g := g.more hF_48
              refine lv_goto (tgt := 308) hx hb dX1_go_224 (by decide) ?_
              obtain ⟨y_50, ey_50⟩ : ∃ z : Int32, z = v6_1 + 1 := ⟨_, rfl⟩
              refine lv_iinc (v := y_50) (lv' := [(1, .int y_50), (4, .int 0), (3, .int 19), (2, .int 0), (0, .ref a0_)]) hx hb dX1_go_308 hl (k := 3) rfl (by rw [ey_50]; rfl) (by decide) rfl (fun ls hl => ?_)
              have ty_50 := add_bd ey_50 b_14 kb_1 (by decide)
              have b_51 : bd 1 1000000 y_50 := add_rg ty_50 b_14 kb_1 (by decide)
              refine lv_goto (tgt := 6) hx hb dX1_go_311 (by decide) ?_
              have hl9 := lv_sub hl [0, 4] (by rfl : lv_pick [(1, .int y_50), (4, .int 0), (3, .int 19), (2, .int 0), (0, .ref a0_)] [0, 4] = [(1, .int y_50), (0, .ref a0_)])
              have g9 := g.sub (fx' := [(1, 0, a0_, .ref q0_), (1, 1, a0_, .ref q1_), (1, 12, a0_, .int y0_), (1, 5, a0_, .int y1_), (7, 1, q0_, .int y2_)]) [3, 4, 5, 6, 7] rfl
              exact ih6  y_50 (bd_sub b_51 (by decide)) (by have h9_0 := b_51; unfold bd at h9_0; have h9_1 := bv6_1; unfold bd at h9_1; have h9_2 := h_45; unfold bd at h9_2; have h9_3 := h_47; unfold bd at h9_3; have h9_4 := kb_0; unfold bd at h9_4; have h9_5 := kb_1; unfold bd at h9_5; have h9_6 := kb_1000000; unfold bd at h9_6; omega) _ _ _ _ g9 hG_49 hl9
            · have fc_39 := nle_f c_39
              have b_52 : bd 0 1999 x_21 := ltL fc_39 b_37 bx_38 (by decide)
              have b_53 : bd 1 2000 x_38 := ltR fc_39 b_37 bx_38 (by decide)
              refine lv_iconst (v := 1) hx hb dX1_go_40 (by decide) ?_
              refine lv_goto (tgt := 45) hx hb dX1_go_41 (by decide) ?_
              refine lv_istore_n (lv' := [(2, .int 1), (1, .int v6_1), (0, .ref a0_)]) hx hb dX1_go_45 rfl hl (by decide) rfl (fun ls hl => ?_)
              refine lv_iload_n hx hb dX1_go_46 rfl (lv_at hl 0 rfl) ?_
              refine lv_if_eq (tgt := 65) hx hb dX1_go_47 (by decide) (fun c_ => absurd c_ (by decide)) (fun c_ => ?_)
              refine lv_aload_n hx hb dX1_go_50 rfl (lv_at hl 2 rfl) ?_
              refine g_getk (C := RX1) (T := TX1) (N := 18) hx hb hts (mc_ inX1) hown hK g rfl 0 (by decide) rfl (hts _ (List.mem_cons_of_mem _ t_735)) (fun _ h9 => h9) 3 rfl dX1_go_51 ?_
              refine g_getr (K := 138) (C := RX7) (T := TX7) (N := 19) hx hb hts (mc_ inX7) hown hK g mq0_ kq0_ (by decide) rfl 4 (by decide) rfl (hts _ (List.mem_cons_of_mem _ t_641)) (fun _ h9 => h9) rfl dX1_go_54 (fun a_54 ma_54 ka_54 g => ?_)
              refine lv_aload_n hx hb dX1_go_57 rfl (lv_at hl 2 rfl) ?_
              refine g_getk (C := RX1) (T := TX1) (N := 18) hx hb hts (mc_ inX1) hown hK g rfl 13 (by decide) rfl (hts _ (List.mem_cons_of_mem _ t_748)) (fun _ h9 => h9) 2 rfl dX1_go_58 ?_
              refine g_iald hx hb hK g ma_54 ka_54 (by decide) rfl (in_bd b_52 (by decide)) dX1_go_61 (fun x_55 bx_55 cx_55 => ?_)
              refine lv_goto (tgt := 67) hx hb dX1_go_62 (by decide) ?_
              refine lv_istore_n (lv' := [(3, .int x_55), (2, .int 1), (1, .int v6_1), (0, .ref a0_)]) hx hb dX1_go_67 rfl hl (by decide) rfl (fun ls hl => ?_)
              refine lv_iload_n hx hb dX1_go_68 rfl (lv_at hl 1 rfl) ?_
              refine lv_if_eq (tgt := 87) hx hb dX1_go_69 (by decide) (fun c_ => absurd c_ (by decide)) (fun c_ => ?_)
              refine lv_aload_n hx hb dX1_go_72 rfl (lv_at hl 3 rfl) ?_
              refine g_getk (C := RX1) (T := TX1) (N := 18) hx hb hts (mc_ inX1) hown hK g rfl 0 (by decide) rfl (hts _ (List.mem_cons_of_mem _ t_735)) (fun _ h9 => h9) 4 rfl dX1_go_73 ?_
              refine g_getr (K := 139) (C := RX7) (T := TX7) (N := 19) hx hb hts (mc_ inX7) hown hK g mq0_ kq0_ (by decide) rfl 5 (by decide) rfl (hts _ (List.mem_cons_of_mem _ t_643)) (fun _ h9 => h9) rfl dX1_go_76 (fun a_56 ma_56 ka_56 g => ?_)
              refine lv_aload_n hx hb dX1_go_79 rfl (lv_at hl 3 rfl) ?_
              refine g_getk (C := RX1) (T := TX1) (N := 18) hx hb hts (mc_ inX1) hown hK g rfl 13 (by decide) rfl (hts _ (List.mem_cons_of_mem _ t_748)) (fun _ h9 => h9) 3 rfl dX1_go_80 ?_
              refine g_iald hx hb hK g ma_56 ka_56 (by decide) rfl (in_bd b_52 (by decide)) dX1_go_83 (fun x_57 bx_57 cx_57 => ?_)
              have hc_58 : crel x_55 x_57 := hG6_c_q0_.at g 1 0 2 rfl rfl rfl cx_55 cx_57 b_52 (by decide) fc_39
              refine lv_goto (tgt := 88) hx hb dX1_go_84 (by decide) ?_
              refine lv_istore (lv' := [(4, .int x_57), (3, .int x_55), (2, .int 1), (1, .int v6_1), (0, .ref a0_)]) hx hb dX1_go_88 hl (by decide) rfl (fun ls hl => ?_)
              refine lv_aload_n hx hb dX1_go_90 rfl (lv_at hl 4 rfl) ?_
              refine lv_dup hx hb dX1_go_91 rfl ?_
              refine g_getk (C := RX1) (T := TX1) (N := 18) hx hb hts (mc_ inX1) hown hK g rfl 13 (by decide) rfl (hts _ (List.mem_cons_of_mem _ t_748)) (fun _ h9 => h9) 3 rfl dX1_go_92 ?_
              refine lv_iconst (v := 1) hx hb dX1_go_95 (by decide) ?_
              have kb_1 : bd 1 1 (1 : Int32) := ⟨by decide, by decide⟩
              refine lv_iadd hx hb dX1_go_96 ?_
              refine lv_topi (fun y_59 ey_59 => ?_)
              have ty_59 := add_bd ey_59 b_52 kb_1 (by decide)
              have b_60 : bd 1 2000 y_59 := add_rg ty_59 b_52 kb_1 (by decide)
              have go_ := g
              refine g_put (C := RX1) (T := TX1) (N := 18) hx hb hts (mc_ inX1) tyX1 tyX1_ok nmX1 hown hK g ma0_ ka0_ (by decide) rfl 13 (by decide) (hts _ (List.mem_cons_of_mem _ t_748)) (fun _ h9 => h9) rfl rfl (okV_i (bd_sub b_60 (by decide))) rfl rfl (by decide) (Or.inr (Or.inl (by decide))) (fx' := [(7, 5, q0_, .ref a_56), (7, 4, q0_, .ref a_54), (7, 6, q0_, .int x_38), (1, 15, a0_, .int x_15), (1, 0, a0_, .ref q0_), (1, 1, a0_, .ref q1_), (1, 12, a0_, .int y0_), (1, 5, a0_, .int y1_), (7, 1, q0_, .int y2_)]) rfl dX1_go_97 (fun f H locs hM_61 g => ?_)
              have hG_62 := cOK.frame hM_61 go_.2.2.2.1 mq0_ kq0_ (by decide) (by decide) hG6_c_q0_
              refine lv_iload_n hx hb dX1_go_100 rfl (lv_at hl 1 rfl) ?_
              refine lv_iconst (v := 5) hx hb dX1_go_101 (by decide) ?_
              have kb_5 : bd 5 5 (5 : Int32) := ⟨by decide, by decide⟩
              refine lv_icmp_gt (tgt := 119) hx hb dX1_go_102 (by decide) (fun c_63 => ?_) (fun c_63 => ?_)
              · have fc_63 := lt_f c_63
                have b_64 : bd 6 2147483647 x_55 := ltR fc_63 kb_5 (bdT x_55) (by decide)
                refine lv_iload_n hx hb dX1_go_119 rfl (lv_at hl 1 rfl) ?_
                refine lv_bipush (v := 11) hx hb dX1_go_120 (by decide) ?_
                have kb_11 : bd 11 11 (11 : Int32) := ⟨by decide, by decide⟩
                refine lv_icmp_gt (tgt := 143) hx hb dX1_go_122 (by decide) (fun c_65 => ?_) (fun c_65 => ?_)
                · have fc_65 := lt_f c_65
                  have b_66 : bd 12 2147483647 x_55 := ltR fc_65 kb_11 b_64 (by decide)
                  refine lv_iload_n hx hb dX1_go_143 rfl (lv_at hl 1 rfl) ?_
                  refine lv_bipush (v := 16) hx hb dX1_go_144 (by decide) ?_
                  have kb_16 : bd 16 16 (16 : Int32) := ⟨by decide, by decide⟩
                  refine lv_icmp_gt (tgt := 159) hx hb dX1_go_146 (by decide) (fun c_67 => ?_) (fun c_67 => ?_)
                  · have fc_67 := lt_f c_67
                    have b_68 : bd 17 2147483647 x_55 := ltR fc_67 kb_16 b_66 (by decide)
                    refine lv_iload_n hx hb dX1_go_159 rfl (lv_at hl 1 rfl) ?_
                    refine lv_bipush (v := 17) hx hb dX1_go_160 (by decide) ?_
                    have kb_17 : bd 17 17 (17 : Int32) := ⟨by decide, by decide⟩
                    refine lv_icmp_ne (tgt := 198) hx hb dX1_go_162 (by decide) (fun c_69 => ?_) (fun c_69 => ?_)
                    · have fc_69 := neq_f c_69
                      have b_70 : bd 18 2147483647 x_55 := neX fc_69 b_68 kb_17 (by decide)
                      refine lv_iload_n hx hb dX1_go_198 rfl (lv_at hl 1 rfl) ?_
                      refine lv_bipush (v := 18) hx hb dX1_go_199 (by decide) ?_
                      have kb_18 : bd 18 18 (18 : Int32) := ⟨by decide, by decide⟩
                      refine lv_icmp_ne (tgt := 213) hx hb dX1_go_201 (by decide) (fun c_71 => ?_) (fun c_71 => ?_)
                      · have fc_71 := neq_f c_71
                        have b_72 : bd 19 2147483647 x_55 := neX fc_71 b_70 kb_18 (by decide)
                        refine lv_iload_n hx hb dX1_go_213 rfl (lv_at hl 1 rfl) ?_
                        refine lv_bipush (v := 19) hx hb dX1_go_214 (by decide) ?_
                        have kb_19 : bd 19 19 (19 : Int32) := ⟨by decide, by decide⟩
                        refine lv_icmp_ne (tgt := 227) hx hb dX1_go_216 (by decide) (fun c_73 => ?_) (fun c_73 => ?_)
                        · have fc_73 := neq_f c_73
                          have b_74 : bd 20 2147483647 x_55 := neX fc_73 b_72 kb_19 (by decide)
                          refine lv_iload_n hx hb dX1_go_227 rfl (lv_at hl 1 rfl) ?_
                          refine lv_bipush (v := 26) hx hb dX1_go_228 (by decide) ?_
                          have kb_26 : bd 26 26 (26 : Int32) := ⟨by decide, by decide⟩
                          refine lv_icmp_ne (tgt := 244) hx hb dX1_go_230 (by decide) (fun c_75 => ?_) (fun c_75 => ?_)
                          · have fc_75 := neq_f c_75
                            refine lv_iload_n hx hb dX1_go_244 rfl (lv_at hl 1 rfl) ?_
                            refine lv_bipush (v := 25) hx hb dX1_go_245 (by decide) ?_
                            have kb_25 : bd 25 25 (25 : Int32) := ⟨by decide, by decide⟩
                            refine lv_icmp_gt (tgt := 264) hx hb dX1_go_247 (by decide) (fun c_76 => ?_) (fun c_76 => ?_)
                            · have fc_76 := lt_f c_76
                              have b_77 : bd 26 2147483647 x_55 := ltR fc_76 kb_25 b_74 (by decide)
                              refine lv_aload_n hx hb dX1_go_264 rfl (lv_at hl 4 rfl) ?_
                              have go_ := g
                              refine g_calli (va_runV (As := []) (rest := []) ⟨hx, hb, hml, hown, hts⟩ (r_X1_pop l dC dI L kd tys f H.size g.2.2.2.1 a0_ ma0_ ka0_) (cwV 0 hts (gV_ t_1572 t_1574 t_61 t_195 t_1575) rfl rfl rfl (by decide +kernel) ⟨(Nat.le_of_ble_eq_true rfl), (Nat.le_of_ble_eq_true rfl)⟩) (pre3V g hK ma0_ ka0_ (by decide) (q := (RX1, TX1, 18)) rfl) rfl rfl hl.1 rfl (lv_room (Nat.le_of_ble_eq_true rfl)) dX1_go_265 ⟨(Nat.le_of_ble_eq_true rfl), (Nat.le_of_ble_eq_true rfl)⟩) g hK (by decide) (by decide) (fx' := [(1, 13, a0_, .int y_59), (7, 5, q0_, .ref a_56), (7, 4, q0_, .ref a_54), (7, 6, q0_, .int x_38), (1, 15, a0_, .int x_15), (1, 0, a0_, .ref q0_), (1, 1, a0_, .ref q1_), (1, 12, a0_, .int y0_), (1, 5, a0_, .int y1_), (7, 1, q0_, .int y2_)]) rfl (fun r_78 fr_78 H locs hp hMr_78 g => ?_)
                              obtain ⟨x_79, h_80, hF_81⟩ := hp
                              have hG_82 := cOK.frame hMr_78 go_.2.2.2.1 mq0_ kq0_ (by decide) (by decide) hG_62
                              have g := g.more hF_81
                              refine lv_istore (lv' := [(5, .int r_78), (4, .int x_57), (3, .int x_55), (2, .int 1), (1, .int v6_1), (0, .ref a0_)]) hx hb dX1_go_268 hl (by decide) rfl (fun ls hl => ?_)
                              refine lv_aload_n hx hb dX1_go_270 rfl (lv_at hl 5 rfl) ?_
                              have go_ := g
                              refine g_calli (va_runV (As := []) (rest := []) ⟨hx, hb, hml, hown, hts⟩ (r_X1_pop l dC dI L kd tys fr_78 H.size g.2.2.2.1 a0_ ma0_ ka0_) (cwV 0 hts (gV_ t_1572 t_1574 t_61 t_195 t_1575) rfl rfl rfl (by decide +kernel) ⟨(Nat.le_of_ble_eq_true rfl), (Nat.le_of_ble_eq_true rfl)⟩) (pre3V g hK ma0_ ka0_ (by decide) (q := (RX1, TX1, 18)) rfl) rfl rfl hl.1 rfl (lv_room (Nat.le_of_ble_eq_true rfl)) dX1_go_271 ⟨(Nat.le_of_ble_eq_true rfl), (Nat.le_of_ble_eq_true rfl)⟩) g hK (by decide) (by decide) (fx' := [(1, 13, a0_, .int y_59), (7, 5, q0_, .ref a_56), (7, 4, q0_, .ref a_54), (7, 6, q0_, .int x_38), (1, 15, a0_, .int x_15), (1, 0, a0_, .ref q0_), (1, 1, a0_, .ref q1_), (1, 12, a0_, .int y0_), (1, 5, a0_, .int y1_), (7, 1, q0_, .int y2_)]) rfl (fun r_83 fr_83 H locs hp hMr_83 g => ?_)
                              obtain ⟨x_84, h_85, hF_86⟩ := hp
                              have hG_87 := cOK.frame hMr_83 go_.2.2.2.1 mq0_ kq0_ (by decide) (by decide) hG_82
                              have g := g.more hF_86
                              refine lv_istore (lv' := [(6, .int r_83), (5, .int r_78), (4, .int x_57), (3, .int x_55), (2, .int 1), (1, .int v6_1), (0, .ref a0_)]) hx hb dX1_go_274 hl (by decide) rfl (fun ls hl => ?_)
                              refine lv_iload_n hx hb dX1_go_276 rfl (lv_at hl 3 rfl) ?_
                              refine lv_bipush (v := 27) hx hb dX1_go_277 (by decide) ?_
                              have kb_27 : bd 27 27 (27 : Int32) := ⟨by decide, by decide⟩
                              refine lv_icmp_ne (tgt := 295) hx hb dX1_go_279 (by decide) (fun c_88 => ?_) (fun c_88 => ?_)
                              · have fc_88 := neq_f c_88
                                refine lv_aload_n hx hb dX1_go_295 rfl (lv_at hl 6 rfl) ?_
                                refine lv_aload_n hx hb dX1_go_296 rfl (lv_at hl 6 rfl) ?_
                                refine lv_iload_n hx hb dX1_go_297 rfl (lv_at hl 3 rfl) ?_
                                refine lv_iload hx hb dX1_go_298 (lv_at hl 0 rfl) ?_
                                refine lv_iload hx hb dX1_go_300 (lv_at hl 1 rfl) ?_
                                have go_ := g
                                refine g_calli (va_runV (As := [.int x_55, .int r_83, .int r_78]) (rest := [.ref a0_]) ⟨hx, hb, hml, hown, hts⟩ (r_X1_reckon l dC dI L kd tys fr_83 H.size g.2.2.2.1 a0_ ma0_ ka0_ x_55 r_83 r_78) (cwV 3 hts (gV_ t_1601 t_1603 t_68 t_195 t_1604) rfl rfl rfl (by decide +kernel) ⟨(Nat.le_of_ble_eq_true rfl), (Nat.le_of_ble_eq_true rfl)⟩) (pre3V g hK ma0_ ka0_ (by decide) (q := (RX1, TX1, 18)) rfl) rfl rfl hl.1 rfl (lv_room (Nat.le_of_ble_eq_true rfl)) dX1_go_302 ⟨(Nat.le_of_ble_eq_true rfl), (Nat.le_of_ble_eq_true rfl)⟩) g hK (by decide) (by decide) (fx' := [(1, 8, a0_, .int x_84), (1, 13, a0_, .int y_59), (7, 5, q0_, .ref a_56), (7, 4, q0_, .ref a_54), (7, 6, q0_, .int x_38), (1, 0, a0_, .ref q0_), (1, 1, a0_, .ref q1_), (1, 12, a0_, .int y0_), (1, 5, a0_, .int y1_), (7, 1, q0_, .int y2_)]) rfl (fun r_89 fr_89 H locs hp hMr_89 g => ?_)
                                have hG_90 := cOK.frame hMr_89 go_.2.2.2.1 mq0_ kq0_ (by decide) (by decide) hG_87
                                have go_ := g
                                refine g_callv (va_runV (As := [.int r_89]) (rest := []) ⟨hx, hb, hml, hown, hts⟩ (r_X1_push l dC dI L kd tys fr_89 H.size g.2.2.2.1 a0_ ma0_ ka0_ r_89) (cwV 1 hts (gV_ t_1568 t_1570 t_60 t_195 t_1571) rfl rfl rfl (by decide +kernel) ⟨(Nat.le_of_ble_eq_true rfl), (Nat.le_of_ble_eq_true rfl)⟩) (pre3V g hK ma0_ ka0_ (by decide) (q := (RX1, TX1, 18)) rfl) rfl rfl hl.1 rfl (lv_room (Nat.le_of_ble_eq_true rfl)) dX1_go_305 ⟨(Nat.le_of_ble_eq_true rfl), (Nat.le_of_ble_eq_true rfl)⟩) g hK (by decide) (by decide) (fx' := [(1, 13, a0_, .int y_59), (7, 5, q0_, .ref a_56), (7, 4, q0_, .ref a_54), (7, 6, q0_, .int x_38), (1, 0, a0_, .ref q0_), (1, 1, a0_, .ref q1_), (1, 12, a0_, .int y0_), (1, 5, a0_, .int y1_), (7, 1, q0_, .int y2_)]) rfl (fun fr_91 H locs hp hMr_91 g => ?_)
                                obtain ⟨x_92, h_93, hF_94⟩ := hp
                                have hG_95 := cOK.frame hMr_91 go_.2.2.2.1 mq0_ kq0_ (by decide) (by decide) hG_90
                                have g := g.more hF_94
                                obtain ⟨y_96, ey_96⟩ : ∃ z : Int32, z = v6_1 + 1 := ⟨_, rfl⟩
                                refine lv_iinc (v := y_96) (lv' := [(1, .int y_96), (6, .int r_83), (5, .int r_78), (4, .int x_57), (3, .int x_55), (2, .int 1), (0, .ref a0_)]) hx hb dX1_go_308 hl (k := 5) rfl (by rw [ey_96]; rfl) (by decide) rfl (fun ls hl => ?_)
                                have ty_96 := add_bd ey_96 b_14 kb_1 (by decide)
                                have b_97 : bd 1 1000000 y_96 := add_rg ty_96 b_14 kb_1 (by decide)
                                refine lv_goto (tgt := 6) hx hb dX1_go_311 (by decide) ?_
                                have hl9 := lv_sub hl [0, 6] (by rfl : lv_pick [(1, .int y_96), (6, .int r_83), (5, .int r_78), (4, .int x_57), (3, .int x_55), (2, .int 1), (0, .ref a0_)] [0, 6] = [(1, .int y_96), (0, .ref a0_)])
                                have g9 := g.sub (fx' := [(1, 0, a0_, .ref q0_), (1, 1, a0_, .ref q1_), (1, 12, a0_, .int y0_), (1, 5, a0_, .int y1_), (7, 1, q0_, .int y2_)]) [5, 6, 7, 8, 9] rfl
                                exact ih6  y_96 (bd_sub b_97 (by decide)) (by have h9_0 := b_97; unfold bd at h9_0; have h9_1 := bv6_1; unfold bd at h9_1; have h9_2 := h_93; unfold bd at h9_2; have h9_3 := kb_0; unfold bd at h9_3; have h9_4 := kb_1; unfold bd at h9_4; have h9_5 := kb_1000000; unfold bd at h9_5; have h9_6 := kb_11; unfold bd at h9_6; have h9_7 := kb_16; unfold bd at h9_7; have h9_8 := kb_17; unfold bd at h9_8; have h9_9 := kb_18; unfold bd at h9_9; have h9_10 := kb_19; unfold bd at h9_10; have h9_11 := kb_25; unfold bd at h9_11; have h9_12 := kb_26; unfold bd at h9_12; have h9_13 := kb_27; unfold bd at h9_13; have h9_14 := kb_5; unfold bd at h9_14; omega) _ _ _ _ g9 hG_95 hl9
                              · have fc_88 := eq_f c_88
                                have b_98 : bd 27 27 x_55 := eqX fc_88 b_77 kb_27 (by decide)
                                have b_99 : bd 0 400 x_57 := eqX rfl (bdT x_57) (cr400 hc_58 b_98 (by decide)) (by decide)
                                refine lv_aload_n hx hb dX1_go_282 rfl (lv_at hl 6 rfl) ?_
                                refine lv_iload hx hb dX1_go_283 (lv_at hl 2 rfl) ?_
                                refine lv_iload hx hb dX1_go_285 (lv_at hl 0 rfl) ?_
                                refine lv_iload hx hb dX1_go_287 (lv_at hl 1 rfl) ?_
                                have go_ := g
                                refine g_callv (va_runV (As := [.int x_57, .int r_83, .int r_78]) (rest := []) ⟨hx, hb, hml, hown, hts⟩ (r_X1_setCell_15 l dC dI L kd tys fr_83 H.size g.2.2.2.1 a0_ ma0_ ka0_ x_57 b_99 r_83 r_78 x_84 h_85 y_59 b_60 x_15 b_20 y0_ by0_ y1_ by1_ (g.fcts [0, 1, 5, 8, 9] rfl)) (cwV 3 hts (gV_ t_1597 t_1599 t_67 t_195 t_1600) rfl rfl rfl (by decide +kernel) ⟨(Nat.le_of_ble_eq_true rfl), (Nat.le_of_ble_eq_true rfl)⟩) (pre3V g hK ma0_ ka0_ (by decide) (q := (RX1, TX1, 18)) rfl) rfl rfl hl.1 rfl (lv_room (Nat.le_of_ble_eq_true rfl)) dX1_go_289 ⟨(Nat.le_of_ble_eq_true rfl), (Nat.le_of_ble_eq_true rfl)⟩) g hK (by decide) (by decide) (fx' := [(1, 8, a0_, .int x_84), (1, 13, a0_, .int y_59), (7, 5, q0_, .ref a_56), (7, 4, q0_, .ref a_54), (7, 6, q0_, .int x_38), (1, 0, a0_, .ref q0_), (1, 1, a0_, .ref q1_), (1, 12, a0_, .int y0_), (1, 5, a0_, .int y1_), (7, 1, q0_, .int y2_)]) rfl (fun fr_100 H locs hp hMr_100 g => ?_)
                                have hF_101 := hp
                                have hG_102 := cOK.frame hMr_100 go_.2.2.2.1 mq0_ kq0_ (by decide) (by decide) hG_87
                                have g := g.more hF_101
                                refine lv_goto (tgt := 308) hx hb dX1_go_292 (by decide) ?_
                                obtain ⟨y_103, ey_103⟩ : ∃ z : Int32, z = v6_1 + 1 := ⟨_, rfl⟩
                                refine lv_iinc (v := y_103) (lv' := [(1, .int y_103), (6, .int r_83), (5, .int r_78), (4, .int x_57), (3, .int x_55), (2, .int 1), (0, .ref a0_)]) hx hb dX1_go_308 hl (k := 5) rfl (by rw [ey_103]; rfl) (by decide) rfl (fun ls hl => ?_)
                                have ty_103 := add_bd ey_103 b_14 kb_1 (by decide)
                                have b_104 : bd 1 1000000 y_103 := add_rg ty_103 b_14 kb_1 (by decide)
                                refine lv_goto (tgt := 6) hx hb dX1_go_311 (by decide) ?_
                                have kb_4 : bd 4 4 (4 : Int32) := ⟨by decide, by decide⟩
                                have hl9 := lv_sub hl [0, 6] (by rfl : lv_pick [(1, .int y_103), (6, .int r_83), (5, .int r_78), (4, .int x_57), (3, .int x_55), (2, .int 1), (0, .ref a0_)] [0, 6] = [(1, .int y_103), (0, .ref a0_)])
                                have g9 := g.sub (fx' := [(1, 0, a0_, .ref q0_), (1, 1, a0_, .ref q1_), (1, 12, a0_, .int y0_), (1, 5, a0_, .int y1_), (7, 1, q0_, .int y2_)]) [6, 7, 8, 9, 10] rfl
                                exact ih6  y_103 (bd_sub b_104 (by decide)) (by have h9_0 := b_104; unfold bd at h9_0; have h9_1 := bv6_1; unfold bd at h9_1; have h9_2 := h_85; unfold bd at h9_2; have h9_3 := kb_0; unfold bd at h9_3; have h9_4 := kb_1; unfold bd at h9_4; have h9_5 := kb_1000000; unfold bd at h9_5; have h9_6 := kb_11; unfold bd at h9_6; have h9_7 := kb_16; unfold bd at h9_7; have h9_8 := kb_17; unfold bd at h9_8; have h9_9 := kb_18; unfold bd at h9_9; have h9_10 := kb_19; unfold bd at h9_10; have h9_11 := kb_25; unfold bd at h9_11; have h9_12 := kb_26; unfold bd at h9_12; have h9_13 := kb_27; unfold bd at h9_13; have h9_14 := kb_4; unfold bd at h9_14; have h9_15 := kb_5; unfold bd at h9_15; omega) _ _ _ _ g9 hG_102 hl9
                            · have fc_76 := nlt_f c_76
                              have b_105 : bd 20 25 x_55 := leL fc_76 b_74 kb_25 (by decide)
                              refine lv_aload_n hx hb dX1_go_250 rfl (lv_at hl 4 rfl) ?_
                              refine lv_iload_n hx hb dX1_go_251 rfl (lv_at hl 1 rfl) ?_
                              refine lv_iload hx hb dX1_go_252 (lv_at hl 0 rfl) ?_
                              refine lv_aload_n hx hb dX1_go_254 rfl (lv_at hl 4 rfl) ?_
                              have go_ := g
                              refine g_calli (va_runV (As := []) (rest := [.int x_57, .int x_55, .ref a0_]) ⟨hx, hb, hml, hown, hts⟩ (r_X1_pop l dC dI L kd tys f H.size g.2.2.2.1 a0_ ma0_ ka0_) (cwV 0 hts (gV_ t_1572 t_1574 t_61 t_195 t_1575) rfl rfl rfl (by decide +kernel) ⟨(Nat.le_of_ble_eq_true rfl), (Nat.le_of_ble_eq_true rfl)⟩) (pre3V g hK ma0_ ka0_ (by decide) (q := (RX1, TX1, 18)) rfl) rfl rfl hl.1 rfl (lv_room (Nat.le_of_ble_eq_true rfl)) dX1_go_255 ⟨(Nat.le_of_ble_eq_true rfl), (Nat.le_of_ble_eq_true rfl)⟩) g hK (by decide) (by decide) (fx' := [(1, 13, a0_, .int y_59), (7, 5, q0_, .ref a_56), (7, 4, q0_, .ref a_54), (7, 6, q0_, .int x_38), (1, 15, a0_, .int x_15), (1, 0, a0_, .ref q0_), (1, 1, a0_, .ref q1_), (1, 12, a0_, .int y0_), (1, 5, a0_, .int y1_), (7, 1, q0_, .int y2_)]) rfl (fun r_106 fr_106 H locs hp hMr_106 g => ?_)
                              obtain ⟨x_107, h_108, hF_109⟩ := hp
                              have hG_110 := cOK.frame hMr_106 go_.2.2.2.1 mq0_ kq0_ (by decide) (by decide) hG_62
                              have g := g.more hF_109
                              have go_ := g
                              refine g_callv (va_runV (As := [.int x_55, .int x_57, .int r_106]) (rest := []) ⟨hx, hb, hml, hown, hts⟩ (r_X1_use_15 l dC dI L kd tys fr_106 H.size g.2.2.2.1 a0_ ma0_ ka0_ x_55 b_105 x_57 r_106 x_107 h_108 y_59 b_60 x_15 b_20 y0_ by0_ y1_ by1_ hc_58 (g.fcts [0, 1, 5, 8, 9] rfl)) (cwV 3 hts (gV_ t_1593 t_1595 t_66 t_195 t_1596) rfl rfl rfl (by decide +kernel) ⟨(Nat.le_of_ble_eq_true rfl), (Nat.le_of_ble_eq_true rfl)⟩) (pre3V g hK ma0_ ka0_ (by decide) (q := (RX1, TX1, 18)) rfl) rfl rfl hl.1 rfl (lv_room (Nat.le_of_ble_eq_true rfl)) dX1_go_258 ⟨(Nat.le_of_ble_eq_true rfl), (Nat.le_of_ble_eq_true rfl)⟩) g hK (by decide) (by decide) (fx' := [(7, 5, q0_, .ref a_56), (7, 4, q0_, .ref a_54), (7, 6, q0_, .int x_38), (1, 0, a0_, .ref q0_), (1, 1, a0_, .ref q1_), (1, 12, a0_, .int y0_), (1, 5, a0_, .int y1_), (7, 1, q0_, .int y2_)]) rfl (fun fr_111 H locs hp hMr_111 g => ?_)
                              obtain ⟨x_112, h_113, hF_114⟩ := hp
                              have hG_115 := cOK.frame hMr_111 go_.2.2.2.1 mq0_ kq0_ (by decide) (by decide) hG_110
                              have g := g.more hF_114
                              refine lv_goto (tgt := 308) hx hb dX1_go_261 (by decide) ?_
                              obtain ⟨y_116, ey_116⟩ : ∃ z : Int32, z = v6_1 + 1 := ⟨_, rfl⟩
                              refine lv_iinc (v := y_116) (lv' := [(1, .int y_116), (4, .int x_57), (3, .int x_55), (2, .int 1), (0, .ref a0_)]) hx hb dX1_go_308 hl (k := 3) rfl (by rw [ey_116]; rfl) (by decide) rfl (fun ls hl => ?_)
                              have ty_116 := add_bd ey_116 b_14 kb_1 (by decide)
                              have b_117 : bd 1 1000000 y_116 := add_rg ty_116 b_14 kb_1 (by decide)
                              refine lv_goto (tgt := 6) hx hb dX1_go_311 (by decide) ?_
                              have hl9 := lv_sub hl [0, 4] (by rfl : lv_pick [(1, .int y_116), (4, .int x_57), (3, .int x_55), (2, .int 1), (0, .ref a0_)] [0, 4] = [(1, .int y_116), (0, .ref a0_)])
                              have g9 := g.sub (fx' := [(1, 0, a0_, .ref q0_), (1, 1, a0_, .ref q1_), (1, 12, a0_, .int y0_), (1, 5, a0_, .int y1_), (7, 1, q0_, .int y2_)]) [4, 5, 6, 7, 8] rfl
                              exact ih6  y_116 (bd_sub b_117 (by decide)) (by have h9_0 := b_117; unfold bd at h9_0; have h9_1 := bv6_1; unfold bd at h9_1; have h9_2 := h_113; unfold bd at h9_2; have h9_3 := kb_0; unfold bd at h9_3; have h9_4 := kb_1; unfold bd at h9_4; have h9_5 := kb_1000000; unfold bd at h9_5; have h9_6 := kb_11; unfold bd at h9_6; have h9_7 := kb_16; unfold bd at h9_7; have h9_8 := kb_17; unfold bd at h9_8; have h9_9 := kb_18; unfold bd at h9_9; have h9_10 := kb_19; unfold bd at h9_10; have h9_11 := kb_25; unfold bd at h9_11; have h9_12 := kb_26; unfold bd at h9_12; have h9_13 := kb_5; unfold bd at h9_13; omega) _ _ _ _ g9 hG_115 hl9
                          · have fc_75 := eq_f c_75
                            have b_118 : bd 26 26 x_55 := eqX fc_75 b_74 kb_26 (by decide)
                            refine lv_aload_n hx hb dX1_go_233 rfl (lv_at hl 4 rfl) ?_
                            refine lv_aload_n hx hb dX1_go_234 rfl (lv_at hl 4 rfl) ?_
                            have go_ := g
                            refine g_calli (va_runV (As := []) (rest := [.ref a0_]) ⟨hx, hb, hml, hown, hts⟩ (r_X1_pop l dC dI L kd tys f H.size g.2.2.2.1 a0_ ma0_ ka0_) (cwV 0 hts (gV_ t_1572 t_1574 t_61 t_195 t_1575) rfl rfl rfl (by decide +kernel) ⟨(Nat.le_of_ble_eq_true rfl), (Nat.le_of_ble_eq_true rfl)⟩) (pre3V g hK ma0_ ka0_ (by decide) (q := (RX1, TX1, 18)) rfl) rfl rfl hl.1 rfl (lv_room (Nat.le_of_ble_eq_true rfl)) dX1_go_235 ⟨(Nat.le_of_ble_eq_true rfl), (Nat.le_of_ble_eq_true rfl)⟩) g hK (by decide) (by decide) (fx' := [(1, 13, a0_, .int y_59), (7, 5, q0_, .ref a_56), (7, 4, q0_, .ref a_54), (7, 6, q0_, .int x_38), (1, 15, a0_, .int x_15), (1, 0, a0_, .ref q0_), (1, 1, a0_, .ref q1_), (1, 12, a0_, .int y0_), (1, 5, a0_, .int y1_), (7, 1, q0_, .int y2_)]) rfl (fun r_119 fr_119 H locs hp hMr_119 g => ?_)
                            obtain ⟨x_120, h_121, hF_122⟩ := hp
                            have hG_123 := cOK.frame hMr_119 go_.2.2.2.1 mq0_ kq0_ (by decide) (by decide) hG_62
                            have g := g.more hF_122
                            have go_ := g
                            refine g_callv (va_runV (As := [.int r_119]) (rest := []) ⟨hx, hb, hml, hown, hts⟩ (r_X1_leave_27 l dC dI L kd tys fr_119 H.size g.2.2.2.1 a0_ ma0_ ka0_ r_119 x_120 h_121 y_59 b_60 x_15 b_20 y0_ by0_ y1_ by1_ (g.fcts [0, 1, 5, 8, 9] rfl)) (cwV 1 hts (gV_ t_1589 t_1591 t_65 t_195 t_1592) rfl rfl rfl (by decide +kernel) ⟨(Nat.le_of_ble_eq_true rfl), (Nat.le_of_ble_eq_true rfl)⟩) (pre3V g hK ma0_ ka0_ (by decide) (q := (RX1, TX1, 18)) rfl) rfl rfl hl.1 rfl (lv_room (Nat.le_of_ble_eq_true rfl)) dX1_go_238 ⟨(Nat.le_of_ble_eq_true rfl), (Nat.le_of_ble_eq_true rfl)⟩) g hK (by decide) (by decide) (fx' := [(7, 5, q0_, .ref a_56), (7, 4, q0_, .ref a_54), (7, 6, q0_, .int x_38), (1, 0, a0_, .ref q0_), (1, 1, a0_, .ref q1_), (1, 12, a0_, .int y0_), (1, 5, a0_, .int y1_), (7, 1, q0_, .int y2_)]) rfl (fun fr_124 H locs hp hMr_124 g => ?_)
                            obtain ⟨x_125, h_126, x_127, h_128, hF_129⟩ := hp
                            have hG_130 := cOK.frame hMr_124 go_.2.2.2.1 mq0_ kq0_ (by decide) (by decide) hG_123
                            have g := g.more hF_129
                            refine lv_goto (tgt := 308) hx hb dX1_go_241 (by decide) ?_
                            obtain ⟨y_131, ey_131⟩ : ∃ z : Int32, z = v6_1 + 1 := ⟨_, rfl⟩
                            refine lv_iinc (v := y_131) (lv' := [(1, .int y_131), (4, .int x_57), (3, .int x_55), (2, .int 1), (0, .ref a0_)]) hx hb dX1_go_308 hl (k := 3) rfl (by rw [ey_131]; rfl) (by decide) rfl (fun ls hl => ?_)
                            have ty_131 := add_bd ey_131 b_14 kb_1 (by decide)
                            have b_132 : bd 1 1000000 y_131 := add_rg ty_131 b_14 kb_1 (by decide)
                            refine lv_goto (tgt := 6) hx hb dX1_go_311 (by decide) ?_
                            have hl9 := lv_sub hl [0, 4] (by rfl : lv_pick [(1, .int y_131), (4, .int x_57), (3, .int x_55), (2, .int 1), (0, .ref a0_)] [0, 4] = [(1, .int y_131), (0, .ref a0_)])
                            have g9 := g.sub (fx' := [(1, 0, a0_, .ref q0_), (1, 1, a0_, .ref q1_), (1, 12, a0_, .int y0_), (1, 5, a0_, .int y1_), (7, 1, q0_, .int y2_)]) [5, 6, 7, 8, 9] rfl
                            exact ih6  y_131 (bd_sub b_132 (by decide)) (by have h9_0 := b_132; unfold bd at h9_0; have h9_1 := bv6_1; unfold bd at h9_1; have h9_2 := h_126; unfold bd at h9_2; have h9_3 := h_128; unfold bd at h9_3; have h9_4 := kb_0; unfold bd at h9_4; have h9_5 := kb_1; unfold bd at h9_5; have h9_6 := kb_1000000; unfold bd at h9_6; have h9_7 := kb_11; unfold bd at h9_7; have h9_8 := kb_16; unfold bd at h9_8; have h9_9 := kb_17; unfold bd at h9_9; have h9_10 := kb_18; unfold bd at h9_10; have h9_11 := kb_19; unfold bd at h9_11; have h9_12 := kb_26; unfold bd at h9_12; have h9_13 := kb_5; unfold bd at h9_13; omega) _ _ _ _ g9 hG_130 hl9
                        · have fc_73 := eq_f c_73
                          have b_133 : bd 19 19 x_55 := eqX fc_73 b_72 kb_19 (by decide)
                          refine lv_aload_n hx hb dX1_go_219 rfl (lv_at hl 4 rfl) ?_
                          refine lv_iconst (v := 0) hx hb dX1_go_220 (by decide) ?_
                          have go_ := g
                          refine g_callv (va_runV (As := [.int 0]) (rest := []) ⟨hx, hb, hml, hown, hts⟩ (r_X1_leave_28 l dC dI L kd tys f H.size g.2.2.2.1 a0_ ma0_ ka0_ 0 kb_0 y_59 b_60 x_15 b_20 y0_ by0_ y1_ by1_ (g.fcts [0, 4, 7, 8] rfl)) (cwV 1 hts (gV_ t_1589 t_1591 t_65 t_195 t_1592) rfl rfl rfl (by decide +kernel) ⟨(Nat.le_of_ble_eq_true rfl), (Nat.le_of_ble_eq_true rfl)⟩) (pre3V g hK ma0_ ka0_ (by decide) (q := (RX1, TX1, 18)) rfl) rfl rfl hl.1 rfl (lv_room (Nat.le_of_ble_eq_true rfl)) dX1_go_221 ⟨(Nat.le_of_ble_eq_true rfl), (Nat.le_of_ble_eq_true rfl)⟩) g hK (by decide) (by decide) (fx' := [(7, 5, q0_, .ref a_56), (7, 4, q0_, .ref a_54), (7, 6, q0_, .int x_38), (1, 0, a0_, .ref q0_), (1, 1, a0_, .ref q1_), (1, 12, a0_, .int y0_), (1, 5, a0_, .int y1_), (7, 1, q0_, .int y2_)]) rfl (fun fr_134 H locs hp hMr_134 g => ?_)
                          obtain ⟨x_135, h_136, x_137, h_138, hF_139⟩ := hp
                          have hG_140 := cOK.frame hMr_134 go_.2.2.2.1 mq0_ kq0_ (by decide) (by decide) hG_62
                          have g := g.more hF_139
                          refine lv_goto (tgt := 308) hx hb dX1_go_224 (by decide) ?_
                          obtain ⟨y_141, ey_141⟩ : ∃ z : Int32, z = v6_1 + 1 := ⟨_, rfl⟩
                          refine lv_iinc (v := y_141) (lv' := [(1, .int y_141), (4, .int x_57), (3, .int x_55), (2, .int 1), (0, .ref a0_)]) hx hb dX1_go_308 hl (k := 3) rfl (by rw [ey_141]; rfl) (by decide) rfl (fun ls hl => ?_)
                          have ty_141 := add_bd ey_141 b_14 kb_1 (by decide)
                          have b_142 : bd 1 1000000 y_141 := add_rg ty_141 b_14 kb_1 (by decide)
                          refine lv_goto (tgt := 6) hx hb dX1_go_311 (by decide) ?_
                          have hl9 := lv_sub hl [0, 4] (by rfl : lv_pick [(1, .int y_141), (4, .int x_57), (3, .int x_55), (2, .int 1), (0, .ref a0_)] [0, 4] = [(1, .int y_141), (0, .ref a0_)])
                          have g9 := g.sub (fx' := [(1, 0, a0_, .ref q0_), (1, 1, a0_, .ref q1_), (1, 12, a0_, .int y0_), (1, 5, a0_, .int y1_), (7, 1, q0_, .int y2_)]) [5, 6, 7, 8, 9] rfl
                          exact ih6  y_141 (bd_sub b_142 (by decide)) (by have h9_0 := b_142; unfold bd at h9_0; have h9_1 := bv6_1; unfold bd at h9_1; have h9_2 := h_136; unfold bd at h9_2; have h9_3 := h_138; unfold bd at h9_3; have h9_4 := kb_0; unfold bd at h9_4; have h9_5 := kb_1; unfold bd at h9_5; have h9_6 := kb_1000000; unfold bd at h9_6; have h9_7 := kb_11; unfold bd at h9_7; have h9_8 := kb_16; unfold bd at h9_8; have h9_9 := kb_17; unfold bd at h9_9; have h9_10 := kb_18; unfold bd at h9_10; have h9_11 := kb_19; unfold bd at h9_11; have h9_12 := kb_5; unfold bd at h9_12; omega) _ _ _ _ g9 hG_140 hl9
                      · have fc_71 := eq_f c_71
                        have b_143 : bd 18 18 x_55 := eqX fc_71 b_70 kb_18 (by decide)
                        refine lv_aload_n hx hb dX1_go_204 rfl (lv_at hl 4 rfl) ?_
                        refine lv_iload hx hb dX1_go_205 (lv_at hl 0 rfl) ?_
                        have go_ := g
                        refine g_callv (va_runV (As := [.int x_57]) (rest := []) ⟨hx, hb, hml, hown, hts⟩ (r_X1_enter_7 l dC dI L kd tys f H.size g.2.2.2.1 a0_ ma0_ ka0_ x_57 q0_ mq0_ kq0_ (g.fcts [5] rfl)) (cwV 1 hts (gV_ t_1585 t_1587 t_64 t_195 t_1588) rfl rfl rfl (by decide +kernel) ⟨(Nat.le_of_ble_eq_true rfl), (Nat.le_of_ble_eq_true rfl)⟩) (pre3V g hK ma0_ ka0_ (by decide) (q := (RX1, TX1, 18)) rfl) rfl rfl hl.1 rfl (lv_room (Nat.le_of_ble_eq_true rfl)) dX1_go_207 ⟨(Nat.le_of_ble_eq_true rfl), (Nat.le_of_ble_eq_true rfl)⟩) g hK (by decide) (by decide) (fx' := [(7, 5, q0_, .ref a_56), (7, 4, q0_, .ref a_54), (7, 6, q0_, .int x_38), (1, 0, a0_, .ref q0_), (1, 1, a0_, .ref q1_), (1, 12, a0_, .int y0_), (1, 5, a0_, .int y1_), (7, 1, q0_, .int y2_)]) rfl (fun fr_144 H locs hp hMr_144 g => ?_)
                        have hG_145 := cOK.frame hMr_144 go_.2.2.2.1 mq0_ kq0_ (by decide) (by decide) hG_62
                        refine lv_goto (tgt := 308) hx hb dX1_go_210 (by decide) ?_
                        obtain ⟨y_146, ey_146⟩ : ∃ z : Int32, z = v6_1 + 1 := ⟨_, rfl⟩
                        refine lv_iinc (v := y_146) (lv' := [(1, .int y_146), (4, .int x_57), (3, .int x_55), (2, .int 1), (0, .ref a0_)]) hx hb dX1_go_308 hl (k := 3) rfl (by rw [ey_146]; rfl) (by decide) rfl (fun ls hl => ?_)
                        have ty_146 := add_bd ey_146 b_14 kb_1 (by decide)
                        have b_147 : bd 1 1000000 y_146 := add_rg ty_146 b_14 kb_1 (by decide)
                        refine lv_goto (tgt := 6) hx hb dX1_go_311 (by decide) ?_
                        have hl9 := lv_sub hl [0, 4] (by rfl : lv_pick [(1, .int y_146), (4, .int x_57), (3, .int x_55), (2, .int 1), (0, .ref a0_)] [0, 4] = [(1, .int y_146), (0, .ref a0_)])
                        have g9 := g.sub (fx' := [(1, 0, a0_, .ref q0_), (1, 1, a0_, .ref q1_), (1, 12, a0_, .int y0_), (1, 5, a0_, .int y1_), (7, 1, q0_, .int y2_)]) [3, 4, 5, 6, 7] rfl
                        exact ih6  y_146 (bd_sub b_147 (by decide)) (by have h9_0 := b_147; unfold bd at h9_0; have h9_1 := bv6_1; unfold bd at h9_1; have h9_2 := kb_0; unfold bd at h9_2; have h9_3 := kb_1; unfold bd at h9_3; have h9_4 := kb_1000000; unfold bd at h9_4; have h9_5 := kb_11; unfold bd at h9_5; have h9_6 := kb_16; unfold bd at h9_6; have h9_7 := kb_17; unfold bd at h9_7; have h9_8 := kb_18; unfold bd at h9_8; have h9_9 := kb_5; unfold bd at h9_9; omega) _ _ _ _ g9 hG_145 hl9
                    · have fc_69 := eq_f c_69
                      have b_148 : bd 17 17 x_55 := eqX fc_69 b_68 kb_17 (by decide)
                      have b_149 : bd 0 2147483647 x_57 := eqX rfl (bdT x_57) (cr0 hc_58 b_148 (by decide)) (by decide)
                      refine lv_aload_n hx hb dX1_go_165 rfl (lv_at hl 4 rfl) ?_
                      refine lv_iload hx hb dX1_go_166 (lv_at hl 0 rfl) ?_
                      refine lv_aload_n hx hb dX1_go_168 rfl (lv_at hl 4 rfl) ?_
                      refine g_getk (C := RX1) (T := TX1) (N := 18) hx hb hts (mc_ inX1) hown hK g rfl 1 (by decide) rfl (hts _ (List.mem_cons_of_mem _ t_736)) (fun _ h9 => h9) 6 rfl dX1_go_169 ?_
                      refine g_geti (C := RX9) (T := TX9) (N := 13) hx hb hts (mc_ inX9) hown hK g mq1_ kq1_ (by decide) rfl 8 (by decide) rfl (hts _ (List.mem_cons_of_mem _ t_499)) (fun _ h9 => h9) rfl dX1_go_172 (fun x_150 bx_150 g => ?_)
                      refine lv_icmp_ge (tgt := 191) hx hb dX1_go_175 (by decide) (fun c_151 => ?_) (fun c_151 => ?_)
                      · have fc_151 := le_f c_151
                        refine lv_iconst (v := (-1)) hx hb dX1_go_191 (by decide) ?_
                        have go_ := g
                        refine g_callv (va_runV (As := [.int (-1)]) (rest := []) ⟨hx, hb, hml, hown, hts⟩ (r_X1_enter_7 l dC dI L kd tys f H.size g.2.2.2.1 a0_ ma0_ ka0_ (-1) q0_ mq0_ kq0_ (g.fcts [6] rfl)) (cwV 1 hts (gV_ t_1585 t_1587 t_64 t_195 t_1588) rfl rfl rfl (by decide +kernel) ⟨(Nat.le_of_ble_eq_true rfl), (Nat.le_of_ble_eq_true rfl)⟩) (pre3V g hK ma0_ ka0_ (by decide) (q := (RX1, TX1, 18)) rfl) rfl rfl hl.1 rfl (lv_room (Nat.le_of_ble_eq_true rfl)) dX1_go_192 ⟨(Nat.le_of_ble_eq_true rfl), (Nat.le_of_ble_eq_true rfl)⟩) g hK (by decide) (by decide) (fx' := [(9, 8, q1_, .int x_150), (7, 5, q0_, .ref a_56), (7, 4, q0_, .ref a_54), (7, 6, q0_, .int x_38), (1, 0, a0_, .ref q0_), (1, 1, a0_, .ref q1_), (1, 12, a0_, .int y0_), (1, 5, a0_, .int y1_), (7, 1, q0_, .int y2_)]) rfl (fun fr_152 H locs hp hMr_152 g => ?_)
                        have hG_153 := cOK.frame hMr_152 go_.2.2.2.1 mq0_ kq0_ (by decide) (by decide) hG_62
                        refine lv_goto (tgt := 308) hx hb dX1_go_195 (by decide) ?_
                        obtain ⟨y_154, ey_154⟩ : ∃ z : Int32, z = v6_1 + 1 := ⟨_, rfl⟩
                        refine lv_iinc (v := y_154) (lv' := [(1, .int y_154), (4, .int x_57), (3, .int x_55), (2, .int 1), (0, .ref a0_)]) hx hb dX1_go_308 hl (k := 3) rfl (by rw [ey_154]; rfl) (by decide) rfl (fun ls hl => ?_)
                        have ty_154 := add_bd ey_154 b_14 kb_1 (by decide)
                        have b_155 : bd 1 1000000 y_154 := add_rg ty_154 b_14 kb_1 (by decide)
                        refine lv_goto (tgt := 6) hx hb dX1_go_311 (by decide) ?_
                        have hl9 := lv_sub hl [0, 4] (by rfl : lv_pick [(1, .int y_154), (4, .int x_57), (3, .int x_55), (2, .int 1), (0, .ref a0_)] [0, 4] = [(1, .int y_154), (0, .ref a0_)])
                        have g9 := g.sub (fx' := [(1, 0, a0_, .ref q0_), (1, 1, a0_, .ref q1_), (1, 12, a0_, .int y0_), (1, 5, a0_, .int y1_), (7, 1, q0_, .int y2_)]) [4, 5, 6, 7, 8] rfl
                        exact ih6  y_154 (bd_sub b_155 (by decide)) (by have h9_0 := b_155; unfold bd at h9_0; have h9_1 := bv6_1; unfold bd at h9_1; have h9_2 := kb_0; unfold bd at h9_2; have h9_3 := kb_1; unfold bd at h9_3; have h9_4 := kb_1000000; unfold bd at h9_4; have h9_5 := kb_11; unfold bd at h9_5; have h9_6 := kb_16; unfold bd at h9_6; have h9_7 := kb_17; unfold bd at h9_7; have h9_8 := kb_5; unfold bd at h9_8; omega) _ _ _ _ g9 hG_153 hl9
                      · have fc_151 := nle_f c_151
                        have b_156 : bd 0 11 x_57 := ltL fc_151 b_149 bx_150 (by decide)
                        have b_157 : bd 1 12 x_150 := ltR fc_151 b_149 bx_150 (by decide)
                        refine lv_aload_n hx hb dX1_go_178 rfl (lv_at hl 4 rfl) ?_
                        refine g_getk (C := RX1) (T := TX1) (N := 18) hx hb hts (mc_ inX1) hown hK g rfl 1 (by decide) rfl (hts _ (List.mem_cons_of_mem _ t_736)) (fun _ h9 => h9) 7 rfl dX1_go_179 ?_
                        refine g_getr (K := 156) (C := RX9) (T := TX9) (N := 13) hx hb hts (mc_ inX9) hown hK g mq1_ kq1_ (by decide) rfl 9 (by decide) rfl (hts _ (List.mem_cons_of_mem _ t_504)) (fun _ h9 => h9) rfl dX1_go_182 (fun a_158 ma_158 ka_158 g => ?_)
                        refine lv_iload hx hb dX1_go_185 (lv_at hl 0 rfl) ?_
                        refine g_iald hx hb hK g ma_158 ka_158 (by decide) rfl (in_bd b_156 (by decide)) dX1_go_187 (fun x_159 bx_159 cx_159 => ?_)
                        refine lv_goto (tgt := 192) hx hb dX1_go_188 (by decide) ?_
                        have go_ := g
                        refine g_callv (va_runV (As := [.int x_159]) (rest := []) ⟨hx, hb, hml, hown, hts⟩ (r_X1_enter_7 l dC dI L kd tys f H.size g.2.2.2.1 a0_ ma0_ ka0_ x_159 q0_ mq0_ kq0_ (g.fcts [7] rfl)) (cwV 1 hts (gV_ t_1585 t_1587 t_64 t_195 t_1588) rfl rfl rfl (by decide +kernel) ⟨(Nat.le_of_ble_eq_true rfl), (Nat.le_of_ble_eq_true rfl)⟩) (pre3V g hK ma0_ ka0_ (by decide) (q := (RX1, TX1, 18)) rfl) rfl rfl hl.1 rfl (lv_room (Nat.le_of_ble_eq_true rfl)) dX1_go_192 ⟨(Nat.le_of_ble_eq_true rfl), (Nat.le_of_ble_eq_true rfl)⟩) g hK (by decide) (by decide) (fx' := [(9, 9, q1_, .ref a_158), (9, 8, q1_, .int x_150), (7, 5, q0_, .ref a_56), (7, 4, q0_, .ref a_54), (7, 6, q0_, .int x_38), (1, 0, a0_, .ref q0_), (1, 1, a0_, .ref q1_), (1, 12, a0_, .int y0_), (1, 5, a0_, .int y1_), (7, 1, q0_, .int y2_)]) rfl (fun fr_160 H locs hp hMr_160 g => ?_)
                        have hG_161 := cOK.frame hMr_160 go_.2.2.2.1 mq0_ kq0_ (by decide) (by decide) hG_62
                        refine lv_goto (tgt := 308) hx hb dX1_go_195 (by decide) ?_
                        obtain ⟨y_162, ey_162⟩ : ∃ z : Int32, z = v6_1 + 1 := ⟨_, rfl⟩
                        refine lv_iinc (v := y_162) (lv' := [(1, .int y_162), (4, .int x_57), (3, .int x_55), (2, .int 1), (0, .ref a0_)]) hx hb dX1_go_308 hl (k := 3) rfl (by rw [ey_162]; rfl) (by decide) rfl (fun ls hl => ?_)
                        have ty_162 := add_bd ey_162 b_14 kb_1 (by decide)
                        have b_163 : bd 1 1000000 y_162 := add_rg ty_162 b_14 kb_1 (by decide)
                        refine lv_goto (tgt := 6) hx hb dX1_go_311 (by decide) ?_
                        have hl9 := lv_sub hl [0, 4] (by rfl : lv_pick [(1, .int y_162), (4, .int x_57), (3, .int x_55), (2, .int 1), (0, .ref a0_)] [0, 4] = [(1, .int y_162), (0, .ref a0_)])
                        have g9 := g.sub (fx' := [(1, 0, a0_, .ref q0_), (1, 1, a0_, .ref q1_), (1, 12, a0_, .int y0_), (1, 5, a0_, .int y1_), (7, 1, q0_, .int y2_)]) [5, 6, 7, 8, 9] rfl
                        exact ih6  y_162 (bd_sub b_163 (by decide)) (by have h9_0 := b_163; unfold bd at h9_0; have h9_1 := bv6_1; unfold bd at h9_1; have h9_2 := kb_0; unfold bd at h9_2; have h9_3 := kb_1; unfold bd at h9_3; have h9_4 := kb_1000000; unfold bd at h9_4; have h9_5 := kb_11; unfold bd at h9_5; have h9_6 := kb_16; unfold bd at h9_6; have h9_7 := kb_17; unfold bd at h9_7; have h9_8 := kb_5; unfold bd at h9_8; omega) _ _ _ _ g9 hG_161 hl9
                  · have fc_67 := nlt_f c_67
                    have b_164 : bd 12 16 x_55 := leL fc_67 b_66 kb_16 (by decide)
                    refine lv_aload_n hx hb dX1_go_149 rfl (lv_at hl 4 rfl) ?_
                    refine lv_iload_n hx hb dX1_go_150 rfl (lv_at hl 1 rfl) ?_
                    refine lv_iload hx hb dX1_go_151 (lv_at hl 0 rfl) ?_
                    have go_ := g
                    refine g_callv (va_runV (As := [.int x_55, .int x_57]) (rest := []) ⟨hx, hb, hml, hown, hts⟩ (r_X1_act l dC dI L kd tys f H.size g.2.2.2.1 a0_ ma0_ ka0_ x_55 x_57 q0_ mq0_ kq0_ hc_58 (g.fcts [5] rfl)) (cwV 2 hts (gV_ t_1581 t_1583 t_63 t_195 t_1584) rfl rfl rfl (by decide +kernel) ⟨(Nat.le_of_ble_eq_true rfl), (Nat.le_of_ble_eq_true rfl)⟩) (pre3V g hK ma0_ ka0_ (by decide) (q := (RX1, TX1, 18)) rfl) rfl rfl hl.1 rfl (lv_room (Nat.le_of_ble_eq_true rfl)) dX1_go_153 ⟨(Nat.le_of_ble_eq_true rfl), (Nat.le_of_ble_eq_true rfl)⟩) g hK (by decide) (by decide) (fx' := [(7, 5, q0_, .ref a_56), (7, 4, q0_, .ref a_54), (7, 6, q0_, .int x_38), (1, 0, a0_, .ref q0_), (1, 1, a0_, .ref q1_), (1, 12, a0_, .int y0_), (1, 5, a0_, .int y1_), (7, 1, q0_, .int y2_)]) rfl (fun fr_165 H locs hp hMr_165 g => ?_)
                    have hG_166 := cOK.frame hMr_165 go_.2.2.2.1 mq0_ kq0_ (by decide) (by decide) hG_62
                    refine lv_goto (tgt := 308) hx hb dX1_go_156 (by decide) ?_
                    obtain ⟨y_167, ey_167⟩ : ∃ z : Int32, z = v6_1 + 1 := ⟨_, rfl⟩
                    refine lv_iinc (v := y_167) (lv' := [(1, .int y_167), (4, .int x_57), (3, .int x_55), (2, .int 1), (0, .ref a0_)]) hx hb dX1_go_308 hl (k := 3) rfl (by rw [ey_167]; rfl) (by decide) rfl (fun ls hl => ?_)
                    have ty_167 := add_bd ey_167 b_14 kb_1 (by decide)
                    have b_168 : bd 1 1000000 y_167 := add_rg ty_167 b_14 kb_1 (by decide)
                    refine lv_goto (tgt := 6) hx hb dX1_go_311 (by decide) ?_
                    have hl9 := lv_sub hl [0, 4] (by rfl : lv_pick [(1, .int y_167), (4, .int x_57), (3, .int x_55), (2, .int 1), (0, .ref a0_)] [0, 4] = [(1, .int y_167), (0, .ref a0_)])
                    have g9 := g.sub (fx' := [(1, 0, a0_, .ref q0_), (1, 1, a0_, .ref q1_), (1, 12, a0_, .int y0_), (1, 5, a0_, .int y1_), (7, 1, q0_, .int y2_)]) [3, 4, 5, 6, 7] rfl
                    exact ih6  y_167 (bd_sub b_168 (by decide)) (by have h9_0 := b_168; unfold bd at h9_0; have h9_1 := bv6_1; unfold bd at h9_1; have h9_2 := kb_0; unfold bd at h9_2; have h9_3 := kb_1; unfold bd at h9_3; have h9_4 := kb_1000000; unfold bd at h9_4; have h9_5 := kb_11; unfold bd at h9_5; have h9_6 := kb_16; unfold bd at h9_6; have h9_7 := kb_5; unfold bd at h9_7; omega) _ _ _ _ g9 hG_166 hl9
                · have fc_65 := nlt_f c_65
                  have b_169 : bd 6 11 x_55 := leL fc_65 b_64 kb_11 (by decide)
                  refine lv_aload_n hx hb dX1_go_125 rfl (lv_at hl 4 rfl) ?_
                  refine lv_aload_n hx hb dX1_go_126 rfl (lv_at hl 4 rfl) ?_
                  refine lv_iload_n hx hb dX1_go_127 rfl (lv_at hl 1 rfl) ?_
                  refine lv_iload hx hb dX1_go_128 (lv_at hl 0 rfl) ?_
                  refine lv_aload_n hx hb dX1_go_130 rfl (lv_at hl 4 rfl) ?_
                  have go_ := g
                  refine g_calli (va_runV (As := []) (rest := [.int x_57, .int x_55, .ref a0_, .ref a0_]) ⟨hx, hb, hml, hown, hts⟩ (r_X1_pop l dC dI L kd tys f H.size g.2.2.2.1 a0_ ma0_ ka0_) (cwV 0 hts (gV_ t_1572 t_1574 t_61 t_195 t_1575) rfl rfl rfl (by decide +kernel) ⟨(Nat.le_of_ble_eq_true rfl), (Nat.le_of_ble_eq_true rfl)⟩) (pre3V g hK ma0_ ka0_ (by decide) (q := (RX1, TX1, 18)) rfl) rfl rfl hl.1 rfl (lv_room (Nat.le_of_ble_eq_true rfl)) dX1_go_131 ⟨(Nat.le_of_ble_eq_true rfl), (Nat.le_of_ble_eq_true rfl)⟩) g hK (by decide) (by decide) (fx' := [(1, 13, a0_, .int y_59), (7, 5, q0_, .ref a_56), (7, 4, q0_, .ref a_54), (7, 6, q0_, .int x_38), (1, 15, a0_, .int x_15), (1, 0, a0_, .ref q0_), (1, 1, a0_, .ref q1_), (1, 12, a0_, .int y0_), (1, 5, a0_, .int y1_), (7, 1, q0_, .int y2_)]) rfl (fun r_170 fr_170 H locs hp hMr_170 g => ?_)
                  obtain ⟨x_171, h_172, hF_173⟩ := hp
                  have hG_174 := cOK.frame hMr_170 go_.2.2.2.1 mq0_ kq0_ (by decide) (by decide) hG_62
                  have g := g.more hF_173
                  have go_ := g
                  refine g_calli (va_runV (As := [.int x_55, .int x_57, .int r_170]) (rest := [.ref a0_]) ⟨hx, hb, hml, hown, hts⟩ (r_X1_turn_15 l dC dI L kd tys fr_170 H.size g.2.2.2.1 a0_ ma0_ ka0_ x_55 b_169 x_57 r_170 x_171 h_172 y_59 b_60 x_15 b_20 y0_ by0_ y1_ by1_ hc_58 (g.fcts [0, 1, 5, 8, 9] rfl)) (cwV 3 hts (gV_ t_1576 t_1578 t_62 t_195 t_1579) rfl rfl rfl (by decide +kernel) ⟨(Nat.le_of_ble_eq_true rfl), (Nat.le_of_ble_eq_true rfl)⟩) (pre3V g hK ma0_ ka0_ (by decide) (q := (RX1, TX1, 18)) rfl) rfl rfl hl.1 rfl (lv_room (Nat.le_of_ble_eq_true rfl)) dX1_go_134 ⟨(Nat.le_of_ble_eq_true rfl), (Nat.le_of_ble_eq_true rfl)⟩) g hK (by decide) (by decide) (fx' := [(1, 8, a0_, .int x_171), (1, 13, a0_, .int y_59), (7, 5, q0_, .ref a_56), (7, 4, q0_, .ref a_54), (7, 6, q0_, .int x_38), (1, 0, a0_, .ref q0_), (1, 1, a0_, .ref q1_), (1, 12, a0_, .int y0_), (1, 5, a0_, .int y1_), (7, 1, q0_, .int y2_)]) rfl (fun r_175 fr_175 H locs hp hMr_175 g => ?_)
                  obtain ⟨x_176, h_177, hF_178⟩ := hp
                  have hG_179 := cOK.frame hMr_175 go_.2.2.2.1 mq0_ kq0_ (by decide) (by decide) hG_174
                  have g := g.more hF_178
                  have go_ := g
                  refine g_callv (va_runV (As := [.int r_175]) (rest := []) ⟨hx, hb, hml, hown, hts⟩ (r_X1_push l dC dI L kd tys fr_175 H.size g.2.2.2.1 a0_ ma0_ ka0_ r_175) (cwV 1 hts (gV_ t_1568 t_1570 t_60 t_195 t_1571) rfl rfl rfl (by decide +kernel) ⟨(Nat.le_of_ble_eq_true rfl), (Nat.le_of_ble_eq_true rfl)⟩) (pre3V g hK ma0_ ka0_ (by decide) (q := (RX1, TX1, 18)) rfl) rfl rfl hl.1 rfl (lv_room (Nat.le_of_ble_eq_true rfl)) dX1_go_137 ⟨(Nat.le_of_ble_eq_true rfl), (Nat.le_of_ble_eq_true rfl)⟩) g hK (by decide) (by decide) (fx' := [(1, 15, a0_, .int x_176), (1, 13, a0_, .int y_59), (7, 5, q0_, .ref a_56), (7, 4, q0_, .ref a_54), (7, 6, q0_, .int x_38), (1, 0, a0_, .ref q0_), (1, 1, a0_, .ref q1_), (1, 12, a0_, .int y0_), (1, 5, a0_, .int y1_), (7, 1, q0_, .int y2_)]) rfl (fun fr_180 H locs hp hMr_180 g => ?_)
                  obtain ⟨x_181, h_182, hF_183⟩ := hp
                  have hG_184 := cOK.frame hMr_180 go_.2.2.2.1 mq0_ kq0_ (by decide) (by decide) hG_179
                  have g := g.more hF_183
                  refine lv_goto (tgt := 308) hx hb dX1_go_140 (by decide) ?_
                  obtain ⟨y_185, ey_185⟩ : ∃ z : Int32, z = v6_1 + 1 := ⟨_, rfl⟩
                  refine lv_iinc (v := y_185) (lv' := [(1, .int y_185), (4, .int x_57), (3, .int x_55), (2, .int 1), (0, .ref a0_)]) hx hb dX1_go_308 hl (k := 3) rfl (by rw [ey_185]; rfl) (by decide) rfl (fun ls hl => ?_)
                  have ty_185 := add_bd ey_185 b_14 kb_1 (by decide)
                  have b_186 : bd 1 1000000 y_185 := add_rg ty_185 b_14 kb_1 (by decide)
                  refine lv_goto (tgt := 6) hx hb dX1_go_311 (by decide) ?_
                  have hl9 := lv_sub hl [0, 4] (by rfl : lv_pick [(1, .int y_185), (4, .int x_57), (3, .int x_55), (2, .int 1), (0, .ref a0_)] [0, 4] = [(1, .int y_185), (0, .ref a0_)])
                  have g9 := g.sub (fx' := [(1, 0, a0_, .ref q0_), (1, 1, a0_, .ref q1_), (1, 12, a0_, .int y0_), (1, 5, a0_, .int y1_), (7, 1, q0_, .int y2_)]) [6, 7, 8, 9, 10] rfl
                  exact ih6  y_185 (bd_sub b_186 (by decide)) (by have h9_0 := b_186; unfold bd at h9_0; have h9_1 := bv6_1; unfold bd at h9_1; have h9_2 := h_177; unfold bd at h9_2; have h9_3 := h_182; unfold bd at h9_3; have h9_4 := kb_0; unfold bd at h9_4; have h9_5 := kb_1; unfold bd at h9_5; have h9_6 := kb_1000000; unfold bd at h9_6; have h9_7 := kb_11; unfold bd at h9_7; have h9_8 := kb_5; unfold bd at h9_8; omega) _ _ _ _ g9 hG_184 hl9
              · have fc_63 := nlt_f c_63
                have b_187 : bd (-2147483648) 5 x_55 := leL fc_63 (bdT x_55) kb_5 (by decide)
                refine lv_aload_n hx hb dX1_go_105 rfl (lv_at hl 4 rfl) ?_
                refine lv_aload_n hx hb dX1_go_106 rfl (lv_at hl 4 rfl) ?_
                refine lv_iload_n hx hb dX1_go_107 rfl (lv_at hl 1 rfl) ?_
                refine lv_iload hx hb dX1_go_108 (lv_at hl 0 rfl) ?_
                have go_ := g
                refine g_calli (va_runV (As := [.int x_55, .int x_57]) (rest := [.ref a0_]) ⟨hx, hb, hml, hown, hts⟩ (r_X1_fetch l dC dI L kd tys f H.size g.2.2.2.1 a0_ ma0_ ka0_ x_55 x_57 hc_58) (cwV 2 hts (gV_ t_1564 t_1566 t_59 t_195 t_1567) rfl rfl rfl (by decide +kernel) ⟨(Nat.le_of_ble_eq_true rfl), (Nat.le_of_ble_eq_true rfl)⟩) (pre3V g hK ma0_ ka0_ (by decide) (q := (RX1, TX1, 18)) rfl) rfl rfl hl.1 rfl (lv_room (Nat.le_of_ble_eq_true rfl)) dX1_go_110 ⟨(Nat.le_of_ble_eq_true rfl), (Nat.le_of_ble_eq_true rfl)⟩) g hK (by decide) (by decide) (fx' := [(1, 13, a0_, .int y_59), (7, 5, q0_, .ref a_56), (7, 4, q0_, .ref a_54), (7, 6, q0_, .int x_38), (1, 15, a0_, .int x_15), (1, 0, a0_, .ref q0_), (1, 1, a0_, .ref q1_), (1, 12, a0_, .int y0_), (1, 5, a0_, .int y1_), (7, 1, q0_, .int y2_)]) rfl (fun r_188 fr_188 H locs hp hMr_188 g => ?_)
                have hG_189 := cOK.frame hMr_188 go_.2.2.2.1 mq0_ kq0_ (by decide) (by decide) hG_62
                have go_ := g
                refine g_callv (va_runV (As := [.int r_188]) (rest := []) ⟨hx, hb, hml, hown, hts⟩ (r_X1_push l dC dI L kd tys fr_188 H.size g.2.2.2.1 a0_ ma0_ ka0_ r_188) (cwV 1 hts (gV_ t_1568 t_1570 t_60 t_195 t_1571) rfl rfl rfl (by decide +kernel) ⟨(Nat.le_of_ble_eq_true rfl), (Nat.le_of_ble_eq_true rfl)⟩) (pre3V g hK ma0_ ka0_ (by decide) (q := (RX1, TX1, 18)) rfl) rfl rfl hl.1 rfl (lv_room (Nat.le_of_ble_eq_true rfl)) dX1_go_113 ⟨(Nat.le_of_ble_eq_true rfl), (Nat.le_of_ble_eq_true rfl)⟩) g hK (by decide) (by decide) (fx' := [(1, 13, a0_, .int y_59), (7, 5, q0_, .ref a_56), (7, 4, q0_, .ref a_54), (7, 6, q0_, .int x_38), (1, 15, a0_, .int x_15), (1, 0, a0_, .ref q0_), (1, 1, a0_, .ref q1_), (1, 12, a0_, .int y0_), (1, 5, a0_, .int y1_), (7, 1, q0_, .int y2_)]) rfl (fun fr_190 H locs hp hMr_190 g => ?_)
                obtain ⟨x_191, h_192, hF_193⟩ := hp
                have hG_194 := cOK.frame hMr_190 go_.2.2.2.1 mq0_ kq0_ (by decide) (by decide) hG_189
                have g := g.more hF_193
                refine lv_goto (tgt := 308) hx hb dX1_go_116 (by decide) ?_
                obtain ⟨y_195, ey_195⟩ : ∃ z : Int32, z = v6_1 + 1 := ⟨_, rfl⟩
                refine lv_iinc (v := y_195) (lv' := [(1, .int y_195), (4, .int x_57), (3, .int x_55), (2, .int 1), (0, .ref a0_)]) hx hb dX1_go_308 hl (k := 3) rfl (by rw [ey_195]; rfl) (by decide) rfl (fun ls hl => ?_)
                have ty_195 := add_bd ey_195 b_14 kb_1 (by decide)
                have b_196 : bd 1 1000000 y_195 := add_rg ty_195 b_14 kb_1 (by decide)
                refine lv_goto (tgt := 6) hx hb dX1_go_311 (by decide) ?_
                have hl9 := lv_sub hl [0, 4] (by rfl : lv_pick [(1, .int y_195), (4, .int x_57), (3, .int x_55), (2, .int 1), (0, .ref a0_)] [0, 4] = [(1, .int y_195), (0, .ref a0_)])
                have g9 := g.sub (fx' := [(1, 0, a0_, .ref q0_), (1, 1, a0_, .ref q1_), (1, 12, a0_, .int y0_), (1, 5, a0_, .int y1_), (7, 1, q0_, .int y2_)]) [6, 7, 8, 9, 10] rfl
                exact ih6  y_195 (bd_sub b_196 (by decide)) (by have h9_0 := b_196; unfold bd at h9_0; have h9_1 := b_20; unfold bd at h9_1; have h9_2 := bv6_1; unfold bd at h9_2; have h9_3 := h_192; unfold bd at h9_3; have h9_4 := kb_0; unfold bd at h9_4; have h9_5 := kb_1; unfold bd at h9_5; have h9_6 := kb_1000000; unfold bd at h9_6; have h9_7 := kb_5; unfold bd at h9_7; omega) _ _ _ _ g9 hG_194 hl9
  have kb_0 : bd 0 0 (0 : Int32) := ⟨by decide, by decide⟩
  have hl9 := lv_sub hl [0, 1] (by rfl : lv_pick [(1, .int 0), (0, .ref a0_)] [0, 1] = [(1, .int 0), (0, .ref a0_)])
  have g9 := g.sub (fx' := [(1, 0, a0_, .ref q0_), (1, 1, a0_, .ref q1_), (1, 12, a0_, .int y0_), (1, 5, a0_, .int y1_), (7, 1, q0_, .int y2_)]) [5, 6, 7, 8, 9] rfl
  exact loop_4 (2000003) 0 (bd_sub kb_0 (by decide)) (by have h9_0 := by0_; unfold bd at h9_0; have h9_1 := kb_0; unfold bd at h9_1; omega) _ _ _ _ g9 hG_3 hl9
set_option maxHeartbeats 4000000 in
set_option maxRecDepth 100000 in
theorem r_X10_upwards (l : Launch) (dC : Nat → ClassId) (dI : Nat → Nat → Nat) (L : List Nat) (kd : Nat → Nat) (tys : List (ClassId × FieldType)) (f0 : Nat → va_E) (sz : Nat) (hWT : WT L kd tys f0) (a0_ : Nat) (ma0_ : a0_ ∈ L) (ka0_ : kd a0_ = 10) (x1_ : Int32) : Met l yX10_upwards (.code yX10_upwards cX10_upwards 2 (some .int) :: lw_g) ({ frames := 0, cells := 0, slots := 0, locals := 0 }) (va_Pc [.ref a0_, .int x1_] (P3 (dC, dI) L tys f0 sz)) (va_Qi (fun (r : Int32) (f : Nat → va_E) => (bd (-1) 95 r ∧ True)) (Q3 (dC, dI) L kd tys [] [] f0 sz) (pA L sz)) 0 0 (pA L sz) := by
  refine Met.ofW (cc := cX10_upwards) (maxL := 2) (ret := (some .int)) (by decide) rfl ?_
  intro p e s m args below meth c s₁ B hml hv
  obtain ⟨rfl, hsz, hP, hK, hD0⟩ := hv
  have hx := B.exec
  have hb := B.bytes
  have hr := B.returns
  have hts := atoms_spec (ws := (.code yX10_upwards cX10_upwards 2 (some .int) :: lw_g)) B.pre
  have hown : s.vm.findClass RX10 = some m.cls := findClass_of_methodNamed B.named
  have hlocks := B.notSynchronized
  subst hsz
  have g : G3 (dC, dI) L kd tys s f0 [] [] f0 s.heap [] [] := G3.start hP hD0 hWT Fs.nil
  have hl := lv_entry ([.ref a0_, .int x1_]) (n := 2) (Nat.le_of_ble_eq_true rfl)
  rw [lg_entry_eq]
  generalize (lg_sl ([.ref a0_, .int x1_]) ++ List.replicate (2 - (lg_sl ([.ref a0_, .int x1_])).length) Slot.unset).toArray = ls at hl ⊢
  have hl : lv_has ls 2 [(0, .ref a0_), (1, .int x1_)] := hl
  refine W_q (fun Q hQ => ?_)
  refine lv_iload_n hx hb dX10_upwards_0 rfl (lv_at hl 1 rfl) ?_
  have kb_0 : bd 0 0 (0 : Int32) := ⟨by decide, by decide⟩
  refine lv_if_lt (tgt := 30) hx hb dX10_upwards_1 (by decide) (fun c_1 => ?_) (fun c_1 => ?_)
  · have fc_1 := lt_f c_1
    have b_2 : bd (-2147483648) (-1) x1_ := ltL fc_1 (bdT x1_) kb_0 (by decide)
    refine lv_iconst (v := (-1)) hx hb dX10_upwards_30 (by decide) ?_
    have kb_m1 : bd (-1) (-1) ((-1) : Int32) := ⟨by decide, by decide⟩
    subst hQ
    exact W.iret (v := (-1)) hx hb hr (fun t ht hW => ⟨⟨_, _, rfl, ⟨(bd_sub kb_m1 (by decide)), trivial⟩, q3_of g hK ht hW⟩, g.2.2.1.F ht⟩) g.2.2.1.2.2 dX10_upwards_31
  · have fc_1 := nlt_f c_1
    have b_3 : bd 0 2147483647 x1_ := leR fc_1 kb_0 (bdT x1_) (by decide)
    refine lv_iload_n hx hb dX10_upwards_4 rfl (lv_at hl 1 rfl) ?_
    refine lv_aload_n hx hb dX10_upwards_5 rfl (lv_at hl 0 rfl) ?_
    refine g_getr (K := 7) (C := RX10) (T := TX10) (N := 10) hx hb hts (mc_ inX10) hown hK g ma0_ ka0_ (by decide) rfl 0 (by decide) rfl (hts _ (List.mem_cons_of_mem _ t_912)) (fun _ h9 => h9) rfl dX10_upwards_6 (fun a_4 ma_4 ka_4 g => ?_)
    refine g_geti (C := RX7) (T := TX7) (N := 19) hx hb hts (mc_ inX7) hown hK g ma_4 ka_4 (by decide) rfl 3 (by decide) rfl (hts _ (List.mem_cons_of_mem _ t_639)) (fun _ h9 => h9) rfl dX10_upwards_9 (fun x_5 bx_5 g => ?_)
    refine lv_icmp_ge (tgt := 30) hx hb dX10_upwards_12 (by decide) (fun c_6 => ?_) (fun c_6 => ?_)
    · have fc_6 := le_f c_6
      refine lv_iconst (v := (-1)) hx hb dX10_upwards_30 (by decide) ?_
      have kb_m1 : bd (-1) (-1) ((-1) : Int32) := ⟨by decide, by decide⟩
      subst hQ
      exact W.iret (v := (-1)) hx hb hr (fun t ht hW => ⟨⟨_, _, rfl, ⟨(bd_sub kb_m1 (by decide)), trivial⟩, q3_of g hK ht hW⟩, g.2.2.1.F ht⟩) g.2.2.1.2.2 dX10_upwards_31
    · have fc_6 := nle_f c_6
      have b_7 : bd 0 95 x1_ := ltL fc_6 b_3 bx_5 (by decide)
      have b_8 : bd 1 96 x_5 := ltR fc_6 b_3 bx_5 (by decide)
      refine lv_aload_n hx hb dX10_upwards_15 rfl (lv_at hl 0 rfl) ?_
      refine g_getk (C := RX10) (T := TX10) (N := 10) hx hb hts (mc_ inX10) hown hK g rfl 0 (by decide) rfl (hts _ (List.mem_cons_of_mem _ t_912)) (fun _ h9 => h9) 1 rfl dX10_upwards_16 ?_
      refine g_getr (K := 137) (C := RX7) (T := TX7) (N := 19) hx hb hts (mc_ inX7) hown hK g ma_4 ka_4 (by decide) rfl 2 (by decide) rfl (hts _ (List.mem_cons_of_mem _ t_634)) (fun _ h9 => h9) rfl dX10_upwards_19 (fun a_9 ma_9 ka_9 g => ?_)
      refine lv_iload_n hx hb dX10_upwards_22 rfl (lv_at hl 1 rfl) ?_
      refine g_aald hx hb hK g ma_9 ka_9 (by decide) rfl (by decide) (in_bd b_7 (by decide)) dX10_upwards_23 (fun a_10 ma_10 ua_10 wa_10 => ?_)
      have ka_10 : kd a_10 = 6 := by omega
      refine g_geti (C := RX6) (T := TX6) (N := 13) hx hb hts (mc_ inX6) hown hK g ma_10 ka_10 (by decide) rfl 7 (by decide) rfl (hts _ (List.mem_cons_of_mem _ t_581)) (fun _ h9 => h9) rfl dX10_upwards_24 (fun x_11 bx_11 g => ?_)
      refine lv_goto (tgt := 31) hx hb dX10_upwards_27 (by decide) ?_
      subst hQ
      exact W.iret (v := x_11) hx hb hr (fun t ht hW => ⟨⟨_, _, rfl, ⟨bx_11, trivial⟩, q3_of g hK ht hW⟩, g.2.2.1.F ht⟩) g.2.2.1.2.2 dX10_upwards_31
set_option maxHeartbeats 4000000 in
set_option maxRecDepth 100000 in
theorem r_X1_readyToCall (l : Launch) (dC : Nat → ClassId) (dI : Nat → Nat → Nat) (L : List Nat) (kd : Nat → Nat) (tys : List (ClassId × FieldType)) (f0 : Nat → va_E) (sz : Nat) (hWT : WT L kd tys f0) (a0_ : Nat) (ma0_ : a0_ ∈ L) (ka0_ : kd a0_ = 1) (a1_ : Nat) (ma1_ : a1_ ∈ L) (ka1_ : kd a1_ = 6) : Met l yX1_readyToCall (.code yX1_readyToCall cX1_readyToCall 2 none :: lw_g) ({ frames := 0, cells := 0, slots := 0, locals := 0 }) (va_Pc [.ref a0_, .ref a1_] (P3 (dC, dI) L tys f0 sz)) (va_Qv (fun (f : Nat → va_E) => (Fs L kd f [(1, 12, a0_, .int 1), (1, 6, a0_, .int 0), (1, 5, a0_, .int 0)])) (Q3 (dC, dI) L kd tys [(1, 5), (1, 6), (1, 12), (1, 13)] [] f0 sz) (pA L sz)) 0 0 (pA L sz) := by
  refine Met.ofW (cc := cX1_readyToCall) (maxL := 2) (ret := none) (by decide) rfl ?_
  intro p e s m args below meth c s₁ B hml hv
  obtain ⟨rfl, hsz, hP, hK, hD0⟩ := hv
  have hx := B.exec
  have hb := B.bytes
  have hr := B.returns
  have hts := atoms_spec (ws := (.code yX1_readyToCall cX1_readyToCall 2 none :: lw_g)) B.pre
  have hown : s.vm.findClass RX1 = some m.cls := findClass_of_methodNamed B.named
  have hlocks := B.notSynchronized
  subst hsz
  have g : G3 (dC, dI) L kd tys s f0 [(1, 5), (1, 6), (1, 12), (1, 13)] [] f0 s.heap [] [] := G3.start hP hD0 hWT Fs.nil
  have hl := lv_entry ([.ref a0_, .ref a1_]) (n := 2) (Nat.le_of_ble_eq_true rfl)
  rw [lg_entry_eq]
  generalize (lg_sl ([.ref a0_, .ref a1_]) ++ List.replicate (2 - (lg_sl ([.ref a0_, .ref a1_])).length) Slot.unset).toArray = ls at hl ⊢
  have hl : lv_has ls 2 [(0, .ref a0_), (1, .ref a1_)] := hl
  refine W_q (fun Q hQ => ?_)
  refine lv_aload_n hx hb dX1_readyToCall_0 rfl (lv_at hl 0 rfl) ?_
  refine lv_iconst (v := 0) hx hb dX1_readyToCall_1 (by decide) ?_
  have kb_0 : bd 0 0 (0 : Int32) := ⟨by decide, by decide⟩
  refine g_put (C := RX1) (T := TX1) (N := 18) hx hb hts (mc_ inX1) tyX1 tyX1_ok nmX1 hown hK g ma0_ ka0_ (by decide) rfl 5 (by decide) (hts _ (List.mem_cons_of_mem _ t_740)) (fun _ h9 => h9) rfl rfl (okV_i (bd_sub kb_0 (by decide))) rfl rfl (by decide) (Or.inr (Or.inl (by decide))) (fx' := []) rfl dX1_readyToCall_2 (fun f H locs hM_1 g => ?_)
  refine lv_aload_n hx hb dX1_readyToCall_5 rfl (lv_at hl 0 rfl) ?_
  refine lv_iconst (v := 0) hx hb dX1_readyToCall_6 (by decide) ?_
  refine g_put (C := RX1) (T := TX1) (N := 18) hx hb hts (mc_ inX1) tyX1 tyX1_ok nmX1 hown hK g ma0_ ka0_ (by decide) rfl 6 (by decide) (hts _ (List.mem_cons_of_mem _ t_741)) (fun _ h9 => h9) rfl rfl (okV_i (bd_sub kb_0 (by decide))) rfl rfl (by decide) (Or.inr (Or.inl (by decide))) (fx' := [(1, 5, a0_, .int 0)]) rfl dX1_readyToCall_7 (fun f H locs hM_2 g => ?_)
  refine lv_aload_n hx hb dX1_readyToCall_10 rfl (lv_at hl 0 rfl) ?_
  refine lv_iconst (v := 1) hx hb dX1_readyToCall_11 (by decide) ?_
  have kb_1 : bd 1 1 (1 : Int32) := ⟨by decide, by decide⟩
  refine g_put (C := RX1) (T := TX1) (N := 18) hx hb hts (mc_ inX1) tyX1 tyX1_ok nmX1 hown hK g ma0_ ka0_ (by decide) rfl 12 (by decide) (hts _ (List.mem_cons_of_mem _ t_747)) (fun _ h9 => h9) rfl rfl (okV_i (bd_sub kb_1 (by decide))) rfl rfl (by decide) (Or.inr (Or.inl (by decide))) (fx' := [(1, 6, a0_, .int 0), (1, 5, a0_, .int 0)]) rfl dX1_readyToCall_12 (fun f H locs hM_3 g => ?_)
  refine lv_aload_n hx hb dX1_readyToCall_15 rfl (lv_at hl 0 rfl) ?_
  refine lv_aload_n hx hb dX1_readyToCall_16 rfl (lv_at hl 1 rfl) ?_
  refine g_geti (C := RX6) (T := TX6) (N := 13) hx hb hts (mc_ inX6) hown hK g ma1_ ka1_ (by decide) rfl 8 (by decide) rfl (hts _ (List.mem_cons_of_mem _ t_582)) (fun _ h9 => h9) rfl dX1_readyToCall_17 (fun x_4 bx_4 g => ?_)
  refine g_put (C := RX1) (T := TX1) (N := 18) hx hb hts (mc_ inX1) tyX1 tyX1_ok nmX1 hown hK g ma0_ ka0_ (by decide) rfl 13 (by decide) (hts _ (List.mem_cons_of_mem _ t_748)) (fun _ h9 => h9) rfl rfl (okV_i (bdT x_4)) rfl rfl (by decide) (Or.inr (Or.inl (by decide))) (fx' := [(6, 8, a1_, .int x_4), (1, 12, a0_, .int 1), (1, 6, a0_, .int 0), (1, 5, a0_, .int 0)]) rfl dX1_readyToCall_20 (fun f H locs hM_5 g => ?_)
  subst hQ
  exact W.vret hx hb hr (fun t ht hW => ⟨⟨_, rfl, (g.fcts [2, 3, 4] rfl), q3_of g hK ht hW⟩, g.2.2.1.F ht⟩) g.2.2.1.2.2 dX1_readyToCall_23
set_option maxHeartbeats 4000000 in
set_option maxRecDepth 100000 in
theorem r_X1_begin_3 (l : Launch) (dC : Nat → ClassId) (dI : Nat → Nat → Nat) (L : List Nat) (kd : Nat → Nat) (tys : List (ClassId × FieldType)) (f0 : Nat → va_E) (sz : Nat) (hWT : WT L kd tys f0) (a0_ : Nat) (ma0_ : a0_ ∈ L) (ka0_ : kd a0_ = 1) (y0_ : Int32) (by0_ : bd 1 1 y0_) (hfx : Fs L kd f0 [(1, 12, a0_, .int y0_)]) : Met l yX1_begin (.code yX1_begin cX1_begin 2 none :: lw_g) ({ frames := 0, cells := 0, slots := 0, locals := 0 }) (va_Pc [.ref a0_] (P3 (dC, dI) L tys f0 sz)) (va_Qv (fun (f : Nat → va_E) => (Fs L kd f [(1, 16, a0_, .int 0), (1, 15, a0_, .int 0), (1, 14, a0_, .int 0), (1, 8, a0_, .int 0), (1, 11, a0_, .int y0_)])) (Q3 (dC, dI) L kd tys [(1, 8), (1, 11), (1, 14), (1, 15), (1, 16)] [116] f0 sz) (pA L sz)) 0 0 (pA L sz) := by
  refine Met.ofW (cc := cX1_begin) (maxL := 2) (ret := none) (by decide) rfl ?_
  intro p e s m args below meth c s₁ B hml hv
  obtain ⟨rfl, hsz, hP, hK, hD0⟩ := hv
  have hx := B.exec
  have hb := B.bytes
  have hr := B.returns
  have hts := atoms_spec (ws := (.code yX1_begin cX1_begin 2 none :: lw_g)) B.pre
  have hown : s.vm.findClass RX1 = some m.cls := findClass_of_methodNamed B.named
  have hlocks := B.notSynchronized
  subst hsz
  have g : G3 (dC, dI) L kd tys s f0 [(1, 8), (1, 11), (1, 14), (1, 15), (1, 16)] [116] f0 s.heap [] [(1, 12, a0_, .int y0_)] := G3.start hP hD0 hWT hfx
  have hl := lv_entry ([.ref a0_]) (n := 2) (Nat.le_of_ble_eq_true rfl)
  rw [lg_entry_eq]
  generalize (lg_sl ([.ref a0_]) ++ List.replicate (2 - (lg_sl ([.ref a0_])).length) Slot.unset).toArray = ls at hl ⊢
  have hl : lv_has ls 2 [(0, .ref a0_)] := hl
  refine W_q (fun Q hQ => ?_)
  refine lv_aload_n hx hb dX1_begin_0 rfl (lv_at hl 0 rfl) ?_
  refine lv_aload_n hx hb dX1_begin_1 rfl (lv_at hl 0 rfl) ?_
  refine g_getk (C := RX1) (T := TX1) (N := 18) hx hb hts (mc_ inX1) hown hK g rfl 12 (by decide) rfl (hts _ (List.mem_cons_of_mem _ t_747)) (fun _ h9 => h9) 0 rfl dX1_begin_2 ?_
  refine g_put (C := RX1) (T := TX1) (N := 18) hx hb hts (mc_ inX1) tyX1 tyX1_ok nmX1 hown hK g ma0_ ka0_ (by decide) rfl 11 (by decide) (hts _ (List.mem_cons_of_mem _ t_746)) (fun _ h9 => h9) rfl rfl (okV_i (bd_sub by0_ (by decide))) rfl rfl (by decide) (Or.inr (Or.inl (by decide))) (fx' := [(1, 12, a0_, .int y0_)]) rfl dX1_begin_5 (fun f H locs hM_1 g => ?_)
  refine lv_aload_n hx hb dX1_begin_8 rfl (lv_at hl 0 rfl) ?_
  refine lv_iconst (v := 0) hx hb dX1_begin_9 (by decide) ?_
  have kb_0 : bd 0 0 (0 : Int32) := ⟨by decide, by decide⟩
  refine g_put (C := RX1) (T := TX1) (N := 18) hx hb hts (mc_ inX1) tyX1 tyX1_ok nmX1 hown hK g ma0_ ka0_ (by decide) rfl 8 (by decide) (hts _ (List.mem_cons_of_mem _ t_743)) (fun _ h9 => h9) rfl rfl (okV_i (bd_sub kb_0 (by decide))) rfl rfl (by decide) (Or.inr (Or.inl (by decide))) (fx' := [(1, 11, a0_, .int y0_), (1, 12, a0_, .int y0_)]) rfl dX1_begin_10 (fun f H locs hM_2 g => ?_)
  refine lv_aload_n hx hb dX1_begin_13 rfl (lv_at hl 0 rfl) ?_
  refine lv_iconst (v := 0) hx hb dX1_begin_14 (by decide) ?_
  refine g_put (C := RX1) (T := TX1) (N := 18) hx hb hts (mc_ inX1) tyX1 tyX1_ok nmX1 hown hK g ma0_ ka0_ (by decide) rfl 14 (by decide) (hts _ (List.mem_cons_of_mem _ t_749)) (fun _ h9 => h9) rfl rfl (okV_i (bd_sub kb_0 (by decide))) rfl rfl (by decide) (Or.inr (Or.inl (by decide))) (fx' := [(1, 8, a0_, .int 0), (1, 11, a0_, .int y0_), (1, 12, a0_, .int y0_)]) rfl dX1_begin_15 (fun f H locs hM_3 g => ?_)
  refine lv_aload_n hx hb dX1_begin_18 rfl (lv_at hl 0 rfl) ?_
  refine lv_iconst (v := 0) hx hb dX1_begin_19 (by decide) ?_
  refine g_put (C := RX1) (T := TX1) (N := 18) hx hb hts (mc_ inX1) tyX1 tyX1_ok nmX1 hown hK g ma0_ ka0_ (by decide) rfl 15 (by decide) (hts _ (List.mem_cons_of_mem _ t_750)) (fun _ h9 => h9) rfl rfl (okV_i (bd_sub kb_0 (by decide))) rfl rfl (by decide) (Or.inr (Or.inl (by decide))) (fx' := [(1, 14, a0_, .int 0), (1, 8, a0_, .int 0), (1, 11, a0_, .int y0_), (1, 12, a0_, .int y0_)]) rfl dX1_begin_20 (fun f H locs hM_4 g => ?_)
  refine lv_aload_n hx hb dX1_begin_23 rfl (lv_at hl 0 rfl) ?_
  refine lv_iconst (v := 0) hx hb dX1_begin_24 (by decide) ?_
  refine g_put (C := RX1) (T := TX1) (N := 18) hx hb hts (mc_ inX1) tyX1 tyX1_ok nmX1 hown hK g ma0_ ka0_ (by decide) rfl 16 (by decide) (hts _ (List.mem_cons_of_mem _ t_752)) (fun _ h9 => h9) rfl rfl (okV_i (bd_sub kb_0 (by decide))) rfl rfl (by decide) (Or.inr (Or.inl (by decide))) (fx' := [(1, 15, a0_, .int 0), (1, 14, a0_, .int 0), (1, 8, a0_, .int 0), (1, 11, a0_, .int y0_), (1, 12, a0_, .int y0_)]) rfl dX1_begin_25 (fun f H locs hM_5 g => ?_)
  refine lv_iconst (v := 0) hx hb dX1_begin_28 (by decide) ?_
  refine lv_istore_n (lv' := [(1, .int 0), (0, .ref a0_)]) hx hb dX1_begin_29 rfl hl (by decide) rfl (fun ls hl => ?_)
  have loop_6 : ∀ (n : Nat) (v30_1 : Int32), bd 0 3 v30_1 → (3 - v30_1.toInt < (n : Int)) → ∀ (f : Nat → va_E) (H : Heap) (locs : List Loc) (ls : Array Slot), G3 (dC, dI) L kd tys s f0 [(1, 8), (1, 11), (1, 14), (1, 15), (1, 16)] [116] f H locs [(1, 16, a0_, .int 0), (1, 15, a0_, .int 0), (1, 14, a0_, .int 0), (1, 8, a0_, .int 0), (1, 11, a0_, .int y0_), (1, 12, a0_, .int y0_)] → lv_has ls 2 [(1, .int v30_1), (0, .ref a0_)] → W p l e ({ frames := 0, cells := 0, slots := 0, locals := 0 } : Room) s m [.ref a0_].toArray below meth c H locs 0 0 Q (F0 m 30 ls []) := by
    intro n30
    induction n30 with
    | zero =>
      intro v30_1 bv30_1 hm30 f H locs ls g  hl
      exact absurd hm30 (by have h9_v30_1 := bv30_1; unfold bd at h9_v30_1; omega)
    | succ n30 ih30 =>
      intro v30_1 bv30_1 hm30 f H locs ls g  hl
      refine lv_iload_n hx hb dX1_begin_30 rfl (lv_at hl 0 rfl) ?_
      refine lv_iconst (v := 3) hx hb dX1_begin_31 (by decide) ?_
      have kb_3 : bd 3 3 (3 : Int32) := ⟨by decide, by decide⟩
      refine lv_icmp_ge (tgt := 70) hx hb dX1_begin_32 (by decide) (fun c_7 => ?_) (fun c_7 => ?_)
      · have fc_7 := le_f c_7
        have b_8 : bd 3 3 v30_1 := leR fc_7 kb_3 bv30_1 (by decide)
        subst hQ
        exact W.vret hx hb hr (fun t ht hW => ⟨⟨_, rfl, (g.fcts [0, 1, 2, 3, 4] rfl), q3_of g hK ht hW⟩, g.2.2.1.F ht⟩) g.2.2.1.2.2 dX1_begin_70
      · have fc_7 := nle_f c_7
        have b_9 : bd 0 2 v30_1 := ltL fc_7 bv30_1 kb_3 (by decide)
        refine lv_iload_n hx hb dX1_begin_35 rfl (lv_at hl 0 rfl) ?_
        refine lv_aload_n hx hb dX1_begin_36 rfl (lv_at hl 1 rfl) ?_
        refine g_getu (lo := 100) (hi := 103) (C := RX1) (T := TX1) (N := 18) hx hb hts (mc_ inX1) hown hK g ma0_ ka0_ (by decide) rfl 4 (by decide) rfl (hts _ (List.mem_cons_of_mem _ t_739)) (fun _ h9 => h9) rfl dX1_begin_37 (fun a_10 ma_10 ka_10 g => ?_)
        refine g_alenU hx hb hK g ma_10 ka_10 dX1_begin_40 (fun x_11 ex_11 bx_11 => ?_)
        refine lv_icmp_ge (tgt := 70) hx hb dX1_begin_41 (by decide) (fun c_12 => ?_) (fun c_12 => ?_)
        · have fc_12 := le_f c_12
          have b_13 : bd 3 2 x_11 := leL fc_12 bx_11 b_9 (by decide)
          exact bd_no b_13 (by decide)
        · have fc_12 := nle_f c_12
          refine lv_aload_n hx hb dX1_begin_44 rfl (lv_at hl 1 rfl) ?_
          refine g_getr (K := 116) (C := RX1) (T := TX1) (N := 18) hx hb hts (mc_ inX1) hown hK g ma0_ ka0_ (by decide) rfl 9 (by decide) rfl (hts _ (List.mem_cons_of_mem _ t_744)) (fun _ h9 => h9) rfl dX1_begin_45 (fun a_14 ma_14 ka_14 g => ?_)
          refine lv_aload_n hx hb dX1_begin_48 rfl (lv_at hl 1 rfl) ?_
          refine g_getk (C := RX1) (T := TX1) (N := 18) hx hb hts (mc_ inX1) hown hK g rfl 11 (by decide) rfl (hts _ (List.mem_cons_of_mem _ t_746)) (fun _ h9 => h9) 6 rfl dX1_begin_49 ?_
          refine lv_bipush (v := 11) hx hb dX1_begin_52 (by decide) ?_
          refine lv_imul hx hb dX1_begin_54 ?_
          refine lv_topi (fun y_15 ey_15 => ?_)
          have ty_15 := mulc_bd ey_15 (c := 11) (by decide) by0_ (by decide)
          have b_16 : bd 11 11 y_15 := mulc_rg ty_15 by0_ (by decide)
          refine lv_iload_n hx hb dX1_begin_55 rfl (lv_at hl 0 rfl) ?_
          refine lv_iadd hx hb dX1_begin_56 ?_
          refine lv_topi (fun y_17 ey_17 => ?_)
          have ty_17 := add_bd ey_17 b_16 b_9 (by decide)
          have b_18 : bd 11 13 y_17 := add_rg ty_17 b_16 b_9 (by decide)
          refine lv_aload_n hx hb dX1_begin_57 rfl (lv_at hl 1 rfl) ?_
          refine g_getk (C := RX1) (T := TX1) (N := 18) hx hb hts (mc_ inX1) hown hK g rfl 4 (by decide) rfl (hts _ (List.mem_cons_of_mem _ t_739)) (fun _ h9 => h9) 1 rfl dX1_begin_58 ?_
          refine lv_iload_n hx hb dX1_begin_61 rfl (lv_at hl 0 rfl) ?_
          refine g_ialdU hx hb hK g ma_10 ka_10 (in_ok (by have h9 := b_9; unfold bd at h9; omega) (by omega)) dX1_begin_62 (fun x_19 => ?_)
          refine g_iast hx hb hK g ma_14 ka_14 (by decide) rfl (in_bd b_18 (by decide)) (bdT x_19) (by decide) dX1_begin_63 (fun f H locs hM_20 g => ?_)
          have kb_1 : bd 1 1 (1 : Int32) := ⟨by decide, by decide⟩
          obtain ⟨y_21, ey_21⟩ : ∃ z : Int32, z = v30_1 + 1 := ⟨_, rfl⟩
          refine lv_iinc (v := y_21) (lv' := [(1, .int y_21), (0, .ref a0_)]) hx hb dX1_begin_64 hl (k := 0) rfl (by rw [ey_21]; rfl) (by decide) rfl (fun ls hl => ?_)
          have ty_21 := add_bd ey_21 b_9 kb_1 (by decide)
          have b_22 : bd 1 3 y_21 := add_rg ty_21 b_9 kb_1 (by decide)
          refine lv_goto (tgt := 30) hx hb dX1_begin_67 (by decide) ?_
          have hl9 := lv_sub hl [0, 1] (by rfl : lv_pick [(1, .int y_21), (0, .ref a0_)] [0, 1] = [(1, .int y_21), (0, .ref a0_)])
          have g9 := g.sub (fx' := [(1, 16, a0_, .int 0), (1, 15, a0_, .int 0), (1, 14, a0_, .int 0), (1, 8, a0_, .int 0), (1, 11, a0_, .int y0_), (1, 12, a0_, .int y0_)]) [2, 3, 4, 5, 6, 7] rfl
          exact ih30  y_21 (bd_sub b_22 (by decide)) (by have h9_0 := b_22; unfold bd at h9_0; have h9_1 := bv30_1; unfold bd at h9_1; have h9_2 := kb_0; unfold bd at h9_2; have h9_3 := kb_1; unfold bd at h9_3; have h9_4 := kb_3; unfold bd at h9_4; omega) _ _ _ _ g9  hl9
  have hl9 := lv_sub hl [0, 1] (by rfl : lv_pick [(1, .int 0), (0, .ref a0_)] [0, 1] = [(1, .int 0), (0, .ref a0_)])
  have g9 := g.sub (fx' := [(1, 16, a0_, .int 0), (1, 15, a0_, .int 0), (1, 14, a0_, .int 0), (1, 8, a0_, .int 0), (1, 11, a0_, .int y0_), (1, 12, a0_, .int y0_)]) [0, 1, 2, 3, 4, 5] rfl
  exact loop_6 (9) 0 (bd_sub kb_0 (by decide)) (by have h9_0 := kb_0; unfold bd at h9_0; omega) _ _ _ _ g9  hl9
set_option maxHeartbeats 4000000 in
set_option maxRecDepth 100000 in
theorem r_X1_leave_53 (l : Launch) (dC : Nat → ClassId) (dI : Nat → Nat → Nat) (L : List Nat) (kd : Nat → Nat) (tys : List (ClassId × FieldType)) (f0 : Nat → va_E) (sz : Nat) (hWT : WT L kd tys f0) (a0_ : Nat) (ma0_ : a0_ ∈ L) (ka0_ : kd a0_ = 1) (x1_ : Int32) (bx1_ : bd 0 0 x1_) (y0_ : Int32) (by0_ : bd (-2147483647) 0 y0_) (y1_ : Int32) (by1_ : bd 0 0 y1_) (y2_ : Int32) (by2_ : bd 1 20 y2_) (y3_ : Int32) (by3_ : bd 1 1 y3_) (y4_ : Int32) (by4_ : bd 0 0 y4_) (y5_ : Int32) (by5_ : bd 0 0 y5_) (hfx : Fs L kd f0 [(1, 13, a0_, .int y0_), (1, 15, a0_, .int y1_), (1, 11, a0_, .int y2_), (1, 12, a0_, .int y3_), (1, 6, a0_, .int y4_), (1, 5, a0_, .int y5_)]) : Met l yX1_leave (.code yX1_leave cX1_leave 2 none :: lw_g) ({ frames := 0, cells := 0, slots := 0, locals := 0 }) (va_Pc [.ref a0_, .int x1_] (P3 (dC, dI) L tys f0 sz)) (va_Qv (fun (f : Nat → va_E) => (∃ z0_ : Int32, bd 1 19 z0_ ∧ ∃ z1_ : Int32, bd 0 1 z1_ ∧ Fs L kd f [(1, 11, a0_, .int z0_), (1, 15, a0_, .int z1_)])) (Q3 (dC, dI) L kd tys [(1, 8), (1, 11), (1, 13), (1, 15), (1, 16)] [100] f0 sz) (pA L sz)) 0 0 (pA L sz) := by
  refine Met.ofW (cc := cX1_leave) (maxL := 2) (ret := none) (by decide) rfl ?_
  intro p e s m args below meth c s₁ B hml hv
  obtain ⟨rfl, hsz, hP, hK, hD0⟩ := hv
  have hx := B.exec
  have hb := B.bytes
  have hr := B.returns
  have hts := atoms_spec (ws := (.code yX1_leave cX1_leave 2 none :: lw_g)) B.pre
  have hown : s.vm.findClass RX1 = some m.cls := findClass_of_methodNamed B.named
  have hlocks := B.notSynchronized
  subst hsz
  have g : G3 (dC, dI) L kd tys s f0 [(1, 8), (1, 11), (1, 13), (1, 15), (1, 16)] [100] f0 s.heap [] [(1, 13, a0_, .int y0_), (1, 15, a0_, .int y1_), (1, 11, a0_, .int y2_), (1, 12, a0_, .int y3_), (1, 6, a0_, .int y4_), (1, 5, a0_, .int y5_)] := G3.start hP hD0 hWT hfx
  have hl := lv_entry ([.ref a0_, .int x1_]) (n := 2) (Nat.le_of_ble_eq_true rfl)
  rw [lg_entry_eq]
  generalize (lg_sl ([.ref a0_, .int x1_]) ++ List.replicate (2 - (lg_sl ([.ref a0_, .int x1_])).length) Slot.unset).toArray = ls at hl ⊢
  have hl : lv_has ls 2 [(0, .ref a0_), (1, .int x1_)] := hl
  refine W_q (fun Q hQ => ?_)
  refine lv_aload_n hx hb dX1_leave_0 rfl (lv_at hl 0 rfl) ?_
  refine g_getk (C := RX1) (T := TX1) (N := 18) hx hb hts (mc_ inX1) hown hK g rfl 11 (by decide) rfl (hts _ (List.mem_cons_of_mem _ t_746)) (fun _ h9 => h9) 2 rfl dX1_leave_1 ?_
  refine lv_aload_n hx hb dX1_leave_4 rfl (lv_at hl 0 rfl) ?_
  refine g_getk (C := RX1) (T := TX1) (N := 18) hx hb hts (mc_ inX1) hown hK g rfl 12 (by decide) rfl (hts _ (List.mem_cons_of_mem _ t_747)) (fun _ h9 => h9) 3 rfl dX1_leave_5 ?_
  refine lv_icmp_ne (tgt := 22) hx hb dX1_leave_8 (by decide) (fun c_1 => ?_) (fun c_1 => ?_)
  · have fc_1 := neq_f c_1
    have b_2 : bd 2 20 y2_ := neX fc_1 by2_ by3_ (by decide)
    refine lv_aload_n hx hb dX1_leave_22 rfl (lv_at hl 0 rfl) ?_
    refine lv_aload_n hx hb dX1_leave_23 rfl (lv_at hl 0 rfl) ?_
    refine g_getr (K := 117) (C := RX1) (T := TX1) (N := 18) hx hb hts (mc_ inX1) hown hK g ma0_ ka0_ (by decide) rfl 10 (by decide) rfl (hts _ (List.mem_cons_of_mem _ t_745)) (fun _ h9 => h9) rfl dX1_leave_24 (fun a_3 ma_3 ka_3 g => ?_)
    refine lv_aload_n hx hb dX1_leave_27 rfl (lv_at hl 0 rfl) ?_
    refine g_getk (C := RX1) (T := TX1) (N := 18) hx hb hts (mc_ inX1) hown hK g rfl 11 (by decide) rfl (hts _ (List.mem_cons_of_mem _ t_746)) (fun _ h9 => h9) 3 rfl dX1_leave_28 ?_
    refine g_iald hx hb hK g ma_3 ka_3 (by decide) rfl (in_bd b_2 (by decide)) dX1_leave_31 (fun x_4 bx_4 cx_4 => ?_)
    refine g_put (C := RX1) (T := TX1) (N := 18) hx hb hts (mc_ inX1) tyX1 tyX1_ok nmX1 hown hK g ma0_ ka0_ (by decide) rfl 13 (by decide) (hts _ (List.mem_cons_of_mem _ t_748)) (fun _ h9 => h9) rfl rfl (okV_i (bdT x_4)) rfl rfl (by decide) (Or.inr (Or.inl (by decide))) (fx' := [(1, 10, a0_, .ref a_3), (1, 15, a0_, .int y1_), (1, 11, a0_, .int y2_), (1, 12, a0_, .int y3_), (1, 6, a0_, .int y4_), (1, 5, a0_, .int y5_)]) rfl dX1_leave_32 (fun f H locs hM_5 g => ?_)
    refine lv_aload_n hx hb dX1_leave_35 rfl (lv_at hl 0 rfl) ?_
    refine lv_dup hx hb dX1_leave_36 rfl ?_
    refine g_getk (C := RX1) (T := TX1) (N := 18) hx hb hts (mc_ inX1) hown hK g rfl 11 (by decide) rfl (hts _ (List.mem_cons_of_mem _ t_746)) (fun _ h9 => h9) 3 rfl dX1_leave_37 ?_
    refine lv_iconst (v := 1) hx hb dX1_leave_40 (by decide) ?_
    have kb_1 : bd 1 1 (1 : Int32) := ⟨by decide, by decide⟩
    refine lv_isub hx hb dX1_leave_41 ?_
    refine lv_topi (fun y_6 ey_6 => ?_)
    have ty_6 := sub_bd ey_6 b_2 kb_1 (by decide)
    have b_7 : bd 1 19 y_6 := sub_rg ty_6 b_2 kb_1 (by decide)
    refine g_put (C := RX1) (T := TX1) (N := 18) hx hb hts (mc_ inX1) tyX1 tyX1_ok nmX1 hown hK g ma0_ ka0_ (by decide) rfl 11 (by decide) (hts _ (List.mem_cons_of_mem _ t_746)) (fun _ h9 => h9) rfl rfl (okV_i (bd_sub b_7 (by decide))) rfl rfl (by decide) (Or.inr (Or.inl (by decide))) (fx' := [(1, 13, a0_, .int x_4), (1, 10, a0_, .ref a_3), (1, 15, a0_, .int y1_), (1, 12, a0_, .int y3_), (1, 6, a0_, .int y4_), (1, 5, a0_, .int y5_)]) rfl dX1_leave_42 (fun f H locs hM_8 g => ?_)
    refine lv_aload_n hx hb dX1_leave_45 rfl (lv_at hl 0 rfl) ?_
    refine g_geti (C := RX1) (T := TX1) (N := 18) hx hb hts (mc_ inX1) hown hK g ma0_ ka0_ (by decide) rfl 8 (by decide) rfl (hts _ (List.mem_cons_of_mem _ t_743)) (fun _ h9 => h9) rfl dX1_leave_46 (fun x_9 bx_9 g => ?_)
    refine lv_sipush (v := 700) hx hb dX1_leave_49 (by decide) ?_
    have kb_700 : bd 700 700 (700 : Int32) := ⟨by decide, by decide⟩
    refine lv_icmp_ge (tgt := 75) hx hb dX1_leave_52 (by decide) (fun c_10 => ?_) (fun c_10 => ?_)
    · have fc_10 := le_f c_10
      have b_11 : bd 700 700 x_9 := leR fc_10 kb_700 bx_9 (by decide)
      subst hQ
      exact W.vret hx hb hr (fun t ht hW => ⟨⟨_, rfl, ⟨y_6, b_7, y1_, (bd_sub by1_ (by decide)), (g.fcts [1, 4] rfl)⟩, q3_of g hK ht hW⟩, g.2.2.1.F ht⟩) g.2.2.1.2.2 dX1_leave_75
    · have fc_10 := nle_f c_10
      have b_12 : bd 0 699 x_9 := ltL fc_10 bx_9 kb_700 (by decide)
      refine lv_aload_n hx hb dX1_leave_55 rfl (lv_at hl 0 rfl) ?_
      refine g_getr (K := 100) (C := RX1) (T := TX1) (N := 18) hx hb hts (mc_ inX1) hown hK g ma0_ ka0_ (by decide) rfl 7 (by decide) rfl (hts _ (List.mem_cons_of_mem _ t_742)) (fun _ h9 => h9) rfl dX1_leave_56 (fun a_13 ma_13 ka_13 g => ?_)
      refine lv_aload_n hx hb dX1_leave_59 rfl (lv_at hl 0 rfl) ?_
      refine g_getk (C := RX1) (T := TX1) (N := 18) hx hb hts (mc_ inX1) hown hK g rfl 8 (by decide) rfl (hts _ (List.mem_cons_of_mem _ t_743)) (fun _ h9 => h9) 1 rfl dX1_leave_60 ?_
      refine lv_iload_n hx hb dX1_leave_63 rfl (lv_at hl 1 rfl) ?_
      refine g_iast hx hb hK g ma_13 ka_13 (by decide) rfl (in_bd b_12 (by decide)) (bd_sub bx1_ (by decide)) (by decide) dX1_leave_64 (fun f H locs hM_14 g => ?_)
      refine lv_aload_n hx hb dX1_leave_65 rfl (lv_at hl 0 rfl) ?_
      refine lv_dup hx hb dX1_leave_66 rfl ?_
      refine g_getk (C := RX1) (T := TX1) (N := 18) hx hb hts (mc_ inX1) hown hK g rfl 8 (by decide) rfl (hts _ (List.mem_cons_of_mem _ t_743)) (fun _ h9 => h9) 1 rfl dX1_leave_67 ?_
      refine lv_iconst (v := 1) hx hb dX1_leave_70 (by decide) ?_
      refine lv_iadd hx hb dX1_leave_71 ?_
      refine lv_topi (fun y_15 ey_15 => ?_)
      have ty_15 := add_bd ey_15 b_12 kb_1 (by decide)
      have b_16 : bd 1 700 y_15 := add_rg ty_15 b_12 kb_1 (by decide)
      refine g_put (C := RX1) (T := TX1) (N := 18) hx hb hts (mc_ inX1) tyX1 tyX1_ok nmX1 hown hK g ma0_ ka0_ (by decide) rfl 8 (by decide) (hts _ (List.mem_cons_of_mem _ t_743)) (fun _ h9 => h9) rfl rfl (okV_i (bd_sub b_16 (by decide))) rfl rfl (by decide) (Or.inr (Or.inl (by decide))) (fx' := [(1, 7, a0_, .ref a_13), (1, 11, a0_, .int y_6), (1, 13, a0_, .int x_4), (1, 10, a0_, .ref a_3), (1, 15, a0_, .int y1_), (1, 12, a0_, .int y3_), (1, 6, a0_, .int y4_), (1, 5, a0_, .int y5_)]) rfl dX1_leave_72 (fun f H locs hM_17 g => ?_)
      subst hQ
      exact W.vret hx hb hr (fun t ht hW => ⟨⟨_, rfl, ⟨y_6, b_7, y1_, (bd_sub by1_ (by decide)), (g.fcts [2, 5] rfl)⟩, q3_of g hK ht hW⟩, g.2.2.1.F ht⟩) g.2.2.1.2.2 dX1_leave_75
  · have fc_1 := eq_f c_1
    have b_18 : bd 1 1 y2_ := eqX fc_1 by2_ by3_ (by decide)
    refine lv_aload_n hx hb dX1_leave_11 rfl (lv_at hl 0 rfl) ?_
    refine lv_iload_n hx hb dX1_leave_12 rfl (lv_at hl 1 rfl) ?_
    refine g_put (C := RX1) (T := TX1) (N := 18) hx hb hts (mc_ inX1) tyX1 tyX1_ok nmX1 hown hK g ma0_ ka0_ (by decide) rfl 16 (by decide) (hts _ (List.mem_cons_of_mem _ t_752)) (fun _ h9 => h9) rfl rfl (okV_i (bd_sub bx1_ (by decide))) rfl rfl (by decide) (Or.inr (Or.inl (by decide))) (fx' := [(1, 13, a0_, .int y0_), (1, 15, a0_, .int y1_), (1, 11, a0_, .int y2_), (1, 12, a0_, .int y3_), (1, 6, a0_, .int y4_), (1, 5, a0_, .int y5_)]) rfl dX1_leave_13 (fun f H locs hM_19 g => ?_)
    refine lv_aload_n hx hb dX1_leave_16 rfl (lv_at hl 0 rfl) ?_
    refine lv_iconst (v := 1) hx hb dX1_leave_17 (by decide) ?_
    have kb_1 : bd 1 1 (1 : Int32) := ⟨by decide, by decide⟩
    refine g_put (C := RX1) (T := TX1) (N := 18) hx hb hts (mc_ inX1) tyX1 tyX1_ok nmX1 hown hK g ma0_ ka0_ (by decide) rfl 15 (by decide) (hts _ (List.mem_cons_of_mem _ t_750)) (fun _ h9 => h9) rfl rfl (okV_i (bd_sub kb_1 (by decide))) rfl rfl (by decide) (Or.inr (Or.inl (by decide))) (fx' := [(1, 16, a0_, .int x1_), (1, 13, a0_, .int y0_), (1, 11, a0_, .int y2_), (1, 12, a0_, .int y3_), (1, 6, a0_, .int y4_), (1, 5, a0_, .int y5_)]) rfl dX1_leave_18 (fun f H locs hM_20 g => ?_)
    subst hQ
    exact W.vret hx hb hr (fun t ht hW => ⟨⟨_, rfl, ⟨y2_, (bd_sub b_18 (by decide)), 1, (bd_sub kb_1 (by decide)), (g.fcts [3, 0] rfl)⟩, q3_of g hK ht hW⟩, g.2.2.1.F ht⟩) g.2.2.1.2.2 dX1_leave_21
set_option maxHeartbeats 4000000 in
set_option maxRecDepth 100000 in
theorem r_X1_leave_54 (l : Launch) (dC : Nat → ClassId) (dI : Nat → Nat → Nat) (L : List Nat) (kd : Nat → Nat) (tys : List (ClassId × FieldType)) (f0 : Nat → va_E) (sz : Nat) (hWT : WT L kd tys f0) (a0_ : Nat) (ma0_ : a0_ ∈ L) (ka0_ : kd a0_ = 1) (x1_ : Int32) (bx1_ : bd 0 0 x1_) (y0_ : Int32) (by0_ : bd 0 0 y0_) (y1_ : Int32) (by1_ : bd 1 20 y1_) (y2_ : Int32) (by2_ : bd 1 1 y2_) (y3_ : Int32) (by3_ : bd 0 0 y3_) (y4_ : Int32) (by4_ : bd 0 0 y4_) (hfx : Fs L kd f0 [(1, 15, a0_, .int y0_), (1, 11, a0_, .int y1_), (1, 12, a0_, .int y2_), (1, 6, a0_, .int y3_), (1, 5, a0_, .int y4_)]) : Met l yX1_leave (.code yX1_leave cX1_leave 2 none :: lw_g) ({ frames := 0, cells := 0, slots := 0, locals := 0 }) (va_Pc [.ref a0_, .int x1_] (P3 (dC, dI) L tys f0 sz)) (va_Qv (fun (f : Nat → va_E) => (∃ z0_ : Int32, bd 1 19 z0_ ∧ ∃ z1_ : Int32, bd 0 1 z1_ ∧ Fs L kd f [(1, 11, a0_, .int z0_), (1, 15, a0_, .int z1_)])) (Q3 (dC, dI) L kd tys [(1, 8), (1, 11), (1, 13), (1, 15), (1, 16)] [100] f0 sz) (pA L sz)) 0 0 (pA L sz) := by
  refine Met.ofW (cc := cX1_leave) (maxL := 2) (ret := none) (by decide) rfl ?_
  intro p e s m args below meth c s₁ B hml hv
  obtain ⟨rfl, hsz, hP, hK, hD0⟩ := hv
  have hx := B.exec
  have hb := B.bytes
  have hr := B.returns
  have hts := atoms_spec (ws := (.code yX1_leave cX1_leave 2 none :: lw_g)) B.pre
  have hown : s.vm.findClass RX1 = some m.cls := findClass_of_methodNamed B.named
  have hlocks := B.notSynchronized
  subst hsz
  have g : G3 (dC, dI) L kd tys s f0 [(1, 8), (1, 11), (1, 13), (1, 15), (1, 16)] [100] f0 s.heap [] [(1, 15, a0_, .int y0_), (1, 11, a0_, .int y1_), (1, 12, a0_, .int y2_), (1, 6, a0_, .int y3_), (1, 5, a0_, .int y4_)] := G3.start hP hD0 hWT hfx
  have hl := lv_entry ([.ref a0_, .int x1_]) (n := 2) (Nat.le_of_ble_eq_true rfl)
  rw [lg_entry_eq]
  generalize (lg_sl ([.ref a0_, .int x1_]) ++ List.replicate (2 - (lg_sl ([.ref a0_, .int x1_])).length) Slot.unset).toArray = ls at hl ⊢
  have hl : lv_has ls 2 [(0, .ref a0_), (1, .int x1_)] := hl
  refine W_q (fun Q hQ => ?_)
  refine lv_aload_n hx hb dX1_leave_0 rfl (lv_at hl 0 rfl) ?_
  refine g_getk (C := RX1) (T := TX1) (N := 18) hx hb hts (mc_ inX1) hown hK g rfl 11 (by decide) rfl (hts _ (List.mem_cons_of_mem _ t_746)) (fun _ h9 => h9) 1 rfl dX1_leave_1 ?_
  refine lv_aload_n hx hb dX1_leave_4 rfl (lv_at hl 0 rfl) ?_
  refine g_getk (C := RX1) (T := TX1) (N := 18) hx hb hts (mc_ inX1) hown hK g rfl 12 (by decide) rfl (hts _ (List.mem_cons_of_mem _ t_747)) (fun _ h9 => h9) 2 rfl dX1_leave_5 ?_
  refine lv_icmp_ne (tgt := 22) hx hb dX1_leave_8 (by decide) (fun c_1 => ?_) (fun c_1 => ?_)
  · have fc_1 := neq_f c_1
    have b_2 : bd 2 20 y1_ := neX fc_1 by1_ by2_ (by decide)
    refine lv_aload_n hx hb dX1_leave_22 rfl (lv_at hl 0 rfl) ?_
    refine lv_aload_n hx hb dX1_leave_23 rfl (lv_at hl 0 rfl) ?_
    refine g_getr (K := 117) (C := RX1) (T := TX1) (N := 18) hx hb hts (mc_ inX1) hown hK g ma0_ ka0_ (by decide) rfl 10 (by decide) rfl (hts _ (List.mem_cons_of_mem _ t_745)) (fun _ h9 => h9) rfl dX1_leave_24 (fun a_3 ma_3 ka_3 g => ?_)
    refine lv_aload_n hx hb dX1_leave_27 rfl (lv_at hl 0 rfl) ?_
    refine g_getk (C := RX1) (T := TX1) (N := 18) hx hb hts (mc_ inX1) hown hK g rfl 11 (by decide) rfl (hts _ (List.mem_cons_of_mem _ t_746)) (fun _ h9 => h9) 2 rfl dX1_leave_28 ?_
    refine g_iald hx hb hK g ma_3 ka_3 (by decide) rfl (in_bd b_2 (by decide)) dX1_leave_31 (fun x_4 bx_4 cx_4 => ?_)
    refine g_put (C := RX1) (T := TX1) (N := 18) hx hb hts (mc_ inX1) tyX1 tyX1_ok nmX1 hown hK g ma0_ ka0_ (by decide) rfl 13 (by decide) (hts _ (List.mem_cons_of_mem _ t_748)) (fun _ h9 => h9) rfl rfl (okV_i (bdT x_4)) rfl rfl (by decide) (Or.inr (Or.inl (by decide))) (fx' := [(1, 10, a0_, .ref a_3), (1, 15, a0_, .int y0_), (1, 11, a0_, .int y1_), (1, 12, a0_, .int y2_), (1, 6, a0_, .int y3_), (1, 5, a0_, .int y4_)]) rfl dX1_leave_32 (fun f H locs hM_5 g => ?_)
    refine lv_aload_n hx hb dX1_leave_35 rfl (lv_at hl 0 rfl) ?_
    refine lv_dup hx hb dX1_leave_36 rfl ?_
    refine g_getk (C := RX1) (T := TX1) (N := 18) hx hb hts (mc_ inX1) hown hK g rfl 11 (by decide) rfl (hts _ (List.mem_cons_of_mem _ t_746)) (fun _ h9 => h9) 3 rfl dX1_leave_37 ?_
    refine lv_iconst (v := 1) hx hb dX1_leave_40 (by decide) ?_
    have kb_1 : bd 1 1 (1 : Int32) := ⟨by decide, by decide⟩
    refine lv_isub hx hb dX1_leave_41 ?_
    refine lv_topi (fun y_6 ey_6 => ?_)
    have ty_6 := sub_bd ey_6 b_2 kb_1 (by decide)
    have b_7 : bd 1 19 y_6 := sub_rg ty_6 b_2 kb_1 (by decide)
    refine g_put (C := RX1) (T := TX1) (N := 18) hx hb hts (mc_ inX1) tyX1 tyX1_ok nmX1 hown hK g ma0_ ka0_ (by decide) rfl 11 (by decide) (hts _ (List.mem_cons_of_mem _ t_746)) (fun _ h9 => h9) rfl rfl (okV_i (bd_sub b_7 (by decide))) rfl rfl (by decide) (Or.inr (Or.inl (by decide))) (fx' := [(1, 13, a0_, .int x_4), (1, 10, a0_, .ref a_3), (1, 15, a0_, .int y0_), (1, 12, a0_, .int y2_), (1, 6, a0_, .int y3_), (1, 5, a0_, .int y4_)]) rfl dX1_leave_42 (fun f H locs hM_8 g => ?_)
    refine lv_aload_n hx hb dX1_leave_45 rfl (lv_at hl 0 rfl) ?_
    refine g_geti (C := RX1) (T := TX1) (N := 18) hx hb hts (mc_ inX1) hown hK g ma0_ ka0_ (by decide) rfl 8 (by decide) rfl (hts _ (List.mem_cons_of_mem _ t_743)) (fun _ h9 => h9) rfl dX1_leave_46 (fun x_9 bx_9 g => ?_)
    refine lv_sipush (v := 700) hx hb dX1_leave_49 (by decide) ?_
    have kb_700 : bd 700 700 (700 : Int32) := ⟨by decide, by decide⟩
    refine lv_icmp_ge (tgt := 75) hx hb dX1_leave_52 (by decide) (fun c_10 => ?_) (fun c_10 => ?_)
    · have fc_10 := le_f c_10
      have b_11 : bd 700 700 x_9 := leR fc_10 kb_700 bx_9 (by decide)
      subst hQ
      exact W.vret hx hb hr (fun t ht hW => ⟨⟨_, rfl, ⟨y_6, b_7, y0_, (bd_sub by0_ (by decide)), (g.fcts [1, 4] rfl)⟩, q3_of g hK ht hW⟩, g.2.2.1.F ht⟩) g.2.2.1.2.2 dX1_leave_75
    · have fc_10 := nle_f c_10
      have b_12 : bd 0 699 x_9 := ltL fc_10 bx_9 kb_700 (by decide)
      refine lv_aload_n hx hb dX1_leave_55 rfl (lv_at hl 0 rfl) ?_
      refine g_getr (K := 100) (C := RX1) (T := TX1) (N := 18) hx hb hts (mc_ inX1) hown hK g ma0_ ka0_ (by decide) rfl 7 (by decide) rfl (hts _ (List.mem_cons_of_mem _ t_742)) (fun _ h9 => h9) rfl dX1_leave_56 (fun a_13 ma_13 ka_13 g => ?_)
      refine lv_aload_n hx hb dX1_leave_59 rfl (lv_at hl 0 rfl) ?_
      refine g_getk (C := RX1) (T := TX1) (N := 18) hx hb hts (mc_ inX1) hown hK g rfl 8 (by decide) rfl (hts _ (List.mem_cons_of_mem _ t_743)) (fun _ h9 => h9) 1 rfl dX1_leave_60 ?_
      refine lv_iload_n hx hb dX1_leave_63 rfl (lv_at hl 1 rfl) ?_
      refine g_iast hx hb hK g ma_13 ka_13 (by decide) rfl (in_bd b_12 (by decide)) (bd_sub bx1_ (by decide)) (by decide) dX1_leave_64 (fun f H locs hM_14 g => ?_)
      refine lv_aload_n hx hb dX1_leave_65 rfl (lv_at hl 0 rfl) ?_
      refine lv_dup hx hb dX1_leave_66 rfl ?_
      refine g_getk (C := RX1) (T := TX1) (N := 18) hx hb hts (mc_ inX1) hown hK g rfl 8 (by decide) rfl (hts _ (List.mem_cons_of_mem _ t_743)) (fun _ h9 => h9) 1 rfl dX1_leave_67 ?_
      refine lv_iconst (v := 1) hx hb dX1_leave_70 (by decide) ?_
      refine lv_iadd hx hb dX1_leave_71 ?_
      refine lv_topi (fun y_15 ey_15 => ?_)
      have ty_15 := add_bd ey_15 b_12 kb_1 (by decide)
      have b_16 : bd 1 700 y_15 := add_rg ty_15 b_12 kb_1 (by decide)
      refine g_put (C := RX1) (T := TX1) (N := 18) hx hb hts (mc_ inX1) tyX1 tyX1_ok nmX1 hown hK g ma0_ ka0_ (by decide) rfl 8 (by decide) (hts _ (List.mem_cons_of_mem _ t_743)) (fun _ h9 => h9) rfl rfl (okV_i (bd_sub b_16 (by decide))) rfl rfl (by decide) (Or.inr (Or.inl (by decide))) (fx' := [(1, 7, a0_, .ref a_13), (1, 11, a0_, .int y_6), (1, 13, a0_, .int x_4), (1, 10, a0_, .ref a_3), (1, 15, a0_, .int y0_), (1, 12, a0_, .int y2_), (1, 6, a0_, .int y3_), (1, 5, a0_, .int y4_)]) rfl dX1_leave_72 (fun f H locs hM_17 g => ?_)
      subst hQ
      exact W.vret hx hb hr (fun t ht hW => ⟨⟨_, rfl, ⟨y_6, b_7, y0_, (bd_sub by0_ (by decide)), (g.fcts [2, 5] rfl)⟩, q3_of g hK ht hW⟩, g.2.2.1.F ht⟩) g.2.2.1.2.2 dX1_leave_75
  · have fc_1 := eq_f c_1
    have b_18 : bd 1 1 y1_ := eqX fc_1 by1_ by2_ (by decide)
    refine lv_aload_n hx hb dX1_leave_11 rfl (lv_at hl 0 rfl) ?_
    refine lv_iload_n hx hb dX1_leave_12 rfl (lv_at hl 1 rfl) ?_
    refine g_put (C := RX1) (T := TX1) (N := 18) hx hb hts (mc_ inX1) tyX1 tyX1_ok nmX1 hown hK g ma0_ ka0_ (by decide) rfl 16 (by decide) (hts _ (List.mem_cons_of_mem _ t_752)) (fun _ h9 => h9) rfl rfl (okV_i (bd_sub bx1_ (by decide))) rfl rfl (by decide) (Or.inr (Or.inl (by decide))) (fx' := [(1, 15, a0_, .int y0_), (1, 11, a0_, .int y1_), (1, 12, a0_, .int y2_), (1, 6, a0_, .int y3_), (1, 5, a0_, .int y4_)]) rfl dX1_leave_13 (fun f H locs hM_19 g => ?_)
    refine lv_aload_n hx hb dX1_leave_16 rfl (lv_at hl 0 rfl) ?_
    refine lv_iconst (v := 1) hx hb dX1_leave_17 (by decide) ?_
    have kb_1 : bd 1 1 (1 : Int32) := ⟨by decide, by decide⟩
    refine g_put (C := RX1) (T := TX1) (N := 18) hx hb hts (mc_ inX1) tyX1 tyX1_ok nmX1 hown hK g ma0_ ka0_ (by decide) rfl 15 (by decide) (hts _ (List.mem_cons_of_mem _ t_750)) (fun _ h9 => h9) rfl rfl (okV_i (bd_sub kb_1 (by decide))) rfl rfl (by decide) (Or.inr (Or.inl (by decide))) (fx' := [(1, 16, a0_, .int x1_), (1, 11, a0_, .int y1_), (1, 12, a0_, .int y2_), (1, 6, a0_, .int y3_), (1, 5, a0_, .int y4_)]) rfl dX1_leave_18 (fun f H locs hM_20 g => ?_)
    subst hQ
    exact W.vret hx hb hr (fun t ht hW => ⟨⟨_, rfl, ⟨y1_, (bd_sub b_18 (by decide)), 1, (bd_sub kb_1 (by decide)), (g.fcts [2, 0] rfl)⟩, q3_of g hK ht hW⟩, g.2.2.1.F ht⟩) g.2.2.1.2.2 dX1_leave_21
