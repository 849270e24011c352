set_option maxHeartbeats 4000000 in
set_option maxRecDepth 100000 in
theorem r_X1_go (l : Launch) (dC : Nat → ClassId) (dI : Nat → Nat → Nat) (L : List Nat) (kd : Nat → Nat) (tys : List (ClassId × FieldType)) (f0 : Nat → va_E) (sz : Nat) (hWT : WT L kd tys f0) (a0_ : Nat) (ma0_ : a0_ ∈ L) (ka0_ : kd a0_ = 1) (q0_ : Nat) (mq0_ : q0_ ∈ L) (kq0_ : kd q0_ = 7) (q1_ : Nat) (mq1_ : q1_ ∈ L) (kq1_ : kd q1_ = 9) (y0_ : Int32) (by0_ : bd 0 0 y0_) (y1_ : Int32) (by1_ : bd 1 1 y1_) (y2_ : Int32) (by2_ : bd 1 500 y2_) (y3_ : Int32) (by3_ : bd 1 8 y3_) (hGcq0_ : cOK f0 q0_) (hfx : Fs L kd f0 [(1, 0, a0_, .ref q0_), (1, 1, a0_, .ref q1_), (1, 12, a0_, .int y0_), (1, 5, a0_, .int y1_), (7, 13, q0_, .int y2_), (7, 1, q0_, .int y3_)]) : Met l yX1_go (.code yX1_go cX1_go 7 none :: lw_g) ({ frames := 1, cells := 0, slots := 0, locals := 24 }) (va_Pc [.ref a0_] (P3 (dC, dI) L tys f0 sz)) (va_Qv (fun (f : Nat → va_E) => (True)) (Q3 (dC, dI) L kd tys [(1, 8), (1, 11), (1, 13), (1, 14), (1, 15), (1, 16), (1, 17)] [100, 116, 117, 146] f0 sz) (pA L sz)) 0 0 (pA L sz) := by
  refine Met.ofW (cc := cX1_go) (maxL := 7) (ret := none) (by decide) rfl ?_
  intro p e s m args below meth c s₁ B hml hv
  obtain ⟨rfl, hsz, hP, hK, hD0⟩ := hv
  have hx := B.exec
  have hb := B.bytes
  have hr := B.returns
  have hts := atoms_spec (ws := (.code yX1_go cX1_go 7 none :: lw_g)) B.pre
  have hown : s.vm.findClass RX1 = some m.cls := findClass_of_methodNamed B.named
  have hlocks := B.notSynchronized
  subst hsz
  have g : G3 (dC, dI) L kd tys s f0 [(1, 8), (1, 11), (1, 13), (1, 14), (1, 15), (1, 16), (1, 17)] [100, 116, 117, 146] f0 s.heap [] [(1, 0, a0_, .ref q0_), (1, 1, a0_, .ref q1_), (1, 12, a0_, .int y0_), (1, 5, a0_, .int y1_), (7, 13, q0_, .int y2_), (7, 1, q0_, .int y3_)] := G3.start hP hD0 hWT hfx
  have hl := lv_entry ([.ref a0_]) (n := 7) (Nat.le_of_ble_eq_true rfl)
  rw [lg_entry_eq]
  generalize (lg_sl ([.ref a0_]) ++ List.replicate (7 - (lg_sl ([.ref a0_])).length) Slot.unset).toArray = ls at hl ⊢
  have hl : lv_has ls 7 [(0, .ref a0_)] := hl
  refine W_q (fun Q hQ => ?_)
  refine lv_aload_n hx hb dX1_go_0 rfl (lv_at hl 0 rfl) ?_
  have go_ := g
  refine g_callv (va_runV (As := []) (rest := []) ⟨hx, hb, hml, hown, hts⟩ (r_X1_begin_2 l dC dI L kd tys f0 s.heap.size g.2.2.2.1 a0_ ma0_ ka0_ y0_ by0_ (g.fcts [2] rfl)) (cwV 0 hts (gV_ t_1559 t_1561 t_58 t_195 t_1562) rfl rfl rfl (by decide +kernel) ⟨(Nat.le_of_ble_eq_true rfl), (Nat.le_of_ble_eq_true rfl)⟩) (pre3V g hK ma0_ ka0_ (by decide) (q := (RX1, TX1, 18)) rfl) rfl rfl hl.1 rfl (lv_room (Nat.le_of_ble_eq_true rfl)) dX1_go_1 ⟨(Nat.le_of_ble_eq_true rfl), (Nat.le_of_ble_eq_true rfl)⟩) g hK (by decide) (by decide) (fx' := [(1, 0, a0_, .ref q0_), (1, 1, a0_, .ref q1_), (1, 12, a0_, .int y0_), (1, 5, a0_, .int y1_), (7, 13, q0_, .int y2_), (7, 1, q0_, .int y3_)]) rfl (fun fr_1 H locs hp hMr_1 g => ?_)
  obtain ⟨x_2, h_3, hF_4⟩ := hp
  have hG_5 := cOK.frame hMr_1 go_.2.2.2.1 mq0_ kq0_ (by decide) (by decide) hGcq0_
  have g := g.more hF_4
  refine lv_iconst (v := 0) hx hb dX1_go_4 (by decide) ?_
  refine lv_istore_n (lv' := [(1, .int 0), (0, .ref a0_)]) hx hb dX1_go_5 rfl hl (by decide) rfl (fun ls hl => ?_)
  have loop_6 : ∀ (n : Nat) (v6_1 : Int32), bd 0 1000000 v6_1 → (1000000 - v6_1.toInt < (n : Int)) → ∀ (f : Nat → va_E) (H : Heap) (locs : List Loc) (ls : Array Slot), G3 (dC, dI) L kd tys s f0 [(1, 8), (1, 11), (1, 13), (1, 14), (1, 15), (1, 16), (1, 17)] [100, 116, 117, 146] f H locs [(1, 0, a0_, .ref q0_), (1, 1, a0_, .ref q1_), (1, 12, a0_, .int y0_), (1, 5, a0_, .int y1_), (7, 13, q0_, .int y2_), (7, 1, q0_, .int y3_)] → cOK f q0_ → lv_has ls 7 [(1, .int v6_1), (0, .ref a0_)] → W p l e ({ frames := 1, cells := 0, slots := 0, locals := 24 } : Room) s m [.ref a0_].toArray below meth c H locs 0 0 Q (F0 m 6 ls []) := by
    intro n6
    induction n6 with
    | zero =>
      intro v6_1 bv6_1 hm6 f H locs ls g hG6_c_q0_ hl
      exact absurd hm6 (by have h9_v6_1 := bv6_1; unfold bd at h9_v6_1; omega)
    | succ n6 ih6 =>
      intro v6_1 bv6_1 hm6 f H locs ls g hG6_c_q0_ hl
      refine lv_iload_n hx hb dX1_go_6 rfl (lv_at hl 0 rfl) ?_
      refine lv_ldc (v := 1000000) hx hb hown (hts _ (List.mem_cons_of_mem _ t_1563)) dX1_go_7 ?_
      have kb_1000000 : bd 1000000 1000000 (1000000 : Int32) := ⟨by decide, by decide⟩
      refine lv_icmp_ge (tgt := 314) hx hb dX1_go_9 (by decide) (fun c_7 => ?_) (fun c_7 => ?_)
      · have fc_7 := le_f c_7
        have b_8 : bd 1000000 1000000 v6_1 := leR fc_7 kb_1000000 bv6_1 (by decide)
        refine lv_aload_n hx hb dX1_go_314 rfl (lv_at hl 1 rfl) ?_
        refine lv_aload_n hx hb dX1_go_315 rfl (lv_at hl 1 rfl) ?_
        refine g_geti (C := RX1) (T := TX1) (N := 18) hx hb hts (mc_ inX1) hown hK g ma0_ ka0_ (by decide) rfl 15 (by decide) rfl (hts _ (List.mem_cons_of_mem _ t_750)) (fun _ h9 => h9) rfl dX1_go_316 (fun x_9 bx_9 g => ?_)
        have kb_0 : bd 0 0 (0 : Int32) := ⟨by decide, by decide⟩
        refine lv_if_ne (tgt := 326) hx hb dX1_go_319 (by decide) (fun c_10 => ?_) (fun c_10 => ?_)
        · have fc_10 := neq_f c_10
          refine lv_aload_n hx hb dX1_go_326 rfl (lv_at hl 1 rfl) ?_
          refine g_getk (C := RX1) (T := TX1) (N := 18) hx hb hts (mc_ inX1) hown hK g rfl 15 (by decide) rfl (hts _ (List.mem_cons_of_mem _ t_750)) (fun _ h9 => h9) 0 rfl dX1_go_327 ?_
          have go_ := g
          refine g_put (C := RX1) (T := TX1) (N := 18) hx hb hts (mc_ inX1) tyX1 tyX1_ok nmX1 hown hK g ma0_ ka0_ (by decide) rfl 15 (by decide) (hts _ (List.mem_cons_of_mem _ t_750)) (fun _ h9 => h9) rfl rfl (okV_i (bdT x_9)) rfl rfl (by decide) (Or.inr (Or.inl (by decide))) (fx' := [(1, 0, a0_, .ref q0_), (1, 1, a0_, .ref q1_), (1, 12, a0_, .int y0_), (1, 5, a0_, .int y1_), (7, 13, q0_, .int y2_), (7, 1, q0_, .int y3_)]) rfl dX1_go_330 (fun f H locs hM_11 g => ?_)
          have hG_12 := cOK.frame hM_11 go_.2.2.2.1 mq0_ kq0_ (by decide) (by decide) hG6_c_q0_
          subst hQ
          exact W.vret hx hb hr (fun t ht hW => ⟨⟨_, rfl, trivial, q3_of g hK ht hW⟩, g.2.2.1.F ht⟩) g.2.2.1.2.2 dX1_go_333
        · have fc_10 := eq_f c_10
          have b_13 : bd 0 0 x_9 := eqX fc_10 (bdT x_9) kb_0 (by decide)
          refine lv_iconst (v := 3) hx hb dX1_go_322 (by decide) ?_
          refine lv_goto (tgt := 330) hx hb dX1_go_323 (by decide) ?_
          have kb_3 : bd 3 3 (3 : Int32) := ⟨by decide, by decide⟩
          have go_ := g
          refine g_put (C := RX1) (T := TX1) (N := 18) hx hb hts (mc_ inX1) tyX1 tyX1_ok nmX1 hown hK g ma0_ ka0_ (by decide) rfl 15 (by decide) (hts _ (List.mem_cons_of_mem _ t_750)) (fun _ h9 => h9) rfl rfl (okV_i (bd_sub kb_3 (by decide))) rfl rfl (by decide) (Or.inr (Or.inl (by decide))) (fx' := [(1, 0, a0_, .ref q0_), (1, 1, a0_, .ref q1_), (1, 12, a0_, .int y0_), (1, 5, a0_, .int y1_), (7, 13, q0_, .int y2_), (7, 1, q0_, .int y3_)]) rfl dX1_go_330 (fun f H locs hM_14 g => ?_)
          have hG_15 := cOK.frame hM_14 go_.2.2.2.1 mq0_ kq0_ (by decide) (by decide) hG6_c_q0_
          subst hQ
          exact W.vret hx hb hr (fun t ht hW => ⟨⟨_, rfl, trivial, q3_of g hK ht hW⟩, g.2.2.1.F ht⟩) g.2.2.1.2.2 dX1_go_333
      · have fc_7 := nle_f c_7
        have b_16 : bd 0 999999 v6_1 := ltL fc_7 bv6_1 kb_1000000 (by decide)
        refine lv_aload_n hx hb dX1_go_12 rfl (lv_at hl 1 rfl) ?_
        refine g_geti (C := RX1) (T := TX1) (N := 18) hx hb hts (mc_ inX1) hown hK g ma0_ ka0_ (by decide) rfl 15 (by decide) rfl (hts _ (List.mem_cons_of_mem _ t_750)) (fun _ h9 => h9) rfl dX1_go_13 (fun x_17 bx_17 g => ?_)
        have kb_0 : bd 0 0 (0 : Int32) := ⟨by decide, by decide⟩
        refine lv_if_ne (tgt := 314) hx hb dX1_go_16 (by decide) (fun c_18 => ?_) (fun c_18 => ?_)
        · have fc_18 := neq_f c_18
          refine lv_aload_n hx hb dX1_go_314 rfl (lv_at hl 1 rfl) ?_
          refine lv_aload_n hx hb dX1_go_315 rfl (lv_at hl 1 rfl) ?_
          refine g_getk (C := RX1) (T := TX1) (N := 18) hx hb hts (mc_ inX1) hown hK g rfl 15 (by decide) rfl (hts _ (List.mem_cons_of_mem _ t_750)) (fun _ h9 => h9) 0 rfl dX1_go_316 ?_
          refine lv_if_ne (tgt := 326) hx hb dX1_go_319 (by decide) (fun c_19 => ?_) (fun c_19 => ?_)
          · have fc_19 := neq_f c_19
            refine lv_aload_n hx hb dX1_go_326 rfl (lv_at hl 1 rfl) ?_
            refine g_getk (C := RX1) (T := TX1) (N := 18) hx hb hts (mc_ inX1) hown hK g rfl 15 (by decide) rfl (hts _ (List.mem_cons_of_mem _ t_750)) (fun _ h9 => h9) 0 rfl dX1_go_327 ?_
            have go_ := g
            refine g_put (C := RX1) (T := TX1) (N := 18) hx hb hts (mc_ inX1) tyX1 tyX1_ok nmX1 hown hK g ma0_ ka0_ (by decide) rfl 15 (by decide) (hts _ (List.mem_cons_of_mem _ t_750)) (fun _ h9 => h9) rfl rfl (okV_i (bdT x_17)) rfl rfl (by decide) (Or.inr (Or.inl (by decide))) (fx' := [(1, 0, a0_, .ref q0_), (1, 1, a0_, .ref q1_), (1, 12, a0_, .int y0_), (1, 5, a0_, .int y1_), (7, 13, q0_, .int y2_), (7, 1, q0_, .int y3_)]) rfl dX1_go_330 (fun f H locs hM_20 g => ?_)
            have hG_21 := cOK.frame hM_20 go_.2.2.2.1 mq0_ kq0_ (by decide) (by decide) hG6_c_q0_
            subst hQ
            exact W.vret hx hb hr (fun t ht hW => ⟨⟨_, rfl, trivial, q3_of g hK ht hW⟩, g.2.2.1.F ht⟩) g.2.2.1.2.2 dX1_go_333
          · have fc_19 := eq_f c_19
            have b_22 : bd 0 0 x_17 := eqX fc_19 (bdT x_17) kb_0 (by decide)
            refine lv_iconst (v := 3) hx hb dX1_go_322 (by decide) ?_
            refine lv_goto (tgt := 330) hx hb dX1_go_323 (by decide) ?_
            have kb_3 : bd 3 3 (3 : Int32) := ⟨by decide, by decide⟩
            have go_ := g
            refine g_put (C := RX1) (T := TX1) (N := 18) hx hb hts (mc_ inX1) tyX1 tyX1_ok nmX1 hown hK g ma0_ ka0_ (by decide) rfl 15 (by decide) (hts _ (List.mem_cons_of_mem _ t_750)) (fun _ h9 => h9) rfl rfl (okV_i (bd_sub kb_3 (by decide))) rfl rfl (by decide) (Or.inr (Or.inl (by decide))) (fx' := [(1, 0, a0_, .ref q0_), (1, 1, a0_, .ref q1_), (1, 12, a0_, .int y0_), (1, 5, a0_, .int y1_), (7, 13, q0_, .int y2_), (7, 1, q0_, .int y3_)]) rfl dX1_go_330 (fun f H locs hM_23 g => ?_)
            have hG_24 := cOK.frame hM_23 go_.2.2.2.1 mq0_ kq0_ (by decide) (by decide) hG6_c_q0_
            subst hQ
            exact W.vret hx hb hr (fun t ht hW => ⟨⟨_, rfl, trivial, q3_of g hK ht hW⟩, g.2.2.1.F ht⟩) g.2.2.1.2.2 dX1_go_333
        · have fc_18 := eq_f c_18
          have b_25 : bd 0 0 x_17 := eqX fc_18 (bdT x_17) kb_0 (by decide)
          refine lv_aload_n hx hb dX1_go_19 rfl (lv_at hl 1 rfl) ?_
          refine g_geti (C := RX1) (T := TX1) (N := 18) hx hb hts (mc_ inX1) hown hK g ma0_ ka0_ (by decide) rfl 13 (by decide) rfl (hts _ (List.mem_cons_of_mem _ t_748)) (fun _ h9 => h9) rfl dX1_go_20 (fun x_26 bx_26 g => ?_)
          refine lv_if_lt (tgt := 44) hx hb dX1_go_23 (by decide) (fun c_27 => ?_) (fun c_27 => ?_)
          · have fc_27 := lt_f c_27
            have b_28 : bd (-2147483648) (-1) x_26 := ltL fc_27 (bdT x_26) kb_0 (by decide)
            refine lv_iconst (v := 0) hx hb dX1_go_44 (by decide) ?_
            refine lv_istore_n (lv' := [(2, .int 0), (1, .int v6_1), (0, .ref a0_)]) hx hb dX1_go_45 rfl hl (by decide) rfl (fun ls hl => ?_)
            refine lv_iload_n hx hb dX1_go_46 rfl (lv_at hl 0 rfl) ?_
            refine lv_if_eq (tgt := 65) hx hb dX1_go_47 (by decide) (fun c_ => ?_) (fun c_ => absurd (by decide) c_)
            refine lv_bipush (v := 19) hx hb dX1_go_65 (by decide) ?_
            refine lv_istore_n (lv' := [(3, .int 19), (2, .int 0), (1, .int v6_1), (0, .ref a0_)]) hx hb dX1_go_67 rfl hl (by decide) rfl (fun ls hl => ?_)
            refine lv_iload_n hx hb dX1_go_68 rfl (lv_at hl 1 rfl) ?_
            refine lv_if_eq (tgt := 87) hx hb dX1_go_69 (by decide) (fun c_ => ?_) (fun c_ => absurd (by decide) c_)
            refine lv_iconst (v := 0) hx hb dX1_go_87 (by decide) ?_
            refine lv_istore (lv' := [(4, .int 0), (3, .int 19), (2, .int 0), (1, .int v6_1), (0, .ref a0_)]) hx hb dX1_go_88 hl (by decide) rfl (fun ls hl => ?_)
            refine lv_aload_n hx hb dX1_go_90 rfl (lv_at hl 4 rfl) ?_
            refine lv_dup hx hb dX1_go_91 rfl ?_
            refine g_getk (C := RX1) (T := TX1) (N := 18) hx hb hts (mc_ inX1) hown hK g rfl 13 (by decide) rfl (hts _ (List.mem_cons_of_mem _ t_748)) (fun _ h9 => h9) 0 rfl dX1_go_92 ?_
            refine lv_iconst (v := 1) hx hb dX1_go_95 (by decide) ?_
            have kb_1 : bd 1 1 (1 : Int32) := ⟨by decide, by decide⟩
            refine lv_iadd hx hb dX1_go_96 ?_
            refine lv_topi (fun y_29 ey_29 => ?_)
            have ty_29 := add_bd ey_29 b_28 kb_1 (by decide)
            have b_30 : bd (-2147483647) 0 y_29 := add_rg ty_29 b_28 kb_1 (by decide)
            have go_ := g
            refine g_put (C := RX1) (T := TX1) (N := 18) hx hb hts (mc_ inX1) tyX1 tyX1_ok nmX1 hown hK g ma0_ ka0_ (by decide) rfl 13 (by decide) (hts _ (List.mem_cons_of_mem _ t_748)) (fun _ h9 => h9) rfl rfl (okV_i (bd_sub b_30 (by decide))) rfl rfl (by decide) (Or.inr (Or.inl (by decide))) (fx' := [(1, 15, a0_, .int x_17), (1, 0, a0_, .ref q0_), (1, 1, a0_, .ref q1_), (1, 12, a0_, .int y0_), (1, 5, a0_, .int y1_), (7, 13, q0_, .int y2_), (7, 1, q0_, .int y3_)]) rfl dX1_go_97 (fun f H locs hM_31 g => ?_)
            have hG_32 := cOK.frame hM_31 go_.2.2.2.1 mq0_ kq0_ (by decide) (by decide) hG6_c_q0_
            refine lv_iload_n hx hb dX1_go_100 rfl (lv_at hl 1 rfl) ?_
            refine lv_iconst (v := 5) hx hb dX1_go_101 (by decide) ?_
            refine lv_icmp_gt (tgt := 119) hx hb dX1_go_102 (by decide) (fun c_ => ?_) (fun c_ => absurd (by decide) c_)
            refine lv_iload_n hx hb dX1_go_119 rfl (lv_at hl 1 rfl) ?_
            refine lv_bipush (v := 11) hx hb dX1_go_120 (by decide) ?_
            refine lv_icmp_gt (tgt := 143) hx hb dX1_go_122 (by decide) (fun c_ => ?_) (fun c_ => absurd (by decide) c_)
            refine lv_iload_n hx hb dX1_go_143 rfl (lv_at hl 1 rfl) ?_
            refine lv_bipush (v := 16) hx hb dX1_go_144 (by decide) ?_
            refine lv_icmp_gt (tgt := 159) hx hb dX1_go_146 (by decide) (fun c_ => ?_) (fun c_ => absurd (by decide) c_)
            refine lv_iload_n hx hb dX1_go_159 rfl (lv_at hl 1 rfl) ?_
            refine lv_bipush (v := 17) hx hb dX1_go_160 (by decide) ?_
            refine lv_icmp_ne (tgt := 198) hx hb dX1_go_162 (by decide) (fun c_ => ?_) (fun c_ => absurd c_ (by decide))
            refine lv_iload_n hx hb dX1_go_198 rfl (lv_at hl 1 rfl) ?_
            refine lv_bipush (v := 18) hx hb dX1_go_199 (by decide) ?_
            refine lv_icmp_ne (tgt := 213) hx hb dX1_go_201 (by decide) (fun c_ => ?_) (fun c_ => absurd c_ (by decide))
            refine lv_iload_n hx hb dX1_go_213 rfl (lv_at hl 1 rfl) ?_
            refine lv_bipush (v := 19) hx hb dX1_go_214 (by decide) ?_
            refine lv_icmp_ne (tgt := 227) hx hb dX1_go_216 (by decide) (fun c_ => absurd c_ (by decide)) (fun c_ => ?_)
            refine lv_aload_n hx hb dX1_go_219 rfl (lv_at hl 4 rfl) ?_
            refine lv_iconst (v := 0) hx hb dX1_go_220 (by decide) ?_
            have go_ := g
            refine g_callv (va_runV (As := [.int 0]) (rest := []) ⟨hx, hb, hml, hown, hts⟩ (r_X1_leave_41 l dC dI L kd tys f H.size g.2.2.2.1 a0_ ma0_ ka0_ 0 kb_0 y_29 b_30 x_17 b_25 y0_ by0_ y1_ by1_ (g.fcts [0, 1, 4, 5] rfl)) (cwV 1 hts (gV_ t_1589 t_1591 t_65 t_195 t_1592) rfl rfl rfl (by decide +kernel) ⟨(Nat.le_of_ble_eq_true rfl), (Nat.le_of_ble_eq_true rfl)⟩) (pre3V g hK ma0_ ka0_ (by decide) (q := (RX1, TX1, 18)) rfl) rfl rfl hl.1 rfl (lv_room (Nat.le_of_ble_eq_true rfl)) dX1_go_221 ⟨(Nat.le_of_ble_eq_true rfl), (Nat.le_of_ble_eq_true rfl)⟩) g hK (by decide) (by decide) (fx' := [(1, 0, a0_, .ref q0_), (1, 1, a0_, .ref q1_), (1, 12, a0_, .int y0_), (1, 5, a0_, .int y1_), (7, 13, q0_, .int y2_), (7, 1, q0_, .int y3_)]) rfl (fun fr_33 H locs hp hMr_33 g => ?_)
            obtain ⟨x_34, h_35, x_36, h_37, hF_38⟩ := hp
            have hG_39 := cOK.frame hMr_33 go_.2.2.2.1 mq0_ kq0_ (by decide) (by decide) hG_32
            have g := g.more hF_38
            refine lv_goto (tgt := 308) hx hb dX1_go_224 (by decide) ?_
            obtain ⟨y_40, ey_40⟩ : ∃ z : Int32, z = v6_1 + 1 := ⟨_, rfl⟩
            refine lv_iinc (v := y_40) (lv' := [(1, .int y_40), (4, .int 0), (3, .int 19), (2, .int 0), (0, .ref a0_)]) hx hb dX1_go_308 hl (k := 3) rfl (by rw [ey_40]; rfl) (by decide) rfl (fun ls hl => ?_)
            have ty_40 := add_bd ey_40 b_16 kb_1 (by decide)
            have b_41 : bd 1 1000000 y_40 := add_rg ty_40 b_16 kb_1 (by decide)
            refine lv_goto (tgt := 6) hx hb dX1_go_311 (by decide) ?_
            have hl9 := lv_sub hl [0, 4] (by rfl : lv_pick [(1, .int y_40), (4, .int 0), (3, .int 19), (2, .int 0), (0, .ref a0_)] [0, 4] = [(1, .int y_40), (0, .ref a0_)])
            have g9 := g.sub (fx' := [(1, 0, a0_, .ref q0_), (1, 1, a0_, .ref q1_), (1, 12, a0_, .int y0_), (1, 5, a0_, .int y1_), (7, 13, q0_, .int y2_), (7, 1, q0_, .int y3_)]) [2, 3, 4, 5, 6, 7] rfl
            exact ih6  y_40 (bd_sub b_41 (by decide)) (by have h9_0 := b_41; unfold bd at h9_0; have h9_1 := bv6_1; unfold bd at h9_1; have h9_2 := h_35; unfold bd at h9_2; have h9_3 := h_37; unfold bd at h9_3; have h9_4 := kb_0; unfold bd at h9_4; have h9_5 := kb_1; unfold bd at h9_5; have h9_6 := kb_1000000; unfold bd at h9_6; omega) _ _ _ _ g9 hG_39 hl9
          · have fc_27 := nlt_f c_27
            have b_42 : bd 0 2147483647 x_26 := leR fc_27 kb_0 (bdT x_26) (by decide)
            refine lv_aload_n hx hb dX1_go_26 rfl (lv_at hl 1 rfl) ?_
            refine g_getk (C := RX1) (T := TX1) (N := 18) hx hb hts (mc_ inX1) hown hK g rfl 13 (by decide) rfl (hts _ (List.mem_cons_of_mem _ t_748)) (fun _ h9 => h9) 0 rfl dX1_go_27 ?_
            refine lv_aload_n hx hb dX1_go_30 rfl (lv_at hl 1 rfl) ?_
            refine g_getk (C := RX1) (T := TX1) (N := 18) hx hb hts (mc_ inX1) hown hK g rfl 0 (by decide) rfl (hts _ (List.mem_cons_of_mem _ t_735)) (fun _ h9 => h9) 2 rfl dX1_go_31 ?_
            refine g_geti (C := RX7) (T := TX7) (N := 19) hx hb hts (mc_ inX7) hown hK g mq0_ kq0_ (by decide) rfl 6 (by decide) rfl (hts _ (List.mem_cons_of_mem _ t_645)) (fun _ h9 => h9) rfl dX1_go_34 (fun x_43 bx_43 g => ?_)
            refine lv_icmp_ge (tgt := 44) hx hb dX1_go_37 (by decide) (fun c_44 => ?_) (fun c_44 => ?_)
            · have fc_44 := le_f c_44
              refine lv_iconst (v := 0) hx hb dX1_go_44 (by decide) ?_
              refine lv_istore_n (lv' := [(2, .int 0), (1, .int v6_1), (0, .ref a0_)]) hx hb dX1_go_45 rfl hl (by decide) rfl (fun ls hl => ?_)
              refine lv_iload_n hx hb dX1_go_46 rfl (lv_at hl 0 rfl) ?_
              refine lv_if_eq (tgt := 65) hx hb dX1_go_47 (by decide) (fun c_ => ?_) (fun c_ => absurd (by decide) c_)
              refine lv_bipush (v := 19) hx hb dX1_go_65 (by decide) ?_
              refine lv_istore_n (lv' := [(3, .int 19), (2, .int 0), (1, .int v6_1), (0, .ref a0_)]) hx hb dX1_go_67 rfl hl (by decide) rfl (fun ls hl => ?_)
              refine lv_iload_n hx hb dX1_go_68 rfl (lv_at hl 1 rfl) ?_
              refine lv_if_eq (tgt := 87) hx hb dX1_go_69 (by decide) (fun c_ => ?_) (fun c_ => absurd (by decide) c_)
              refine lv_iconst (v := 0) hx hb dX1_go_87 (by decide) ?_
              refine lv_istore (lv' := [(4, .int 0), (3, .int 19), (2, .int 0), (1, .int v6_1), (0, .ref a0_)]) hx hb dX1_go_88 hl (by decide) rfl (fun ls hl => ?_)
              refine lv_aload_n hx hb dX1_go_90 rfl (lv_at hl 4 rfl) ?_
              refine lv_dup hx hb dX1_go_91 rfl ?_
              refine g_getk (C := RX1) (T := TX1) (N := 18) hx hb hts (mc_ inX1) hown hK g rfl 13 (by decide) rfl (hts _ (List.mem_cons_of_mem _ t_748)) (fun _ h9 => h9) 1 rfl dX1_go_92 ?_
              refine lv_iconst (v := 1) hx hb dX1_go_95 (by decide) ?_
              have kb_1 : bd 1 1 (1 : Int32) := ⟨by decide, by decide⟩
              refine lv_iadd hx hb dX1_go_96 ?_
              refine lv_topi (fun y_45 ey_45 => ?_)
              have go_ := g
              refine g_put (C := RX1) (T := TX1) (N := 18) hx hb hts (mc_ inX1) tyX1 tyX1_ok nmX1 hown hK g ma0_ ka0_ (by decide) rfl 13 (by decide) (hts _ (List.mem_cons_of_mem _ t_748)) (fun _ h9 => h9) rfl rfl (okV_i (bdT y_45)) rfl rfl (by decide) (Or.inr (Or.inl (by decide))) (fx' := [(7, 6, q0_, .int x_43), (1, 15, a0_, .int x_17), (1, 0, a0_, .ref q0_), (1, 1, a0_, .ref q1_), (1, 12, a0_, .int y0_), (1, 5, a0_, .int y1_), (7, 13, q0_, .int y2_), (7, 1, q0_, .int y3_)]) rfl dX1_go_97 (fun f H locs hM_46 g => ?_)
              have hG_47 := cOK.frame hM_46 go_.2.2.2.1 mq0_ kq0_ (by decide) (by decide) hG6_c_q0_
              refine lv_iload_n hx hb dX1_go_100 rfl (lv_at hl 1 rfl) ?_
              refine lv_iconst (v := 5) hx hb dX1_go_101 (by decide) ?_
              refine lv_icmp_gt (tgt := 119) hx hb dX1_go_102 (by decide) (fun c_ => ?_) (fun c_ => absurd (by decide) c_)
              refine lv_iload_n hx hb dX1_go_119 rfl (lv_at hl 1 rfl) ?_
              refine lv_bipush (v := 11) hx hb dX1_go_120 (by decide) ?_
              refine lv_icmp_gt (tgt := 143) hx hb dX1_go_122 (by decide) (fun c_ => ?_) (fun c_ => absurd (by decide) c_)
              refine lv_iload_n hx hb dX1_go_143 rfl (lv_at hl 1 rfl) ?_
              refine lv_bipush (v := 16) hx hb dX1_go_144 (by decide) ?_
              refine lv_icmp_gt (tgt := 159) hx hb dX1_go_146 (by decide) (fun c_ => ?_) (fun c_ => absurd (by decide) c_)
              refine lv_iload_n hx hb dX1_go_159 rfl (lv_at hl 1 rfl) ?_
              refine lv_bipush (v := 17) hx hb dX1_go_160 (by decide) ?_
              refine lv_icmp_ne (tgt := 198) hx hb dX1_go_162 (by decide) (fun c_ => ?_) (fun c_ => absurd c_ (by decide))
              refine lv_iload_n hx hb dX1_go_198 rfl (lv_at hl 1 rfl) ?_
              refine lv_bipush (v := 18) hx hb dX1_go_199 (by decide) ?_
              refine lv_icmp_ne (tgt := 213) hx hb dX1_go_201 (by decide) (fun c_ => ?_) (fun c_ => absurd c_ (by decide))
              refine lv_iload_n hx hb dX1_go_213 rfl (lv_at hl 1 rfl) ?_
              refine lv_bipush (v := 19) hx hb dX1_go_214 (by decide) ?_
              refine lv_icmp_ne (tgt := 227) hx hb dX1_go_216 (by decide) (fun c_ => absurd c_ (by decide)) (fun c_ => ?_)
              refine lv_aload_n hx hb dX1_go_219 rfl (lv_at hl 4 rfl) ?_
              refine lv_iconst (v := 0) hx hb dX1_go_220 (by decide) ?_
              have go_ := g
              refine g_callv (va_runV (As := [.int 0]) (rest := []) ⟨hx, hb, hml, hown, hts⟩ (r_X1_leave_42 l dC dI L kd tys f H.size g.2.2.2.1 a0_ ma0_ ka0_ 0 kb_0 x_17 b_25 y0_ by0_ y1_ by1_ (g.fcts [2, 5, 6] rfl)) (cwV 1 hts (gV_ t_1589 t_1591 t_65 t_195 t_1592) rfl rfl rfl (by decide +kernel) ⟨(Nat.le_of_ble_eq_true rfl), (Nat.le_of_ble_eq_true rfl)⟩) (pre3V g hK ma0_ ka0_ (by decide) (q := (RX1, TX1, 18)) rfl) rfl rfl hl.1 rfl (lv_room (Nat.le_of_ble_eq_true rfl)) dX1_go_221 ⟨(Nat.le_of_ble_eq_true rfl), (Nat.le_of_ble_eq_true rfl)⟩) g hK (by decide) (by decide) (fx' := [(7, 6, q0_, .int x_43), (1, 0, a0_, .ref q0_), (1, 1, a0_, .ref q1_), (1, 12, a0_, .int y0_), (1, 5, a0_, .int y1_), (7, 13, q0_, .int y2_), (7, 1, q0_, .int y3_)]) rfl (fun fr_48 H locs hp hMr_48 g => ?_)
              obtain ⟨x_49, h_50, x_51, h_52, hF_53⟩ := hp
              have hG_54 := cOK.frame hMr_48 go_.2.2.2.1 mq0_ kq0_ (by decide) (by decide) hG_47
              have g := g.more hF_53
              refine lv_goto (tgt := 308) hx hb dX1_go_224 (by decide) ?_
              obtain ⟨y_55, ey_55⟩ : ∃ z : Int32, z = v6_1 + 1 := ⟨_, rfl⟩
              refine lv_iinc (v := y_55) (lv' := [(1, .int y_55), (4, .int 0), (3, .int 19), (2, .int 0), (0, .ref a0_)]) hx hb dX1_go_308 hl (k := 3) rfl (by rw [ey_55]; rfl) (by decide) rfl (fun ls hl => ?_)
              have ty_55 := add_bd ey_55 b_16 kb_1 (by decide)
              have b_56 : bd 1 1000000 y_55 := add_rg ty_55 b_16 kb_1 (by decide)
              refine lv_goto (tgt := 6) hx hb dX1_go_311 (by decide) ?_
              have hl9 := lv_sub hl [0, 4] (by rfl : lv_pick [(1, .int y_55), (4, .int 0), (3, .int 19), (2, .int 0), (0, .ref a0_)] [0, 4] = [(1, .int y_55), (0, .ref a0_)])
              have g9 := g.sub (fx' := [(1, 0, a0_, .ref q0_), (1, 1, a0_, .ref q1_), (1, 12, a0_, .int y0_), (1, 5, a0_, .int y1_), (7, 13, q0_, .int y2_), (7, 1, q0_, .int y3_)]) [3, 4, 5, 6, 7, 8] rfl
              exact ih6  y_55 (bd_sub b_56 (by decide)) (by have h9_0 := b_56; unfold bd at h9_0; have h9_1 := bv6_1; unfold bd at h9_1; have h9_2 := h_50; unfold bd at h9_2; have h9_3 := h_52; unfold bd at h9_3; have h9_4 := kb_0; unfold bd at h9_4; have h9_5 := kb_1; unfold bd at h9_5; have h9_6 := kb_1000000; unfold bd at h9_6; omega) _ _ _ _ g9 hG_54 hl9
            · have fc_44 := nle_f c_44
              have b_57 : bd 0 1999 x_26 := ltL fc_44 b_42 bx_43 (by decide)
              have b_58 : bd 1 2000 x_43 := ltR fc_44 b_42 bx_43 (by decide)
              refine lv_iconst (v := 1) hx hb dX1_go_40 (by decide) ?_
              refine lv_goto (tgt := 45) hx hb dX1_go_41 (by decide) ?_
              refine lv_istore_n (lv' := [(2, .int 1), (1, .int v6_1), (0, .ref a0_)]) hx hb dX1_go_45 rfl hl (by decide) rfl (fun ls hl => ?_)
              refine lv_iload_n hx hb dX1_go_46 rfl (lv_at hl 0 rfl) ?_
              refine lv_if_eq (tgt := 65) hx hb dX1_go_47 (by decide) (fun c_ => absurd c_ (by decide)) (fun c_ => ?_)
              refine lv_aload_n hx hb dX1_go_50 rfl (lv_at hl 2 rfl) ?_
              refine g_getk (C := RX1) (T := TX1) (N := 18) hx hb hts (mc_ inX1) hown hK g rfl 0 (by decide) rfl (hts _ (List.mem_cons_of_mem _ t_735)) (fun _ h9 => h9) 3 rfl dX1_go_51 ?_
              refine g_getr (K := 138) (C := RX7) (T := TX7) (N := 19) hx hb hts (mc_ inX7) hown hK g mq0_ kq0_ (by decide) rfl 4 (by decide) rfl (hts _ (List.mem_cons_of_mem _ t_641)) (fun _ h9 => h9) rfl dX1_go_54 (fun a_59 ma_59 ka_59 g => ?_)
              refine lv_aload_n hx hb dX1_go_57 rfl (lv_at hl 2 rfl) ?_
              refine g_getk (C := RX1) (T := TX1) (N := 18) hx hb hts (mc_ inX1) hown hK g rfl 13 (by decide) rfl (hts _ (List.mem_cons_of_mem _ t_748)) (fun _ h9 => h9) 2 rfl dX1_go_58 ?_
              refine g_iald hx hb hK g ma_59 ka_59 (by decide) rfl (in_bd b_57 (by decide)) dX1_go_61 (fun x_60 bx_60 cx_60 => ?_)
              refine lv_goto (tgt := 67) hx hb dX1_go_62 (by decide) ?_
              refine lv_istore_n (lv' := [(3, .int x_60), (2, .int 1), (1, .int v6_1), (0, .ref a0_)]) hx hb dX1_go_67 rfl hl (by decide) rfl (fun ls hl => ?_)
              refine lv_iload_n hx hb dX1_go_68 rfl (lv_at hl 1 rfl) ?_
              refine lv_if_eq (tgt := 87) hx hb dX1_go_69 (by decide) (fun c_ => absurd c_ (by decide)) (fun c_ => ?_)
              refine lv_aload_n hx hb dX1_go_72 rfl (lv_at hl 3 rfl) ?_
              refine g_getk (C := RX1) (T := TX1) (N := 18) hx hb hts (mc_ inX1) hown hK g rfl 0 (by decide) rfl (hts _ (List.mem_cons_of_mem _ t_735)) (fun _ h9 => h9) 4 rfl dX1_go_73 ?_
              refine g_getr (K := 139) (C := RX7) (T := TX7) (N := 19) hx hb hts (mc_ inX7) hown hK g mq0_ kq0_ (by decide) rfl 5 (by decide) rfl (hts _ (List.mem_cons_of_mem _ t_643)) (fun _ h9 => h9) rfl dX1_go_76 (fun a_61 ma_61 ka_61 g => ?_)
              refine lv_aload_n hx hb dX1_go_79 rfl (lv_at hl 3 rfl) ?_
              refine g_getk (C := RX1) (T := TX1) (N := 18) hx hb hts (mc_ inX1) hown hK g rfl 13 (by decide) rfl (hts _ (List.mem_cons_of_mem _ t_748)) (fun _ h9 => h9) 3 rfl dX1_go_80 ?_
              refine g_iald hx hb hK g ma_61 ka_61 (by decide) rfl (in_bd b_57 (by decide)) dX1_go_83 (fun x_62 bx_62 cx_62 => ?_)
              have hc_63 : crel x_60 x_62 := hG6_c_q0_.at g 1 0 2 rfl rfl rfl cx_60 cx_62 b_57 (by decide) fc_44
              refine lv_goto (tgt := 88) hx hb dX1_go_84 (by decide) ?_
              refine lv_istore (lv' := [(4, .int x_62), (3, .int x_60), (2, .int 1), (1, .int v6_1), (0, .ref a0_)]) hx hb dX1_go_88 hl (by decide) rfl (fun ls hl => ?_)
              refine lv_aload_n hx hb dX1_go_90 rfl (lv_at hl 4 rfl) ?_
              refine lv_dup hx hb dX1_go_91 rfl ?_
              refine g_getk (C := RX1) (T := TX1) (N := 18) hx hb hts (mc_ inX1) hown hK g rfl 13 (by decide) rfl (hts _ (List.mem_cons_of_mem _ t_748)) (fun _ h9 => h9) 3 rfl dX1_go_92 ?_
              refine lv_iconst (v := 1) hx hb dX1_go_95 (by decide) ?_
              have kb_1 : bd 1 1 (1 : Int32) := ⟨by decide, by decide⟩
              refine lv_iadd hx hb dX1_go_96 ?_
              refine lv_topi (fun y_64 ey_64 => ?_)
              have ty_64 := add_bd ey_64 b_57 kb_1 (by decide)
              have b_65 : bd 1 2000 y_64 := add_rg ty_64 b_57 kb_1 (by decide)
              have go_ := g
              refine g_put (C := RX1) (T := TX1) (N := 18) hx hb hts (mc_ inX1) tyX1 tyX1_ok nmX1 hown hK g ma0_ ka0_ (by decide) rfl 13 (by decide) (hts _ (List.mem_cons_of_mem _ t_748)) (fun _ h9 => h9) rfl rfl (okV_i (bd_sub b_65 (by decide))) rfl rfl (by decide) (Or.inr (Or.inl (by decide))) (fx' := [(7, 5, q0_, .ref a_61), (7, 4, q0_, .ref a_59), (7, 6, q0_, .int x_43), (1, 15, a0_, .int x_17), (1, 0, a0_, .ref q0_), (1, 1, a0_, .ref q1_), (1, 12, a0_, .int y0_), (1, 5, a0_, .int y1_), (7, 13, q0_, .int y2_), (7, 1, q0_, .int y3_)]) rfl dX1_go_97 (fun f H locs hM_66 g => ?_)
              have hG_67 := cOK.frame hM_66 go_.2.2.2.1 mq0_ kq0_ (by decide) (by decide) hG6_c_q0_
              refine lv_iload_n hx hb dX1_go_100 rfl (lv_at hl 1 rfl) ?_
              refine lv_iconst (v := 5) hx hb dX1_go_101 (by decide) ?_
              have kb_5 : bd 5 5 (5 : Int32) := ⟨by decide, by decide⟩
              refine lv_icmp_gt (tgt := 119) hx hb dX1_go_102 (by decide) (fun c_68 => ?_) (fun c_68 => ?_)
              · have fc_68 := lt_f c_68
                have b_69 : bd 6 2147483647 x_60 := ltR fc_68 kb_5 (bdT x_60) (by decide)
                refine lv_iload_n hx hb dX1_go_119 rfl (lv_at hl 1 rfl) ?_
                refine lv_bipush (v := 11) hx hb dX1_go_120 (by decide) ?_
                have kb_11 : bd 11 11 (11 : Int32) := ⟨by decide, by decide⟩
                refine lv_icmp_gt (tgt := 143) hx hb dX1_go_122 (by decide) (fun c_70 => ?_) (fun c_70 => ?_)
                · have fc_70 := lt_f c_70
                  have b_71 : bd 12 2147483647 x_60 := ltR fc_70 kb_11 b_69 (by decide)
                  refine lv_iload_n hx hb dX1_go_143 rfl (lv_at hl 1 rfl) ?_
                  refine lv_bipush (v := 16) hx hb dX1_go_144 (by decide) ?_
                  have kb_16 : bd 16 16 (16 : Int32) := ⟨by decide, by decide⟩
                  refine lv_icmp_gt (tgt := 159) hx hb dX1_go_146 (by decide) (fun c_72 => ?_) (fun c_72 => ?_)
                  · have fc_72 := lt_f c_72
                    have b_73 : bd 17 2147483647 x_60 := ltR fc_72 kb_16 b_71 (by decide)
                    refine lv_iload_n hx hb dX1_go_159 rfl (lv_at hl 1 rfl) ?_
                    refine lv_bipush (v := 17) hx hb dX1_go_160 (by decide) ?_
                    have kb_17 : bd 17 17 (17 : Int32) := ⟨by decide, by decide⟩
                    refine lv_icmp_ne (tgt := 198) hx hb dX1_go_162 (by decide) (fun c_74 => ?_) (fun c_74 => ?_)
                    · have fc_74 := neq_f c_74
                      have b_75 : bd 18 2147483647 x_60 := neX fc_74 b_73 kb_17 (by decide)
                      refine lv_iload_n hx hb dX1_go_198 rfl (lv_at hl 1 rfl) ?_
                      refine lv_bipush (v := 18) hx hb dX1_go_199 (by decide) ?_
                      have kb_18 : bd 18 18 (18 : Int32) := ⟨by decide, by decide⟩
                      refine lv_icmp_ne (tgt := 213) hx hb dX1_go_201 (by decide) (fun c_76 => ?_) (fun c_76 => ?_)
                      · have fc_76 := neq_f c_76
                        have b_77 : bd 19 2147483647 x_60 := neX fc_76 b_75 kb_18 (by decide)
                        refine lv_iload_n hx hb dX1_go_213 rfl (lv_at hl 1 rfl) ?_
                        refine lv_bipush (v := 19) hx hb dX1_go_214 (by decide) ?_
                        have kb_19 : bd 19 19 (19 : Int32) := ⟨by decide, by decide⟩
                        refine lv_icmp_ne (tgt := 227) hx hb dX1_go_216 (by decide) (fun c_78 => ?_) (fun c_78 => ?_)
                        · have fc_78 := neq_f c_78
                          have b_79 : bd 20 2147483647 x_60 := neX fc_78 b_77 kb_19 (by decide)
                          refine lv_iload_n hx hb dX1_go_227 rfl (lv_at hl 1 rfl) ?_
                          refine lv_bipush (v := 26) hx hb dX1_go_228 (by decide) ?_
                          have kb_26 : bd 26 26 (26 : Int32) := ⟨by decide, by decide⟩
                          refine lv_icmp_ne (tgt := 244) hx hb dX1_go_230 (by decide) (fun c_80 => ?_) (fun c_80 => ?_)
                          · have fc_80 := neq_f c_80
                            refine lv_iload_n hx hb dX1_go_244 rfl (lv_at hl 1 rfl) ?_
                            refine lv_bipush (v := 25) hx hb dX1_go_245 (by decide) ?_
                            have kb_25 : bd 25 25 (25 : Int32) := ⟨by decide, by decide⟩
                            refine lv_icmp_gt (tgt := 264) hx hb dX1_go_247 (by decide) (fun c_81 => ?_) (fun c_81 => ?_)
                            · have fc_81 := lt_f c_81
                              have b_82 : bd 26 2147483647 x_60 := ltR fc_81 kb_25 b_79 (by decide)
                              refine lv_aload_n hx hb dX1_go_264 rfl (lv_at hl 4 rfl) ?_
                              have go_ := g
                              refine g_calli (va_runV (As := []) (rest := []) ⟨hx, hb, hml, hown, hts⟩ (r_X1_pop l dC dI L kd tys f H.size g.2.2.2.1 a0_ ma0_ ka0_) (cwV 0 hts (gV_ t_1572 t_1574 t_61 t_195 t_1575) rfl rfl rfl (by decide +kernel) ⟨(Nat.le_of_ble_eq_true rfl), (Nat.le_of_ble_eq_true rfl)⟩) (pre3V g hK ma0_ ka0_ (by decide) (q := (RX1, TX1, 18)) rfl) rfl rfl hl.1 rfl (lv_room (Nat.le_of_ble_eq_true rfl)) dX1_go_265 ⟨(Nat.le_of_ble_eq_true rfl), (Nat.le_of_ble_eq_true rfl)⟩) g hK (by decide) (by decide) (fx' := [(1, 13, a0_, .int y_64), (7, 5, q0_, .ref a_61), (7, 4, q0_, .ref a_59), (7, 6, q0_, .int x_43), (1, 15, a0_, .int x_17), (1, 0, a0_, .ref q0_), (1, 1, a0_, .ref q1_), (1, 12, a0_, .int y0_), (1, 5, a0_, .int y1_), (7, 13, q0_, .int y2_), (7, 1, q0_, .int y3_)]) rfl (fun r_83 fr_83 H locs hp hMr_83 g => ?_)
                              obtain ⟨x_84, h_85, hF_86⟩ := hp
                              have hG_87 := cOK.frame hMr_83 go_.2.2.2.1 mq0_ kq0_ (by decide) (by decide) hG_67
                              have g := g.more hF_86
                              refine lv_istore (lv' := [(5, .int r_83), (4, .int x_62), (3, .int x_60), (2, .int 1), (1, .int v6_1), (0, .ref a0_)]) hx hb dX1_go_268 hl (by decide) rfl (fun ls hl => ?_)
                              refine lv_aload_n hx hb dX1_go_270 rfl (lv_at hl 5 rfl) ?_
                              have go_ := g
                              refine g_calli (va_runV (As := []) (rest := []) ⟨hx, hb, hml, hown, hts⟩ (r_X1_pop l dC dI L kd tys fr_83 H.size g.2.2.2.1 a0_ ma0_ ka0_) (cwV 0 hts (gV_ t_1572 t_1574 t_61 t_195 t_1575) rfl rfl rfl (by decide +kernel) ⟨(Nat.le_of_ble_eq_true rfl), (Nat.le_of_ble_eq_true rfl)⟩) (pre3V g hK ma0_ ka0_ (by decide) (q := (RX1, TX1, 18)) rfl) rfl rfl hl.1 rfl (lv_room (Nat.le_of_ble_eq_true rfl)) dX1_go_271 ⟨(Nat.le_of_ble_eq_true rfl), (Nat.le_of_ble_eq_true rfl)⟩) g hK (by decide) (by decide) (fx' := [(1, 13, a0_, .int y_64), (7, 5, q0_, .ref a_61), (7, 4, q0_, .ref a_59), (7, 6, q0_, .int x_43), (1, 15, a0_, .int x_17), (1, 0, a0_, .ref q0_), (1, 1, a0_, .ref q1_), (1, 12, a0_, .int y0_), (1, 5, a0_, .int y1_), (7, 13, q0_, .int y2_), (7, 1, q0_, .int y3_)]) rfl (fun r_88 fr_88 H locs hp hMr_88 g => ?_)
                              obtain ⟨x_89, h_90, hF_91⟩ := hp
                              have hG_92 := cOK.frame hMr_88 go_.2.2.2.1 mq0_ kq0_ (by decide) (by decide) hG_87
                              have g := g.more hF_91
                              refine lv_istore (lv' := [(6, .int r_88), (5, .int r_83), (4, .int x_62), (3, .int x_60), (2, .int 1), (1, .int v6_1), (0, .ref a0_)]) hx hb dX1_go_274 hl (by decide) rfl (fun ls hl => ?_)
                              refine lv_iload_n hx hb dX1_go_276 rfl (lv_at hl 3 rfl) ?_
                              refine lv_bipush (v := 27) hx hb dX1_go_277 (by decide) ?_
                              have kb_27 : bd 27 27 (27 : Int32) := ⟨by decide, by decide⟩
                              refine lv_icmp_ne (tgt := 295) hx hb dX1_go_279 (by decide) (fun c_93 => ?_) (fun c_93 => ?_)
                              · have fc_93 := neq_f c_93
                                refine lv_aload_n hx hb dX1_go_295 rfl (lv_at hl 6 rfl) ?_
                                refine lv_aload_n hx hb dX1_go_296 rfl (lv_at hl 6 rfl) ?_
                                refine lv_iload_n hx hb dX1_go_297 rfl (lv_at hl 3 rfl) ?_
                                refine lv_iload hx hb dX1_go_298 (lv_at hl 0 rfl) ?_
                                refine lv_iload hx hb dX1_go_300 (lv_at hl 1 rfl) ?_
                                have go_ := g
                                refine g_calli (va_runV (As := [.int x_60, .int r_88, .int r_83]) (rest := [.ref a0_]) ⟨hx, hb, hml, hown, hts⟩ (r_X1_reckon l dC dI L kd tys fr_88 H.size g.2.2.2.1 a0_ ma0_ ka0_ x_60 r_88 r_83) (cwV 3 hts (gV_ t_1601 t_1603 t_68 t_195 t_1604) rfl rfl rfl (by decide +kernel) ⟨(Nat.le_of_ble_eq_true rfl), (Nat.le_of_ble_eq_true rfl)⟩) (pre3V g hK ma0_ ka0_ (by decide) (q := (RX1, TX1, 18)) rfl) rfl rfl hl.1 rfl (lv_room (Nat.le_of_ble_eq_true rfl)) dX1_go_302 ⟨(Nat.le_of_ble_eq_true rfl), (Nat.le_of_ble_eq_true rfl)⟩) g hK (by decide) (by decide) (fx' := [(1, 8, a0_, .int x_89), (1, 13, a0_, .int y_64), (7, 5, q0_, .ref a_61), (7, 4, q0_, .ref a_59), (7, 6, q0_, .int x_43), (1, 0, a0_, .ref q0_), (1, 1, a0_, .ref q1_), (1, 12, a0_, .int y0_), (1, 5, a0_, .int y1_), (7, 13, q0_, .int y2_), (7, 1, q0_, .int y3_)]) rfl (fun r_94 fr_94 H locs hp hMr_94 g => ?_)
                                have hG_95 := cOK.frame hMr_94 go_.2.2.2.1 mq0_ kq0_ (by decide) (by decide) hG_92
                                have go_ := g
                                refine g_callv (va_runV (As := [.int r_94]) (rest := []) ⟨hx, hb, hml, hown, hts⟩ (r_X1_push l dC dI L kd tys fr_94 H.size g.2.2.2.1 a0_ ma0_ ka0_ r_94) (cwV 1 hts (gV_ t_1568 t_1570 t_60 t_195 t_1571) rfl rfl rfl (by decide +kernel) ⟨(Nat.le_of_ble_eq_true rfl), (Nat.le_of_ble_eq_true rfl)⟩) (pre3V g hK ma0_ ka0_ (by decide) (q := (RX1, TX1, 18)) rfl) rfl rfl hl.1 rfl (lv_room (Nat.le_of_ble_eq_true rfl)) dX1_go_305 ⟨(Nat.le_of_ble_eq_true rfl), (Nat.le_of_ble_eq_true rfl)⟩) g hK (by decide) (by decide) (fx' := [(1, 13, a0_, .int y_64), (7, 5, q0_, .ref a_61), (7, 4, q0_, .ref a_59), (7, 6, q0_, .int x_43), (1, 0, a0_, .ref q0_), (1, 1, a0_, .ref q1_), (1, 12, a0_, .int y0_), (1, 5, a0_, .int y1_), (7, 13, q0_, .int y2_), (7, 1, q0_, .int y3_)]) rfl (fun fr_96 H locs hp hMr_96 g => ?_)
                                obtain ⟨x_97, h_98, hF_99⟩ := hp
                                have hG_100 := cOK.frame hMr_96 go_.2.2.2.1 mq0_ kq0_ (by decide) (by decide) hG_95
                                have g := g.more hF_99
                                obtain ⟨y_101, ey_101⟩ : ∃ z : Int32, z = v6_1 + 1 := ⟨_, rfl⟩
                                refine lv_iinc (v := y_101) (lv' := [(1, .int y_101), (6, .int r_88), (5, .int r_83), (4, .int x_62), (3, .int x_60), (2, .int 1), (0, .ref a0_)]) hx hb dX1_go_308 hl (k := 5) rfl (by rw [ey_101]; rfl) (by decide) rfl (fun ls hl => ?_)
                                have ty_101 := add_bd ey_101 b_16 kb_1 (by decide)
                                have b_102 : bd 1 1000000 y_101 := add_rg ty_101 b_16 kb_1 (by decide)
                                refine lv_goto (tgt := 6) hx hb dX1_go_311 (by decide) ?_
                                have hl9 := lv_sub hl [0, 6] (by rfl : lv_pick [(1, .int y_101), (6, .int r_88), (5, .int r_83), (4, .int x_62), (3, .int x_60), (2, .int 1), (0, .ref a0_)] [0, 6] = [(1, .int y_101), (0, .ref a0_)])
                                have g9 := g.sub (fx' := [(1, 0, a0_, .ref q0_), (1, 1, a0_, .ref q1_), (1, 12, a0_, .int y0_), (1, 5, a0_, .int y1_), (7, 13, q0_, .int y2_), (7, 1, q0_, .int y3_)]) [5, 6, 7, 8, 9, 10] rfl
                                exact ih6  y_101 (bd_sub b_102 (by decide)) (by have h9_0 := b_102; unfold bd at h9_0; have h9_1 := bv6_1; unfold bd at h9_1; have h9_2 := h_98; unfold bd at h9_2; have h9_3 := kb_0; unfold bd at h9_3; have h9_4 := kb_1; unfold bd at h9_4; have h9_5 := kb_1000000; unfold bd at h9_5; have h9_6 := kb_11; unfold bd at h9_6; have h9_7 := kb_16; unfold bd at h9_7; have h9_8 := kb_17; unfold bd at h9_8; have h9_9 := kb_18; unfold bd at h9_9; have h9_10 := kb_19; unfold bd at h9_10; have h9_11 := kb_25; unfold bd at h9_11; have h9_12 := kb_26; unfold bd at h9_12; have h9_13 := kb_27; unfold bd at h9_13; have h9_14 := kb_5; unfold bd at h9_14; omega) _ _ _ _ g9 hG_100 hl9
                              · have fc_93 := eq_f c_93
                                have b_103 : bd 27 27 x_60 := eqX fc_93 b_82 kb_27 (by decide)
                                have b_104 : bd 0 400 x_62 := eqX rfl (bdT x_62) (cr400 hc_63 b_103 (by decide)) (by decide)
                                refine lv_aload_n hx hb dX1_go_282 rfl (lv_at hl 6 rfl) ?_
                                refine lv_iload hx hb dX1_go_283 (lv_at hl 2 rfl) ?_
                                refine lv_iload hx hb dX1_go_285 (lv_at hl 0 rfl) ?_
                                refine lv_iload hx hb dX1_go_287 (lv_at hl 1 rfl) ?_
                                have go_ := g
                                refine g_callv (va_runV (As := [.int x_62, .int r_88, .int r_83]) (rest := []) ⟨hx, hb, hml, hown, hts⟩ (r_X1_setCell_11 l dC dI L kd tys fr_88 H.size g.2.2.2.1 a0_ ma0_ ka0_ x_62 b_104 r_88 r_83 x_89 h_90 y_64 b_65 x_17 b_25 y0_ by0_ y1_ by1_ (g.fcts [0, 1, 5, 8, 9] rfl)) (cwV 3 hts (gV_ t_1597 t_1599 t_67 t_195 t_1600) rfl rfl rfl (by decide +kernel) ⟨(Nat.le_of_ble_eq_true rfl), (Nat.le_of_ble_eq_true rfl)⟩) (pre3V g hK ma0_ ka0_ (by decide) (q := (RX1, TX1, 18)) rfl) rfl rfl hl.1 rfl (lv_room (Nat.le_of_ble_eq_true rfl)) dX1_go_289 ⟨(Nat.le_of_ble_eq_true rfl), (Nat.le_of_ble_eq_true rfl)⟩) g hK (by decide) (by decide) (fx' := [(1, 8, a0_, .int x_89), (1, 13, a0_, .int y_64), (7, 5, q0_, .ref a_61), (7, 4, q0_, .ref a_59), (7, 6, q0_, .int x_43), (1, 0, a0_, .ref q0_), (1, 1, a0_, .ref q1_), (1, 12, a0_, .int y0_), (1, 5, a0_, .int y1_), (7, 13, q0_, .int y2_), (7, 1, q0_, .int y3_)]) rfl (fun fr_105 H locs hp hMr_105 g => ?_)
                                have hF_106 := hp
                                have hG_107 := cOK.frame hMr_105 go_.2.2.2.1 mq0_ kq0_ (by decide) (by decide) hG_92
                                have g := g.more hF_106
                                refine lv_goto (tgt := 308) hx hb dX1_go_292 (by decide) ?_
                                obtain ⟨y_108, ey_108⟩ : ∃ z : Int32, z = v6_1 + 1 := ⟨_, rfl⟩
                                refine lv_iinc (v := y_108) (lv' := [(1, .int y_108), (6, .int r_88), (5, .int r_83), (4, .int x_62), (3, .int x_60), (2, .int 1), (0, .ref a0_)]) hx hb dX1_go_308 hl (k := 5) rfl (by rw [ey_108]; rfl) (by decide) rfl (fun ls hl => ?_)
                                have ty_108 := add_bd ey_108 b_16 kb_1 (by decide)
                                have b_109 : bd 1 1000000 y_108 := add_rg ty_108 b_16 kb_1 (by decide)
                                refine lv_goto (tgt := 6) hx hb dX1_go_311 (by decide) ?_
                                have kb_4 : bd 4 4 (4 : Int32) := ⟨by decide, by decide⟩
                                have hl9 := lv_sub hl [0, 6] (by rfl : lv_pick [(1, .int y_108), (6, .int r_88), (5, .int r_83), (4, .int x_62), (3, .int x_60), (2, .int 1), (0, .ref a0_)] [0, 6] = [(1, .int y_108), (0, .ref a0_)])
                                have g9 := g.sub (fx' := [(1, 0, a0_, .ref q0_), (1, 1, a0_, .ref q1_), (1, 12, a0_, .int y0_), (1, 5, a0_, .int y1_), (7, 13, q0_, .int y2_), (7, 1, q0_, .int y3_)]) [6, 7, 8, 9, 10, 11] rfl
                                exact ih6  y_108 (bd_sub b_109 (by decide)) (by have h9_0 := b_109; unfold bd at h9_0; have h9_1 := bv6_1; unfold bd at h9_1; have h9_2 := h_90; unfold bd at h9_2; have h9_3 := kb_0; unfold bd at h9_3; have h9_4 := kb_1; unfold bd at h9_4; have h9_5 := kb_1000000; unfold bd at h9_5; have h9_6 := kb_11; unfold bd at h9_6; have h9_7 := kb_16; unfold bd at h9_7; have h9_8 := kb_17; unfold bd at h9_8; have h9_9 := kb_18; unfold bd at h9_9; have h9_10 := kb_19; unfold bd at h9_10; have h9_11 := kb_25; unfold bd at h9_11; have h9_12 := kb_26; unfold bd at h9_12; have h9_13 := kb_27; unfold bd at h9_13; have h9_14 := kb_4; unfold bd at h9_14; have h9_15 := kb_5; unfold bd at h9_15; omega) _ _ _ _ g9 hG_107 hl9
                            · have fc_81 := nlt_f c_81
                              have b_110 : bd 20 25 x_60 := leL fc_81 b_79 kb_25 (by decide)
                              refine lv_aload_n hx hb dX1_go_250 rfl (lv_at hl 4 rfl) ?_
                              refine lv_iload_n hx hb dX1_go_251 rfl (lv_at hl 1 rfl) ?_
                              refine lv_iload hx hb dX1_go_252 (lv_at hl 0 rfl) ?_
                              refine lv_aload_n hx hb dX1_go_254 rfl (lv_at hl 4 rfl) ?_
                              have go_ := g
                              refine g_calli (va_runV (As := []) (rest := [.int x_62, .int x_60, .ref a0_]) ⟨hx, hb, hml, hown, hts⟩ (r_X1_pop l dC dI L kd tys f H.size g.2.2.2.1 a0_ ma0_ ka0_) (cwV 0 hts (gV_ t_1572 t_1574 t_61 t_195 t_1575) rfl rfl rfl (by decide +kernel) ⟨(Nat.le_of_ble_eq_true rfl), (Nat.le_of_ble_eq_true rfl)⟩) (pre3V g hK ma0_ ka0_ (by decide) (q := (RX1, TX1, 18)) rfl) rfl rfl hl.1 rfl (lv_room (Nat.le_of_ble_eq_true rfl)) dX1_go_255 ⟨(Nat.le_of_ble_eq_true rfl), (Nat.le_of_ble_eq_true rfl)⟩) g hK (by decide) (by decide) (fx' := [(1, 13, a0_, .int y_64), (7, 5, q0_, .ref a_61), (7, 4, q0_, .ref a_59), (7, 6, q0_, .int x_43), (1, 15, a0_, .int x_17), (1, 0, a0_, .ref q0_), (1, 1, a0_, .ref q1_), (1, 12, a0_, .int y0_), (1, 5, a0_, .int y1_), (7, 13, q0_, .int y2_), (7, 1, q0_, .int y3_)]) rfl (fun r_111 fr_111 H locs hp hMr_111 g => ?_)
                              obtain ⟨x_112, h_113, hF_114⟩ := hp
                              have hG_115 := cOK.frame hMr_111 go_.2.2.2.1 mq0_ kq0_ (by decide) (by decide) hG_67
                              have g := g.more hF_114
                              have go_ := g
                              refine g_callv (va_runV (As := [.int x_60, .int x_62, .int r_111]) (rest := []) ⟨hx, hb, hml, hown, hts⟩ (r_X1_use_11 l dC dI L kd tys fr_111 H.size g.2.2.2.1 a0_ ma0_ ka0_ x_60 b_110 x_62 r_111 x_112 h_113 y_64 b_65 x_17 b_25 y0_ by0_ y1_ by1_ hc_63 (g.fcts [0, 1, 5, 8, 9] rfl)) (cwV 3 hts (gV_ t_1593 t_1595 t_66 t_195 t_1596) rfl rfl rfl (by decide +kernel) ⟨(Nat.le_of_ble_eq_true rfl), (Nat.le_of_ble_eq_true rfl)⟩) (pre3V g hK ma0_ ka0_ (by decide) (q := (RX1, TX1, 18)) rfl) rfl rfl hl.1 rfl (lv_room (Nat.le_of_ble_eq_true rfl)) dX1_go_258 ⟨(Nat.le_of_ble_eq_true rfl), (Nat.le_of_ble_eq_true rfl)⟩) g hK (by decide) (by decide) (fx' := [(7, 5, q0_, .ref a_61), (7, 4, q0_, .ref a_59), (7, 6, q0_, .int x_43), (1, 0, a0_, .ref q0_), (1, 1, a0_, .ref q1_), (1, 12, a0_, .int y0_), (1, 5, a0_, .int y1_), (7, 13, q0_, .int y2_), (7, 1, q0_, .int y3_)]) rfl (fun fr_116 H locs hp hMr_116 g => ?_)
                              obtain ⟨x_117, h_118, hF_119⟩ := hp
                              have hG_120 := cOK.frame hMr_116 go_.2.2.2.1 mq0_ kq0_ (by decide) (by decide) hG_115
                              have g := g.more hF_119
                              refine lv_goto (tgt := 308) hx hb dX1_go_261 (by decide) ?_
                              obtain ⟨y_121, ey_121⟩ : ∃ z : Int32, z = v6_1 + 1 := ⟨_, rfl⟩
                              refine lv_iinc (v := y_121) (lv' := [(1, .int y_121), (4, .int x_62), (3, .int x_60), (2, .int 1), (0, .ref a0_)]) hx hb dX1_go_308 hl (k := 3) rfl (by rw [ey_121]; rfl) (by decide) rfl (fun ls hl => ?_)
                              have ty_121 := add_bd ey_121 b_16 kb_1 (by decide)
                              have b_122 : bd 1 1000000 y_121 := add_rg ty_121 b_16 kb_1 (by decide)
                              refine lv_goto (tgt := 6) hx hb dX1_go_311 (by decide) ?_
                              have hl9 := lv_sub hl [0, 4] (by rfl : lv_pick [(1, .int y_121), (4, .int x_62), (3, .int x_60), (2, .int 1), (0, .ref a0_)] [0, 4] = [(1, .int y_121), (0, .ref a0_)])
                              have g9 := g.sub (fx' := [(1, 0, a0_, .ref q0_), (1, 1, a0_, .ref q1_), (1, 12, a0_, .int y0_), (1, 5, a0_, .int y1_), (7, 13, q0_, .int y2_), (7, 1, q0_, .int y3_)]) [4, 5, 6, 7, 8, 9] rfl
                              exact ih6  y_121 (bd_sub b_122 (by decide)) (by have h9_0 := b_122; unfold bd at h9_0; have h9_1 := bv6_1; unfold bd at h9_1; have h9_2 := h_118; unfold bd at h9_2; have h9_3 := kb_0; unfold bd at h9_3; have h9_4 := kb_1; unfold bd at h9_4; have h9_5 := kb_1000000; unfold bd at h9_5; have h9_6 := kb_11; unfold bd at h9_6; have h9_7 := kb_16; unfold bd at h9_7; have h9_8 := kb_17; unfold bd at h9_8; have h9_9 := kb_18; unfold bd at h9_9; have h9_10 := kb_19; unfold bd at h9_10; have h9_11 := kb_25; unfold bd at h9_11; have h9_12 := kb_26; unfold bd at h9_12; have h9_13 := kb_5; unfold bd at h9_13; omega) _ _ _ _ g9 hG_120 hl9
                          · have fc_80 := eq_f c_80
                            have b_123 : bd 26 26 x_60 := eqX fc_80 b_79 kb_26 (by decide)
                            refine lv_aload_n hx hb dX1_go_233 rfl (lv_at hl 4 rfl) ?_
                            refine lv_aload_n hx hb dX1_go_234 rfl (lv_at hl 4 rfl) ?_
                            have go_ := g
                            refine g_calli (va_runV (As := []) (rest := [.ref a0_]) ⟨hx, hb, hml, hown, hts⟩ (r_X1_pop l dC dI L kd tys f H.size g.2.2.2.1 a0_ ma0_ ka0_) (cwV 0 hts (gV_ t_1572 t_1574 t_61 t_195 t_1575) rfl rfl rfl (by decide +kernel) ⟨(Nat.le_of_ble_eq_true rfl), (Nat.le_of_ble_eq_true rfl)⟩) (pre3V g hK ma0_ ka0_ (by decide) (q := (RX1, TX1, 18)) rfl) rfl rfl hl.1 rfl (lv_room (Nat.le_of_ble_eq_true rfl)) dX1_go_235 ⟨(Nat.le_of_ble_eq_true rfl), (Nat.le_of_ble_eq_true rfl)⟩) g hK (by decide) (by decide) (fx' := [(1, 13, a0_, .int y_64), (7, 5, q0_, .ref a_61), (7, 4, q0_, .ref a_59), (7, 6, q0_, .int x_43), (1, 15, a0_, .int x_17), (1, 0, a0_, .ref q0_), (1, 1, a0_, .ref q1_), (1, 12, a0_, .int y0_), (1, 5, a0_, .int y1_), (7, 13, q0_, .int y2_), (7, 1, q0_, .int y3_)]) rfl (fun r_124 fr_124 H locs hp hMr_124 g => ?_)
                            obtain ⟨x_125, h_126, hF_127⟩ := hp
                            have hG_128 := cOK.frame hMr_124 go_.2.2.2.1 mq0_ kq0_ (by decide) (by decide) hG_67
                            have g := g.more hF_127
                            have go_ := g
                            refine g_callv (va_runV (As := [.int r_124]) (rest := []) ⟨hx, hb, hml, hown, hts⟩ (r_X1_leave_43 l dC dI L kd tys fr_124 H.size g.2.2.2.1 a0_ ma0_ ka0_ r_124 x_125 h_126 y_64 b_65 x_17 b_25 y0_ by0_ y1_ by1_ (g.fcts [0, 1, 5, 8, 9] rfl)) (cwV 1 hts (gV_ t_1589 t_1591 t_65 t_195 t_1592) rfl rfl rfl (by decide +kernel) ⟨(Nat.le_of_ble_eq_true rfl), (Nat.le_of_ble_eq_true rfl)⟩) (pre3V g hK ma0_ ka0_ (by decide) (q := (RX1, TX1, 18)) rfl) rfl rfl hl.1 rfl (lv_room (Nat.le_of_ble_eq_true rfl)) dX1_go_238 ⟨(Nat.le_of_ble_eq_true rfl), (Nat.le_of_ble_eq_true rfl)⟩) g hK (by decide) (by decide) (fx' := [(7, 5, q0_, .ref a_61), (7, 4, q0_, .ref a_59), (7, 6, q0_, .int x_43), (1, 0, a0_, .ref q0_), (1, 1, a0_, .ref q1_), (1, 12, a0_, .int y0_), (1, 5, a0_, .int y1_), (7, 13, q0_, .int y2_), (7, 1, q0_, .int y3_)]) rfl (fun fr_129 H locs hp hMr_129 g => ?_)
                            obtain ⟨x_130, h_131, x_132, h_133, hF_134⟩ := hp
                            have hG_135 := cOK.frame hMr_129 go_.2.2.2.1 mq0_ kq0_ (by decide) (by decide) hG_128
                            have g := g.more hF_134
                            refine lv_goto (tgt := 308) hx hb dX1_go_241 (by decide) ?_
                            obtain ⟨y_136, ey_136⟩ : ∃ z : Int32, z = v6_1 + 1 := ⟨_, rfl⟩
                            refine lv_iinc (v := y_136) (lv' := [(1, .int y_136), (4, .int x_62), (3, .int x_60), (2, .int 1), (0, .ref a0_)]) hx hb dX1_go_308 hl (k := 3) rfl (by rw [ey_136]; rfl) (by decide) rfl (fun ls hl => ?_)
                            have ty_136 := add_bd ey_136 b_16 kb_1 (by decide)
                            have b_137 : bd 1 1000000 y_136 := add_rg ty_136 b_16 kb_1 (by decide)
                            refine lv_goto (tgt := 6) hx hb dX1_go_311 (by decide) ?_
                            have hl9 := lv_sub hl [0, 4] (by rfl : lv_pick [(1, .int y_136), (4, .int x_62), (3, .int x_60), (2, .int 1), (0, .ref a0_)] [0, 4] = [(1, .int y_136), (0, .ref a0_)])
                            have g9 := g.sub (fx' := [(1, 0, a0_, .ref q0_), (1, 1, a0_, .ref q1_), (1, 12, a0_, .int y0_), (1, 5, a0_, .int y1_), (7, 13, q0_, .int y2_), (7, 1, q0_, .int y3_)]) [5, 6, 7, 8, 9, 10] rfl
                            exact ih6  y_136 (bd_sub b_137 (by decide)) (by have h9_0 := b_137; unfold bd at h9_0; have h9_1 := bv6_1; unfold bd at h9_1; have h9_2 := h_131; unfold bd at h9_2; have h9_3 := h_133; unfold bd at h9_3; have h9_4 := kb_0; unfold bd at h9_4; have h9_5 := kb_1; unfold bd at h9_5; have h9_6 := kb_1000000; unfold bd at h9_6; have h9_7 := kb_11; unfold bd at h9_7; have h9_8 := kb_16; unfold bd at h9_8; have h9_9 := kb_17; unfold bd at h9_9; have h9_10 := kb_18; unfold bd at h9_10; have h9_11 := kb_19; unfold bd at h9_11; have h9_12 := kb_26; unfold bd at h9_12; have h9_13 := kb_5; unfold bd at h9_13; omega) _ _ _ _ g9 hG_135 hl9
                        · have fc_78 := eq_f c_78
                          have b_138 : bd 19 19 x_60 := eqX fc_78 b_77 kb_19 (by decide)
                          refine lv_aload_n hx hb dX1_go_219 rfl (lv_at hl 4 rfl) ?_
                          refine lv_iconst (v := 0) hx hb dX1_go_220 (by decide) ?_
                          have go_ := g
                          refine g_callv (va_runV (As := [.int 0]) (rest := []) ⟨hx, hb, hml, hown, hts⟩ (r_X1_leave_44 l dC dI L kd tys f H.size g.2.2.2.1 a0_ ma0_ ka0_ 0 kb_0 y_64 b_65 x_17 b_25 y0_ by0_ y1_ by1_ (g.fcts [0, 4, 7, 8] rfl)) (cwV 1 hts (gV_ t_1589 t_1591 t_65 t_195 t_1592) rfl rfl rfl (by decide +kernel) ⟨(Nat.le_of_ble_eq_true rfl), (Nat.le_of_ble_eq_true rfl)⟩) (pre3V g hK ma0_ ka0_ (by decide) (q := (RX1, TX1, 18)) rfl) rfl rfl hl.1 rfl (lv_room (Nat.le_of_ble_eq_true rfl)) dX1_go_221 ⟨(Nat.le_of_ble_eq_true rfl), (Nat.le_of_ble_eq_true rfl)⟩) g hK (by decide) (by decide) (fx' := [(7, 5, q0_, .ref a_61), (7, 4, q0_, .ref a_59), (7, 6, q0_, .int x_43), (1, 0, a0_, .ref q0_), (1, 1, a0_, .ref q1_), (1, 12, a0_, .int y0_), (1, 5, a0_, .int y1_), (7, 13, q0_, .int y2_), (7, 1, q0_, .int y3_)]) rfl (fun fr_139 H locs hp hMr_139 g => ?_)
                          obtain ⟨x_140, h_141, x_142, h_143, hF_144⟩ := hp
                          have hG_145 := cOK.frame hMr_139 go_.2.2.2.1 mq0_ kq0_ (by decide) (by decide) hG_67
                          have g := g.more hF_144
                          refine lv_goto (tgt := 308) hx hb dX1_go_224 (by decide) ?_
                          obtain ⟨y_146, ey_146⟩ : ∃ z : Int32, z = v6_1 + 1 := ⟨_, rfl⟩
                          refine lv_iinc (v := y_146) (lv' := [(1, .int y_146), (4, .int x_62), (3, .int x_60), (2, .int 1), (0, .ref a0_)]) hx hb dX1_go_308 hl (k := 3) rfl (by rw [ey_146]; rfl) (by decide) rfl (fun ls hl => ?_)
                          have ty_146 := add_bd ey_146 b_16 kb_1 (by decide)
                          have b_147 : bd 1 1000000 y_146 := add_rg ty_146 b_16 kb_1 (by decide)
                          refine lv_goto (tgt := 6) hx hb dX1_go_311 (by decide) ?_
                          have hl9 := lv_sub hl [0, 4] (by rfl : lv_pick [(1, .int y_146), (4, .int x_62), (3, .int x_60), (2, .int 1), (0, .ref a0_)] [0, 4] = [(1, .int y_146), (0, .ref a0_)])
                          have g9 := g.sub (fx' := [(1, 0, a0_, .ref q0_), (1, 1, a0_, .ref q1_), (1, 12, a0_, .int y0_), (1, 5, a0_, .int y1_), (7, 13, q0_, .int y2_), (7, 1, q0_, .int y3_)]) [5, 6, 7, 8, 9, 10] rfl
                          exact ih6  y_146 (bd_sub b_147 (by decide)) (by have h9_0 := b_147; unfold bd at h9_0; have h9_1 := bv6_1; unfold bd at h9_1; have h9_2 := h_141; unfold bd at h9_2; have h9_3 := h_143; unfold bd at h9_3; have h9_4 := kb_0; unfold bd at h9_4; have h9_5 := kb_1; unfold bd at h9_5; have h9_6 := kb_1000000; unfold bd at h9_6; have h9_7 := kb_11; unfold bd at h9_7; have h9_8 := kb_16; unfold bd at h9_8; have h9_9 := kb_17; unfold bd at h9_9; have h9_10 := kb_18; unfold bd at h9_10; have h9_11 := kb_19; unfold bd at h9_11; have h9_12 := kb_5; unfold bd at h9_12; omega) _ _ _ _ g9 hG_145 hl9
                      · have fc_76 := eq_f c_76
                        have b_148 : bd 18 18 x_60 := eqX fc_76 b_75 kb_18 (by decide)
                        refine lv_aload_n hx hb dX1_go_204 rfl (lv_at hl 4 rfl) ?_
                        refine lv_iload hx hb dX1_go_205 (lv_at hl 0 rfl) ?_
                        have go_ := g
                        refine g_callv (va_runV (As := [.int x_62]) (rest := []) ⟨hx, hb, hml, hown, hts⟩ (r_X1_enter_10 l dC dI L kd tys f H.size g.2.2.2.1 a0_ ma0_ ka0_ x_62 q0_ mq0_ kq0_ (g.fcts [5] rfl)) (cwV 1 hts (gV_ t_1585 t_1587 t_64 t_195 t_1588) rfl rfl rfl (by decide +kernel) ⟨(Nat.le_of_ble_eq_true rfl), (Nat.le_of_ble_eq_true rfl)⟩) (pre3V g hK ma0_ ka0_ (by decide) (q := (RX1, TX1, 18)) rfl) rfl rfl hl.1 rfl (lv_room (Nat.le_of_ble_eq_true rfl)) dX1_go_207 ⟨(Nat.le_of_ble_eq_true rfl), (Nat.le_of_ble_eq_true rfl)⟩) g hK (by decide) (by decide) (fx' := [(7, 5, q0_, .ref a_61), (7, 4, q0_, .ref a_59), (7, 6, q0_, .int x_43), (1, 0, a0_, .ref q0_), (1, 1, a0_, .ref q1_), (1, 12, a0_, .int y0_), (1, 5, a0_, .int y1_), (7, 13, q0_, .int y2_), (7, 1, q0_, .int y3_)]) rfl (fun fr_149 H locs hp hMr_149 g => ?_)
                        have hG_150 := cOK.frame hMr_149 go_.2.2.2.1 mq0_ kq0_ (by decide) (by decide) hG_67
                        refine lv_goto (tgt := 308) hx hb dX1_go_210 (by decide) ?_
                        obtain ⟨y_151, ey_151⟩ : ∃ z : Int32, z = v6_1 + 1 := ⟨_, rfl⟩
                        refine lv_iinc (v := y_151) (lv' := [(1, .int y_151), (4, .int x_62), (3, .int x_60), (2, .int 1), (0, .ref a0_)]) hx hb dX1_go_308 hl (k := 3) rfl (by rw [ey_151]; rfl) (by decide) rfl (fun ls hl => ?_)
                        have ty_151 := add_bd ey_151 b_16 kb_1 (by decide)
                        have b_152 : bd 1 1000000 y_151 := add_rg ty_151 b_16 kb_1 (by decide)
                        refine lv_goto (tgt := 6) hx hb dX1_go_311 (by decide) ?_
                        have hl9 := lv_sub hl [0, 4] (by rfl : lv_pick [(1, .int y_151), (4, .int x_62), (3, .int x_60), (2, .int 1), (0, .ref a0_)] [0, 4] = [(1, .int y_151), (0, .ref a0_)])
                        have g9 := g.sub (fx' := [(1, 0, a0_, .ref q0_), (1, 1, a0_, .ref q1_), (1, 12, a0_, .int y0_), (1, 5, a0_, .int y1_), (7, 13, q0_, .int y2_), (7, 1, q0_, .int y3_)]) [3, 4, 5, 6, 7, 8] rfl
                        exact ih6  y_151 (bd_sub b_152 (by decide)) (by have h9_0 := b_152; unfold bd at h9_0; have h9_1 := bv6_1; unfold bd at h9_1; have h9_2 := kb_0; unfold bd at h9_2; have h9_3 := kb_1; unfold bd at h9_3; have h9_4 := kb_1000000; unfold bd at h9_4; have h9_5 := kb_11; unfold bd at h9_5; have h9_6 := kb_16; unfold bd at h9_6; have h9_7 := kb_17; unfold bd at h9_7; have h9_8 := kb_18; unfold bd at h9_8; have h9_9 := kb_5; unfold bd at h9_9; omega) _ _ _ _ g9 hG_150 hl9
                    · have fc_74 := eq_f c_74
                      have b_153 : bd 17 17 x_60 := eqX fc_74 b_73 kb_17 (by decide)
                      have b_154 : bd 0 2147483647 x_62 := eqX rfl (bdT x_62) (cr0 hc_63 b_153 (by decide)) (by decide)
                      refine lv_aload_n hx hb dX1_go_165 rfl (lv_at hl 4 rfl) ?_
                      refine lv_iload hx hb dX1_go_166 (lv_at hl 0 rfl) ?_
                      refine lv_aload_n hx hb dX1_go_168 rfl (lv_at hl 4 rfl) ?_
                      refine g_getk (C := RX1) (T := TX1) (N := 18) hx hb hts (mc_ inX1) hown hK g rfl 1 (by decide) rfl (hts _ (List.mem_cons_of_mem _ t_736)) (fun _ h9 => h9) 6 rfl dX1_go_169 ?_
                      refine g_geti (C := RX9) (T := TX9) (N := 13) hx hb hts (mc_ inX9) hown hK g mq1_ kq1_ (by decide) rfl 8 (by decide) rfl (hts _ (List.mem_cons_of_mem _ t_499)) (fun _ h9 => h9) rfl dX1_go_172 (fun x_155 bx_155 g => ?_)
                      refine lv_icmp_ge (tgt := 191) hx hb dX1_go_175 (by decide) (fun c_156 => ?_) (fun c_156 => ?_)
                      · have fc_156 := le_f c_156
                        refine lv_iconst (v := (-1)) hx hb dX1_go_191 (by decide) ?_
                        have go_ := g
                        refine g_callv (va_runV (As := [.int (-1)]) (rest := []) ⟨hx, hb, hml, hown, hts⟩ (r_X1_enter_10 l dC dI L kd tys f H.size g.2.2.2.1 a0_ ma0_ ka0_ (-1) q0_ mq0_ kq0_ (g.fcts [6] rfl)) (cwV 1 hts (gV_ t_1585 t_1587 t_64 t_195 t_1588) rfl rfl rfl (by decide +kernel) ⟨(Nat.le_of_ble_eq_true rfl), (Nat.le_of_ble_eq_true rfl)⟩) (pre3V g hK ma0_ ka0_ (by decide) (q := (RX1, TX1, 18)) rfl) rfl rfl hl.1 rfl (lv_room (Nat.le_of_ble_eq_true rfl)) dX1_go_192 ⟨(Nat.le_of_ble_eq_true rfl), (Nat.le_of_ble_eq_true rfl)⟩) g hK (by decide) (by decide) (fx' := [(9, 8, q1_, .int x_155), (7, 5, q0_, .ref a_61), (7, 4, q0_, .ref a_59), (7, 6, q0_, .int x_43), (1, 0, a0_, .ref q0_), (1, 1, a0_, .ref q1_), (1, 12, a0_, .int y0_), (1, 5, a0_, .int y1_), (7, 13, q0_, .int y2_), (7, 1, q0_, .int y3_)]) rfl (fun fr_157 H locs hp hMr_157 g => ?_)
                        have hG_158 := cOK.frame hMr_157 go_.2.2.2.1 mq0_ kq0_ (by decide) (by decide) hG_67
                        refine lv_goto (tgt := 308) hx hb dX1_go_195 (by decide) ?_
                        obtain ⟨y_159, ey_159⟩ : ∃ z : Int32, z = v6_1 + 1 := ⟨_, rfl⟩
                        refine lv_iinc (v := y_159) (lv' := [(1, .int y_159), (4, .int x_62), (3, .int x_60), (2, .int 1), (0, .ref a0_)]) hx hb dX1_go_308 hl (k := 3) rfl (by rw [ey_159]; rfl) (by decide) rfl (fun ls hl => ?_)
                        have ty_159 := add_bd ey_159 b_16 kb_1 (by decide)
                        have b_160 : bd 1 1000000 y_159 := add_rg ty_159 b_16 kb_1 (by decide)
                        refine lv_goto (tgt := 6) hx hb dX1_go_311 (by decide) ?_
                        have hl9 := lv_sub hl [0, 4] (by rfl : lv_pick [(1, .int y_159), (4, .int x_62), (3, .int x_60), (2, .int 1), (0, .ref a0_)] [0, 4] = [(1, .int y_159), (0, .ref a0_)])
                        have g9 := g.sub (fx' := [(1, 0, a0_, .ref q0_), (1, 1, a0_, .ref q1_), (1, 12, a0_, .int y0_), (1, 5, a0_, .int y1_), (7, 13, q0_, .int y2_), (7, 1, q0_, .int y3_)]) [4, 5, 6, 7, 8, 9] rfl
                        exact ih6  y_159 (bd_sub b_160 (by decide)) (by have h9_0 := b_160; unfold bd at h9_0; have h9_1 := bv6_1; unfold bd at h9_1; have h9_2 := kb_0; unfold bd at h9_2; have h9_3 := kb_1; unfold bd at h9_3; have h9_4 := kb_1000000; unfold bd at h9_4; have h9_5 := kb_11; unfold bd at h9_5; have h9_6 := kb_16; unfold bd at h9_6; have h9_7 := kb_17; unfold bd at h9_7; have h9_8 := kb_5; unfold bd at h9_8; omega) _ _ _ _ g9 hG_158 hl9
                      · have fc_156 := nle_f c_156
                        have b_161 : bd 0 11 x_62 := ltL fc_156 b_154 bx_155 (by decide)
                        have b_162 : bd 1 12 x_155 := ltR fc_156 b_154 bx_155 (by decide)
                        refine lv_aload_n hx hb dX1_go_178 rfl (lv_at hl 4 rfl) ?_
                        refine g_getk (C := RX1) (T := TX1) (N := 18) hx hb hts (mc_ inX1) hown hK g rfl 1 (by decide) rfl (hts _ (List.mem_cons_of_mem _ t_736)) (fun _ h9 => h9) 7 rfl dX1_go_179 ?_
                        refine g_getr (K := 156) (C := RX9) (T := TX9) (N := 13) hx hb hts (mc_ inX9) hown hK g mq1_ kq1_ (by decide) rfl 9 (by decide) rfl (hts _ (List.mem_cons_of_mem _ t_504)) (fun _ h9 => h9) rfl dX1_go_182 (fun a_163 ma_163 ka_163 g => ?_)
                        refine lv_iload hx hb dX1_go_185 (lv_at hl 0 rfl) ?_
                        refine g_iald hx hb hK g ma_163 ka_163 (by decide) rfl (in_bd b_161 (by decide)) dX1_go_187 (fun x_164 bx_164 cx_164 => ?_)
                        refine lv_goto (tgt := 192) hx hb dX1_go_188 (by decide) ?_
                        have go_ := g
                        refine g_callv (va_runV (As := [.int x_164]) (rest := []) ⟨hx, hb, hml, hown, hts⟩ (r_X1_enter_10 l dC dI L kd tys f H.size g.2.2.2.1 a0_ ma0_ ka0_ x_164 q0_ mq0_ kq0_ (g.fcts [7] rfl)) (cwV 1 hts (gV_ t_1585 t_1587 t_64 t_195 t_1588) rfl rfl rfl (by decide +kernel) ⟨(Nat.le_of_ble_eq_true rfl), (Nat.le_of_ble_eq_true rfl)⟩) (pre3V g hK ma0_ ka0_ (by decide) (q := (RX1, TX1, 18)) rfl) rfl rfl hl.1 rfl (lv_room (Nat.le_of_ble_eq_true rfl)) dX1_go_192 ⟨(Nat.le_of_ble_eq_true rfl), (Nat.le_of_ble_eq_true rfl)⟩) g hK (by decide) (by decide) (fx' := [(9, 9, q1_, .ref a_163), (9, 8, q1_, .int x_155), (7, 5, q0_, .ref a_61), (7, 4, q0_, .ref a_59), (7, 6, q0_, .int x_43), (1, 0, a0_, .ref q0_), (1, 1, a0_, .ref q1_), (1, 12, a0_, .int y0_), (1, 5, a0_, .int y1_), (7, 13, q0_, .int y2_), (7, 1, q0_, .int y3_)]) rfl (fun fr_165 H locs hp hMr_165 g => ?_)
                        have hG_166 := cOK.frame hMr_165 go_.2.2.2.1 mq0_ kq0_ (by decide) (by decide) hG_67
                        refine lv_goto (tgt := 308) hx hb dX1_go_195 (by decide) ?_
                        obtain ⟨y_167, ey_167⟩ : ∃ z : Int32, z = v6_1 + 1 := ⟨_, rfl⟩
                        refine lv_iinc (v := y_167) (lv' := [(1, .int y_167), (4, .int x_62), (3, .int x_60), (2, .int 1), (0, .ref a0_)]) hx hb dX1_go_308 hl (k := 3) rfl (by rw [ey_167]; rfl) (by decide) rfl (fun ls hl => ?_)
                        have ty_167 := add_bd ey_167 b_16 kb_1 (by decide)
                        have b_168 : bd 1 1000000 y_167 := add_rg ty_167 b_16 kb_1 (by decide)
                        refine lv_goto (tgt := 6) hx hb dX1_go_311 (by decide) ?_
                        have hl9 := lv_sub hl [0, 4] (by rfl : lv_pick [(1, .int y_167), (4, .int x_62), (3, .int x_60), (2, .int 1), (0, .ref a0_)] [0, 4] = [(1, .int y_167), (0, .ref a0_)])
                        have g9 := g.sub (fx' := [(1, 0, a0_, .ref q0_), (1, 1, a0_, .ref q1_), (1, 12, a0_, .int y0_), (1, 5, a0_, .int y1_), (7, 13, q0_, .int y2_), (7, 1, q0_, .int y3_)]) [5, 6, 7, 8, 9, 10] rfl
                        exact ih6  y_167 (bd_sub b_168 (by decide)) (by have h9_0 := b_168; unfold bd at h9_0; have h9_1 := bv6_1; unfold bd at h9_1; have h9_2 := kb_0; unfold bd at h9_2; have h9_3 := kb_1; unfold bd at h9_3; have h9_4 := kb_1000000; unfold bd at h9_4; have h9_5 := kb_11; unfold bd at h9_5; have h9_6 := kb_16; unfold bd at h9_6; have h9_7 := kb_17; unfold bd at h9_7; have h9_8 := kb_5; unfold bd at h9_8; omega) _ _ _ _ g9 hG_166 hl9
                  · have fc_72 := nlt_f c_72
                    have b_169 : bd 12 16 x_60 := leL fc_72 b_71 kb_16 (by decide)
                    refine lv_aload_n hx hb dX1_go_149 rfl (lv_at hl 4 rfl) ?_
                    refine lv_iload_n hx hb dX1_go_150 rfl (lv_at hl 1 rfl) ?_
                    refine lv_iload hx hb dX1_go_151 (lv_at hl 0 rfl) ?_
                    have go_ := g
                    refine g_callv (va_runV (As := [.int x_60, .int x_62]) (rest := []) ⟨hx, hb, hml, hown, hts⟩ (r_X1_act l dC dI L kd tys f H.size g.2.2.2.1 a0_ ma0_ ka0_ x_60 x_62 q0_ mq0_ kq0_ hc_63 (g.fcts [5] rfl)) (cwV 2 hts (gV_ t_1581 t_1583 t_63 t_195 t_1584) rfl rfl rfl (by decide +kernel) ⟨(Nat.le_of_ble_eq_true rfl), (Nat.le_of_ble_eq_true rfl)⟩) (pre3V g hK ma0_ ka0_ (by decide) (q := (RX1, TX1, 18)) rfl) rfl rfl hl.1 rfl (lv_room (Nat.le_of_ble_eq_true rfl)) dX1_go_153 ⟨(Nat.le_of_ble_eq_true rfl), (Nat.le_of_ble_eq_true rfl)⟩) g hK (by decide) (by decide) (fx' := [(7, 5, q0_, .ref a_61), (7, 4, q0_, .ref a_59), (7, 6, q0_, .int x_43), (1, 0, a0_, .ref q0_), (1, 1, a0_, .ref q1_), (1, 12, a0_, .int y0_), (1, 5, a0_, .int y1_), (7, 13, q0_, .int y2_), (7, 1, q0_, .int y3_)]) rfl (fun fr_170 H locs hp hMr_170 g => ?_)
                    have hG_171 := cOK.frame hMr_170 go_.2.2.2.1 mq0_ kq0_ (by decide) (by decide) hG_67
                    refine lv_goto (tgt := 308) hx hb dX1_go_156 (by decide) ?_
                    obtain ⟨y_172, ey_172⟩ : ∃ z : Int32, z = v6_1 + 1 := ⟨_, rfl⟩
                    refine lv_iinc (v := y_172) (lv' := [(1, .int y_172), (4, .int x_62), (3, .int x_60), (2, .int 1), (0, .ref a0_)]) hx hb dX1_go_308 hl (k := 3) rfl (by rw [ey_172]; rfl) (by decide) rfl (fun ls hl => ?_)
                    have ty_172 := add_bd ey_172 b_16 kb_1 (by decide)
                    have b_173 : bd 1 1000000 y_172 := add_rg ty_172 b_16 kb_1 (by decide)
                    refine lv_goto (tgt := 6) hx hb dX1_go_311 (by decide) ?_
                    have hl9 := lv_sub hl [0, 4] (by rfl : lv_pick [(1, .int y_172), (4, .int x_62), (3, .int x_60), (2, .int 1), (0, .ref a0_)] [0, 4] = [(1, .int y_172), (0, .ref a0_)])
                    have g9 := g.sub (fx' := [(1, 0, a0_, .ref q0_), (1, 1, a0_, .ref q1_), (1, 12, a0_, .int y0_), (1, 5, a0_, .int y1_), (7, 13, q0_, .int y2_), (7, 1, q0_, .int y3_)]) [3, 4, 5, 6, 7, 8] rfl
                    exact ih6  y_172 (bd_sub b_173 (by decide)) (by have h9_0 := b_173; unfold bd at h9_0; have h9_1 := bv6_1; unfold bd at h9_1; have h9_2 := kb_0; unfold bd at h9_2; have h9_3 := kb_1; unfold bd at h9_3; have h9_4 := kb_1000000; unfold bd at h9_4; have h9_5 := kb_11; unfold bd at h9_5; have h9_6 := kb_16; unfold bd at h9_6; have h9_7 := kb_5; unfold bd at h9_7; omega) _ _ _ _ g9 hG_171 hl9
                · have fc_70 := nlt_f c_70
                  have b_174 : bd 6 11 x_60 := leL fc_70 b_69 kb_11 (by decide)
                  refine lv_aload_n hx hb dX1_go_125 rfl (lv_at hl 4 rfl) ?_
                  refine lv_aload_n hx hb dX1_go_126 rfl (lv_at hl 4 rfl) ?_
                  refine lv_iload_n hx hb dX1_go_127 rfl (lv_at hl 1 rfl) ?_
                  refine lv_iload hx hb dX1_go_128 (lv_at hl 0 rfl) ?_
                  refine lv_aload_n hx hb dX1_go_130 rfl (lv_at hl 4 rfl) ?_
                  have go_ := g
                  refine g_calli (va_runV (As := []) (rest := [.int x_62, .int x_60, .ref a0_, .ref a0_]) ⟨hx, hb, hml, hown, hts⟩ (r_X1_pop l dC dI L kd tys f H.size g.2.2.2.1 a0_ ma0_ ka0_) (cwV 0 hts (gV_ t_1572 t_1574 t_61 t_195 t_1575) rfl rfl rfl (by decide +kernel) ⟨(Nat.le_of_ble_eq_true rfl), (Nat.le_of_ble_eq_true rfl)⟩) (pre3V g hK ma0_ ka0_ (by decide) (q := (RX1, TX1, 18)) rfl) rfl rfl hl.1 rfl (lv_room (Nat.le_of_ble_eq_true rfl)) dX1_go_131 ⟨(Nat.le_of_ble_eq_true rfl), (Nat.le_of_ble_eq_true rfl)⟩) g hK (by decide) (by decide) (fx' := [(1, 13, a0_, .int y_64), (7, 5, q0_, .ref a_61), (7, 4, q0_, .ref a_59), (7, 6, q0_, .int x_43), (1, 15, a0_, .int x_17), (1, 0, a0_, .ref q0_), (1, 1, a0_, .ref q1_), (1, 12, a0_, .int y0_), (1, 5, a0_, .int y1_), (7, 13, q0_, .int y2_), (7, 1, q0_, .int y3_)]) rfl (fun r_175 fr_175 H locs hp hMr_175 g => ?_)
                  obtain ⟨x_176, h_177, hF_178⟩ := hp
                  have hG_179 := cOK.frame hMr_175 go_.2.2.2.1 mq0_ kq0_ (by decide) (by decide) hG_67
                  have g := g.more hF_178
                  have go_ := g
                  refine g_calli (va_runV (As := [.int x_60, .int x_62, .int r_175]) (rest := [.ref a0_]) ⟨hx, hb, hml, hown, hts⟩ (r_X1_turn_11 l dC dI L kd tys fr_175 H.size g.2.2.2.1 a0_ ma0_ ka0_ x_60 b_174 x_62 r_175 x_176 h_177 y_64 b_65 x_17 b_25 y0_ by0_ y1_ by1_ hc_63 (g.fcts [0, 1, 5, 8, 9] rfl)) (cwV 3 hts (gV_ t_1576 t_1578 t_62 t_195 t_1579) rfl rfl rfl (by decide +kernel) ⟨(Nat.le_of_ble_eq_true rfl), (Nat.le_of_ble_eq_true rfl)⟩) (pre3V g hK ma0_ ka0_ (by decide) (q := (RX1, TX1, 18)) rfl) rfl rfl hl.1 rfl (lv_room (Nat.le_of_ble_eq_true rfl)) dX1_go_134 ⟨(Nat.le_of_ble_eq_true rfl), (Nat.le_of_ble_eq_true rfl)⟩) g hK (by decide) (by decide) (fx' := [(1, 8, a0_, .int x_176), (1, 13, a0_, .int y_64), (7, 5, q0_, .ref a_61), (7, 4, q0_, .ref a_59), (7, 6, q0_, .int x_43), (1, 0, a0_, .ref q0_), (1, 1, a0_, .ref q1_), (1, 12, a0_, .int y0_), (1, 5, a0_, .int y1_), (7, 13, q0_, .int y2_), (7, 1, q0_, .int y3_)]) rfl (fun r_180 fr_180 H locs hp hMr_180 g => ?_)
                  obtain ⟨x_181, h_182, hF_183⟩ := hp
                  have hG_184 := cOK.frame hMr_180 go_.2.2.2.1 mq0_ kq0_ (by decide) (by decide) hG_179
                  have g := g.more hF_183
                  have go_ := g
                  refine g_callv (va_runV (As := [.int r_180]) (rest := []) ⟨hx, hb, hml, hown, hts⟩ (r_X1_push l dC dI L kd tys fr_180 H.size g.2.2.2.1 a0_ ma0_ ka0_ r_180) (cwV 1 hts (gV_ t_1568 t_1570 t_60 t_195 t_1571) rfl rfl rfl (by decide +kernel) ⟨(Nat.le_of_ble_eq_true rfl), (Nat.le_of_ble_eq_true rfl)⟩) (pre3V g hK ma0_ ka0_ (by decide) (q := (RX1, TX1, 18)) rfl) rfl rfl hl.1 rfl (lv_room (Nat.le_of_ble_eq_true rfl)) dX1_go_137 ⟨(Nat.le_of_ble_eq_true rfl), (Nat.le_of_ble_eq_true rfl)⟩) g hK (by decide) (by decide) (fx' := [(1, 15, a0_, .int x_181), (1, 13, a0_, .int y_64), (7, 5, q0_, .ref a_61), (7, 4, q0_, .ref a_59), (7, 6, q0_, .int x_43), (1, 0, a0_, .ref q0_), (1, 1, a0_, .ref q1_), (1, 12, a0_, .int y0_), (1, 5, a0_, .int y1_), (7, 13, q0_, .int y2_), (7, 1, q0_, .int y3_)]) rfl (fun fr_185 H locs hp hMr_185 g => ?_)
                  obtain ⟨x_186, h_187, hF_188⟩ := hp
                  have hG_189 := cOK.frame hMr_185 go_.2.2.2.1 mq0_ kq0_ (by decide) (by decide) hG_184
                  have g := g.more hF_188
                  refine lv_goto (tgt := 308) hx hb dX1_go_140 (by decide) ?_
                  obtain ⟨y_190, ey_190⟩ : ∃ z : Int32, z = v6_1 + 1 := ⟨_, rfl⟩
                  refine lv_iinc (v := y_190) (lv' := [(1, .int y_190), (4, .int x_62), (3, .int x_60), (2, .int 1), (0, .ref a0_)]) hx hb dX1_go_308 hl (k := 3) rfl (by rw [ey_190]; rfl) (by decide) rfl (fun ls hl => ?_)
                  have ty_190 := add_bd ey_190 b_16 kb_1 (by decide)
                  have b_191 : bd 1 1000000 y_190 := add_rg ty_190 b_16 kb_1 (by decide)
                  refine lv_goto (tgt := 6) hx hb dX1_go_311 (by decide) ?_
                  have hl9 := lv_sub hl [0, 4] (by rfl : lv_pick [(1, .int y_190), (4, .int x_62), (3, .int x_60), (2, .int 1), (0, .ref a0_)] [0, 4] = [(1, .int y_190), (0, .ref a0_)])
                  have g9 := g.sub (fx' := [(1, 0, a0_, .ref q0_), (1, 1, a0_, .ref q1_), (1, 12, a0_, .int y0_), (1, 5, a0_, .int y1_), (7, 13, q0_, .int y2_), (7, 1, q0_, .int y3_)]) [6, 7, 8, 9, 10, 11] rfl
                  exact ih6  y_190 (bd_sub b_191 (by decide)) (by have h9_0 := b_191; unfold bd at h9_0; have h9_1 := bv6_1; unfold bd at h9_1; have h9_2 := h_182; unfold bd at h9_2; have h9_3 := h_187; unfold bd at h9_3; have h9_4 := kb_0; unfold bd at h9_4; have h9_5 := kb_1; unfold bd at h9_5; have h9_6 := kb_1000000; unfold bd at h9_6; have h9_7 := kb_11; unfold bd at h9_7; have h9_8 := kb_5; unfold bd at h9_8; omega) _ _ _ _ g9 hG_189 hl9
              · have fc_68 := nlt_f c_68
                have b_192 : bd (-2147483648) 5 x_60 := leL fc_68 (bdT x_60) kb_5 (by decide)
                refine lv_aload_n hx hb dX1_go_105 rfl (lv_at hl 4 rfl) ?_
                refine lv_aload_n hx hb dX1_go_106 rfl (lv_at hl 4 rfl) ?_
                refine lv_iload_n hx hb dX1_go_107 rfl (lv_at hl 1 rfl) ?_
                refine lv_iload hx hb dX1_go_108 (lv_at hl 0 rfl) ?_
                have go_ := g
                refine g_calli (va_runV (As := [.int x_60, .int x_62]) (rest := [.ref a0_]) ⟨hx, hb, hml, hown, hts⟩ (r_X1_fetch l dC dI L kd tys f H.size g.2.2.2.1 a0_ ma0_ ka0_ x_60 x_62 hc_63) (cwV 2 hts (gV_ t_1564 t_1566 t_59 t_195 t_1567) rfl rfl rfl (by decide +kernel) ⟨(Nat.le_of_ble_eq_true rfl), (Nat.le_of_ble_eq_true rfl)⟩) (pre3V g hK ma0_ ka0_ (by decide) (q := (RX1, TX1, 18)) rfl) rfl rfl hl.1 rfl (lv_room (Nat.le_of_ble_eq_true rfl)) dX1_go_110 ⟨(Nat.le_of_ble_eq_true rfl), (Nat.le_of_ble_eq_true rfl)⟩) g hK (by decide) (by decide) (fx' := [(1, 13, a0_, .int y_64), (7, 5, q0_, .ref a_61), (7, 4, q0_, .ref a_59), (7, 6, q0_, .int x_43), (1, 15, a0_, .int x_17), (1, 0, a0_, .ref q0_), (1, 1, a0_, .ref q1_), (1, 12, a0_, .int y0_), (1, 5, a0_, .int y1_), (7, 13, q0_, .int y2_), (7, 1, q0_, .int y3_)]) rfl (fun r_193 fr_193 H locs hp hMr_193 g => ?_)
                have hG_194 := cOK.frame hMr_193 go_.2.2.2.1 mq0_ kq0_ (by decide) (by decide) hG_67
                have go_ := g
                refine g_callv (va_runV (As := [.int r_193]) (rest := []) ⟨hx, hb, hml, hown, hts⟩ (r_X1_push l dC dI L kd tys fr_193 H.size g.2.2.2.1 a0_ ma0_ ka0_ r_193) (cwV 1 hts (gV_ t_1568 t_1570 t_60 t_195 t_1571) rfl rfl rfl (by decide +kernel) ⟨(Nat.le_of_ble_eq_true rfl), (Nat.le_of_ble_eq_true rfl)⟩) (pre3V g hK ma0_ ka0_ (by decide) (q := (RX1, TX1, 18)) rfl) rfl rfl hl.1 rfl (lv_room (Nat.le_of_ble_eq_true rfl)) dX1_go_113 ⟨(Nat.le_of_ble_eq_true rfl), (Nat.le_of_ble_eq_true rfl)⟩) g hK (by decide) (by decide) (fx' := [(1, 13, a0_, .int y_64), (7, 5, q0_, .ref a_61), (7, 4, q0_, .ref a_59), (7, 6, q0_, .int x_43), (1, 15, a0_, .int x_17), (1, 0, a0_, .ref q0_), (1, 1, a0_, .ref q1_), (1, 12, a0_, .int y0_), (1, 5, a0_, .int y1_), (7, 13, q0_, .int y2_), (7, 1, q0_, .int y3_)]) rfl (fun fr_195 H locs hp hMr_195 g => ?_)
                obtain ⟨x_196, h_197, hF_198⟩ := hp
                have hG_199 := cOK.frame hMr_195 go_.2.2.2.1 mq0_ kq0_ (by decide) (by decide) hG_194
                have g := g.more hF_198
                refine lv_goto (tgt := 308) hx hb dX1_go_116 (by decide) ?_
                obtain ⟨y_200, ey_200⟩ : ∃ z : Int32, z = v6_1 + 1 := ⟨_, rfl⟩
                refine lv_iinc (v := y_200) (lv' := [(1, .int y_200), (4, .int x_62), (3, .int x_60), (2, .int 1), (0, .ref a0_)]) hx hb dX1_go_308 hl (k := 3) rfl (by rw [ey_200]; rfl) (by decide) rfl (fun ls hl => ?_)
                have ty_200 := add_bd ey_200 b_16 kb_1 (by decide)
                have b_201 : bd 1 1000000 y_200 := add_rg ty_200 b_16 kb_1 (by decide)
                refine lv_goto (tgt := 6) hx hb dX1_go_311 (by decide) ?_
                have hl9 := lv_sub hl [0, 4] (by rfl : lv_pick [(1, .int y_200), (4, .int x_62), (3, .int x_60), (2, .int 1), (0, .ref a0_)] [0, 4] = [(1, .int y_200), (0, .ref a0_)])
                have g9 := g.sub (fx' := [(1, 0, a0_, .ref q0_), (1, 1, a0_, .ref q1_), (1, 12, a0_, .int y0_), (1, 5, a0_, .int y1_), (7, 13, q0_, .int y2_), (7, 1, q0_, .int y3_)]) [6, 7, 8, 9, 10, 11] rfl
                exact ih6  y_200 (bd_sub b_201 (by decide)) (by have h9_0 := b_201; unfold bd at h9_0; have h9_1 := b_25; unfold bd at h9_1; have h9_2 := bv6_1; unfold bd at h9_2; have h9_3 := h_197; unfold bd at h9_3; have h9_4 := kb_0; unfold bd at h9_4; have h9_5 := kb_1; unfold bd at h9_5; have h9_6 := kb_1000000; unfold bd at h9_6; have h9_7 := kb_5; unfold bd at h9_7; omega) _ _ _ _ g9 hG_199 hl9
  have kb_0 : bd 0 0 (0 : Int32) := ⟨by decide, by decide⟩
  have hl9 := lv_sub hl [0, 1] (by rfl : lv_pick [(1, .int 0), (0, .ref a0_)] [0, 1] = [(1, .int 0), (0, .ref a0_)])
  have g9 := g.sub (fx' := [(1, 0, a0_, .ref q0_), (1, 1, a0_, .ref q1_), (1, 12, a0_, .int y0_), (1, 5, a0_, .int y1_), (7, 13, q0_, .int y2_), (7, 1, q0_, .int y3_)]) [5, 6, 7, 8, 9, 10] rfl
  exact loop_6 (2000003) 0 (bd_sub kb_0 (by decide)) (by have h9_0 := h_3; unfold bd at h9_0; have h9_1 := kb_0; unfold bd at h9_1; omega) _ _ _ _ g9 hG_5 hl9
set_option maxHeartbeats 4000000 in
set_option maxRecDepth 100000 in
theorem r_X4_breakBy (l : Launch) (dC : Nat → ClassId) (dI : Nat → Nat → Nat) (L : List Nat) (kd : Nat → Nat) (tys : List (ClassId × FieldType)) (f0 : Nat → va_E) (sz : Nat) (hWT : WT L kd tys f0) (a0_ : Nat) (ma0_ : a0_ ∈ L) (ka0_ : kd a0_ = 4) (x1_ : Int32) (x2_ : Int32) (x3_ : Int32) : Met l yX4_breakBy (.code yX4_breakBy cX4_breakBy 4 none :: lw_g) ({ frames := 0, cells := 0, slots := 0, locals := 0 }) (va_Pc [.ref a0_, .int x1_, .int x2_, .int x3_] (P3 (dC, dI) L tys f0 sz)) (va_Qv (fun (f : Nat → va_E) => (True)) (Q3 (dC, dI) L kd tys [(4, 0), (4, 1), (4, 2)] [] f0 sz) (pA L sz)) 0 0 (pA L sz) := by
  refine Met.ofW (cc := cX4_breakBy) (maxL := 4) (ret := none) (by decide) rfl ?_
  intro p e s m args below meth c s₁ B hml hv
  obtain ⟨rfl, hsz, hP, hK, hD0⟩ := hv
  have hx := B.exec
  have hb := B.bytes
  have hr := B.returns
  have hts := atoms_spec (ws := (.code yX4_breakBy cX4_breakBy 4 none :: lw_g)) B.pre
  have hown : s.vm.findClass RX4 = some m.cls := findClass_of_methodNamed B.named
  have hlocks := B.notSynchronized
  subst hsz
  have g : G3 (dC, dI) L kd tys s f0 [(4, 0), (4, 1), (4, 2)] [] f0 s.heap [] [] := G3.start hP hD0 hWT Fs.nil
  have hl := lv_entry ([.ref a0_, .int x1_, .int x2_, .int x3_]) (n := 4) (Nat.le_of_ble_eq_true rfl)
  rw [lg_entry_eq]
  generalize (lg_sl ([.ref a0_, .int x1_, .int x2_, .int x3_]) ++ List.replicate (4 - (lg_sl ([.ref a0_, .int x1_, .int x2_, .int x3_])).length) Slot.unset).toArray = ls at hl ⊢
  have hl : lv_has ls 4 [(0, .ref a0_), (1, .int x1_), (2, .int x2_), (3, .int x3_)] := hl
  refine W_q (fun Q hQ => ?_)
  refine lv_aload_n hx hb dX4_breakBy_0 rfl (lv_at hl 0 rfl) ?_
  refine lv_iload_n hx hb dX4_breakBy_1 rfl (lv_at hl 1 rfl) ?_
  refine g_put (C := RX4) (T := TX4) (N := 17) hx hb hts (mc_ inX4) tyX4 tyX4_ok nmX4 hown hK g ma0_ ka0_ (by decide) rfl 0 (by decide) (hts _ (List.mem_cons_of_mem _ t_836)) (fun _ h9 => h9) rfl rfl (okV_i (bdT x1_)) rfl rfl (by decide) (Or.inr (Or.inl (by decide))) (fx' := []) rfl dX4_breakBy_2 (fun f H locs hM_1 g => ?_)
  refine lv_aload_n hx hb dX4_breakBy_5 rfl (lv_at hl 0 rfl) ?_
  refine lv_iload_n hx hb dX4_breakBy_6 rfl (lv_at hl 2 rfl) ?_
  refine g_put (C := RX4) (T := TX4) (N := 17) hx hb hts (mc_ inX4) tyX4 tyX4_ok nmX4 hown hK g ma0_ ka0_ (by decide) rfl 1 (by decide) (hts _ (List.mem_cons_of_mem _ t_839)) (fun _ h9 => h9) rfl rfl (okV_i (bdT x2_)) rfl rfl (by decide) (Or.inr (Or.inl (by decide))) (fx' := [(4, 0, a0_, .int x1_)]) rfl dX4_breakBy_7 (fun f H locs hM_2 g => ?_)
  refine lv_aload_n hx hb dX4_breakBy_10 rfl (lv_at hl 0 rfl) ?_
  refine lv_iload_n hx hb dX4_breakBy_11 rfl (lv_at hl 3 rfl) ?_
  refine g_put (C := RX4) (T := TX4) (N := 17) hx hb hts (mc_ inX4) tyX4 tyX4_ok nmX4 hown hK g ma0_ ka0_ (by decide) rfl 2 (by decide) (hts _ (List.mem_cons_of_mem _ t_841)) (fun _ h9 => h9) rfl rfl (okV_i (bdT x3_)) rfl rfl (by decide) (Or.inr (Or.inl (by decide))) (fx' := [(4, 1, a0_, .int x2_), (4, 0, a0_, .int x1_)]) rfl dX4_breakBy_12 (fun f H locs hM_3 g => ?_)
  subst hQ
  exact W.vret hx hb hr (fun t ht hW => ⟨⟨_, rfl, trivial, q3_of g hK ht hW⟩, g.2.2.1.F ht⟩) g.2.2.1.2.2 dX4_breakBy_15
set_option maxHeartbeats 4000000 in
set_option maxRecDepth 100000 in
theorem r_X1_standOn_2 (l : Launch) (dC : Nat → ClassId) (dI : Nat → Nat → Nat) (L : List Nat) (kd : Nat → Nat) (tys : List (ClassId × FieldType)) (f0 : Nat → va_E) (sz : Nat) (hWT : WT L kd tys f0) (a0_ : Nat) (ma0_ : a0_ ∈ L) (ka0_ : kd a0_ = 1) (a1_ : Nat) (ma1_ : a1_ ∈ L) (ka1_ : kd a1_ = 7) (a2_ : Nat) (ma2_ : a2_ ∈ L) (ka2_ : kd a2_ = 9) (a3_ : Nat) (ma3_ : a3_ ∈ L) (ka3_ : kd a3_ = 101) (a4_ : Nat) (ma4_ : a4_ ∈ L) (ka4_ : kd a4_ = 102) (a5_ : Nat) (ma5_ : a5_ ∈ L) (ka5_ : kd a5_ = 103) : Met l yX1_standOn (.code yX1_standOn cX1_standOn 6 none :: lw_g) ({ frames := 0, cells := 0, slots := 0, locals := 0 }) (va_Pc [.ref a0_, .ref a1_, .ref a2_, .ref a3_, .ref a4_, .ref a5_] (P3 (dC, dI) L tys f0 sz)) (va_Qv (fun (f : Nat → va_E) => (Fs L kd f [(1, 4, a0_, .ref a5_), (1, 3, a0_, .ref a4_), (1, 2, a0_, .ref a3_), (1, 1, a0_, .ref a2_), (1, 0, a0_, .ref a1_)])) (Q3 (dC, dI) L kd tys [(1, 0), (1, 1), (1, 2), (1, 3), (1, 4)] [] f0 sz) (pA L sz)) 0 0 (pA L sz) := by
  refine Met.ofW (cc := cX1_standOn) (maxL := 6) (ret := none) (by decide) rfl ?_
  intro p e s m args below meth c s₁ B hml hv
  obtain ⟨rfl, hsz, hP, hK, hD0⟩ := hv
  have hx := B.exec
  have hb := B.bytes
  have hr := B.returns
  have hts := atoms_spec (ws := (.code yX1_standOn cX1_standOn 6 none :: lw_g)) B.pre
  have hown : s.vm.findClass RX1 = some m.cls := findClass_of_methodNamed B.named
  have hlocks := B.notSynchronized
  subst hsz
  have g : G3 (dC, dI) L kd tys s f0 [(1, 0), (1, 1), (1, 2), (1, 3), (1, 4)] [] f0 s.heap [] [] := G3.start hP hD0 hWT Fs.nil
  have hl := lv_entry ([.ref a0_, .ref a1_, .ref a2_, .ref a3_, .ref a4_, .ref a5_]) (n := 6) (Nat.le_of_ble_eq_true rfl)
  rw [lg_entry_eq]
  generalize (lg_sl ([.ref a0_, .ref a1_, .ref a2_, .ref a3_, .ref a4_, .ref a5_]) ++ List.replicate (6 - (lg_sl ([.ref a0_, .ref a1_, .ref a2_, .ref a3_, .ref a4_, .ref a5_])).length) Slot.unset).toArray = ls at hl ⊢
  have hl : lv_has ls 6 [(0, .ref a0_), (1, .ref a1_), (2, .ref a2_), (3, .ref a3_), (4, .ref a4_), (5, .ref a5_)] := hl
  refine W_q (fun Q hQ => ?_)
  refine lv_aload_n hx hb dX1_standOn_0 rfl (lv_at hl 0 rfl) ?_
  refine lv_aload_n hx hb dX1_standOn_1 rfl (lv_at hl 1 rfl) ?_
  refine g_put (C := RX1) (T := TX1) (N := 18) hx hb hts (mc_ inX1) tyX1 tyX1_ok nmX1 hown hK g ma0_ ka0_ (by decide) rfl 0 (by decide) (hts _ (List.mem_cons_of_mem _ t_735)) (fun _ h9 => h9) rfl rfl (okV_n ma1_ ka1_ (by decide)) rfl rfl (by decide) (Or.inr (Or.inl (by decide))) (fx' := []) rfl dX1_standOn_2 (fun f H locs hM_1 g => ?_)
  refine lv_aload_n hx hb dX1_standOn_5 rfl (lv_at hl 0 rfl) ?_
  refine lv_aload_n hx hb dX1_standOn_6 rfl (lv_at hl 2 rfl) ?_
  refine g_put (C := RX1) (T := TX1) (N := 18) hx hb hts (mc_ inX1) tyX1 tyX1_ok nmX1 hown hK g ma0_ ka0_ (by decide) rfl 1 (by decide) (hts _ (List.mem_cons_of_mem _ t_736)) (fun _ h9 => h9) rfl rfl (okV_n ma2_ ka2_ (by decide)) rfl rfl (by decide) (Or.inr (Or.inl (by decide))) (fx' := [(1, 0, a0_, .ref a1_)]) rfl dX1_standOn_7 (fun f H locs hM_2 g => ?_)
  refine lv_aload_n hx hb dX1_standOn_10 rfl (lv_at hl 0 rfl) ?_
  refine lv_aload_n hx hb dX1_standOn_11 rfl (lv_at hl 3 rfl) ?_
  refine g_put (C := RX1) (T := TX1) (N := 18) hx hb hts (mc_ inX1) tyX1 tyX1_ok nmX1 hown hK g ma0_ ka0_ (by decide) rfl 2 (by decide) (hts _ (List.mem_cons_of_mem _ t_737)) (fun _ h9 => h9) rfl rfl (okV_r ma3_ ka3_ (by decide)) rfl rfl (by decide) (Or.inr (Or.inl (by decide))) (fx' := [(1, 1, a0_, .ref a2_), (1, 0, a0_, .ref a1_)]) rfl dX1_standOn_12 (fun f H locs hM_3 g => ?_)
  refine lv_aload_n hx hb dX1_standOn_15 rfl (lv_at hl 0 rfl) ?_
  refine lv_aload hx hb dX1_standOn_16 (lv_at hl 4 rfl) ?_
  refine g_put (C := RX1) (T := TX1) (N := 18) hx hb hts (mc_ inX1) tyX1 tyX1_ok nmX1 hown hK g ma0_ ka0_ (by decide) rfl 3 (by decide) (hts _ (List.mem_cons_of_mem _ t_738)) (fun _ h9 => h9) rfl rfl (okV_r ma4_ ka4_ (by decide)) rfl rfl (by decide) (Or.inr (Or.inl (by decide))) (fx' := [(1, 2, a0_, .ref a3_), (1, 1, a0_, .ref a2_), (1, 0, a0_, .ref a1_)]) rfl dX1_standOn_18 (fun f H locs hM_4 g => ?_)
  refine lv_aload_n hx hb dX1_standOn_21 rfl (lv_at hl 0 rfl) ?_
  refine lv_aload hx hb dX1_standOn_22 (lv_at hl 5 rfl) ?_
  refine g_put (C := RX1) (T := TX1) (N := 18) hx hb hts (mc_ inX1) tyX1 tyX1_ok nmX1 hown hK g ma0_ ka0_ (by decide) rfl 4 (by decide) (hts _ (List.mem_cons_of_mem _ t_739)) (fun _ h9 => h9) rfl rfl (okV_r ma5_ ka5_ (by decide)) rfl rfl (by decide) (Or.inr (Or.inl (by decide))) (fx' := [(1, 3, a0_, .ref a4_), (1, 2, a0_, .ref a3_), (1, 1, a0_, .ref a2_), (1, 0, a0_, .ref a1_)]) rfl dX1_standOn_24 (fun f H locs hM_5 g => ?_)
  subst hQ
  exact W.vret hx hb hr (fun t ht hW => ⟨⟨_, rfl, (g.fcts [0, 1, 2, 3, 4] rfl), q3_of g hK ht hW⟩, g.2.2.1.F ht⟩) g.2.2.1.2.2 dX1_standOn_27
set_option maxHeartbeats 4000000 in
set_option maxRecDepth 100000 in
theorem r_X10_lastMark (l : Launch) (dC : Nat → ClassId) (dI : Nat → Nat → Nat) (L : List Nat) (kd : Nat → Nat) (tys : List (ClassId × FieldType)) (f0 : Nat → va_E) (sz : Nat) (hWT : WT L kd tys f0) (a0_ : Nat) (ma0_ : a0_ ∈ L) (ka0_ : kd a0_ = 10) (x1_ : Int32) (bx1_ : bd 0 95 x1_) : Met l yX10_lastMark (.code yX10_lastMark cX10_lastMark 2 (some .int) :: lw_g) ({ frames := 1, cells := 0, slots := 0, locals := 13 }) (va_Pc [.ref a0_, .int x1_] (P3 (dC, dI) L tys f0 sz)) (va_Qi (fun (r : Int32) (f : Nat → va_E) => (bd (-1) 499 r ∧ True)) (Q3 (dC, dI) L kd tys [] [] f0 sz) (pA L sz)) 0 0 (pA L sz) := by
  refine Met.ofW (cc := cX10_lastMark) (maxL := 2) (ret := (some .int)) (by decide) rfl ?_
  intro p e s m args below meth c s₁ B hml hv
  obtain ⟨rfl, hsz, hP, hK, hD0⟩ := hv
  have hx := B.exec
  have hb := B.bytes
  have hr := B.returns
  have hts := atoms_spec (ws := (.code yX10_lastMark cX10_lastMark 2 (some .int) :: lw_g)) B.pre
  have hown : s.vm.findClass RX10 = some m.cls := findClass_of_methodNamed B.named
  have hlocks := B.notSynchronized
  subst hsz
  have g : G3 (dC, dI) L kd tys s f0 [] [] f0 s.heap [] [] := G3.start hP hD0 hWT Fs.nil
  have hl := lv_entry ([.ref a0_, .int x1_]) (n := 2) (Nat.le_of_ble_eq_true rfl)
  rw [lg_entry_eq]
  generalize (lg_sl ([.ref a0_, .int x1_]) ++ List.replicate (2 - (lg_sl ([.ref a0_, .int x1_])).length) Slot.unset).toArray = ls at hl ⊢
  have hl : lv_has ls 2 [(0, .ref a0_), (1, .int x1_)] := hl
  refine W_q (fun Q hQ => ?_)
  refine lv_aload_n hx hb dX10_lastMark_0 rfl (lv_at hl 0 rfl) ?_
  refine g_getr (K := 7) (C := RX10) (T := TX10) (N := 10) hx hb hts (mc_ inX10) hown hK g ma0_ ka0_ (by decide) rfl 0 (by decide) rfl (hts _ (List.mem_cons_of_mem _ t_912)) (fun _ h9 => h9) rfl dX10_lastMark_1 (fun a_1 ma_1 ka_1 g => ?_)
  refine g_getr (K := 137) (C := RX7) (T := TX7) (N := 19) hx hb hts (mc_ inX7) hown hK g ma_1 ka_1 (by decide) rfl 2 (by decide) rfl (hts _ (List.mem_cons_of_mem _ t_634)) (fun _ h9 => h9) rfl dX10_lastMark_4 (fun a_2 ma_2 ka_2 g => ?_)
  refine lv_iload_n hx hb dX10_lastMark_7 rfl (lv_at hl 1 rfl) ?_
  refine g_aald hx hb hK g ma_2 ka_2 (by decide) rfl (by decide) (in_bd bx1_ (by decide)) dX10_lastMark_8 (fun a_3 ma_3 ua_3 wa_3 => ?_)
  have ka_3 : kd a_3 = 6 := by omega
  refine g_geti (C := RX6) (T := TX6) (N := 13) hx hb hts (mc_ inX6) hown hK g ma_3 ka_3 (by decide) rfl 11 (by decide) rfl (hts _ (List.mem_cons_of_mem _ t_590)) (fun _ h9 => h9) rfl dX10_lastMark_9 (fun x_4 bx_4 g => ?_)
  refine lv_aload_n hx hb dX10_lastMark_12 rfl (lv_at hl 0 rfl) ?_
  refine g_getk (C := RX10) (T := TX10) (N := 10) hx hb hts (mc_ inX10) hown hK g rfl 0 (by decide) rfl (hts _ (List.mem_cons_of_mem _ t_912)) (fun _ h9 => h9) 2 rfl dX10_lastMark_13 ?_
  refine g_getk (C := RX7) (T := TX7) (N := 19) hx hb hts (mc_ inX7) hown hK g rfl 2 (by decide) rfl (hts _ (List.mem_cons_of_mem _ t_634)) (fun _ h9 => h9) 1 rfl dX10_lastMark_16 ?_
  refine lv_iload_n hx hb dX10_lastMark_19 rfl (lv_at hl 1 rfl) ?_
  refine g_aald hx hb hK g ma_2 ka_2 (by decide) rfl (by decide) (in_bd bx1_ (by decide)) dX10_lastMark_20 (fun a_5 ma_5 ua_5 wa_5 => ?_)
  have ka_5 : kd a_5 = 6 := by omega
  refine g_geti (C := RX6) (T := TX6) (N := 13) hx hb hts (mc_ inX6) hown hK g ma_5 ka_5 (by decide) rfl 12 (by decide) rfl (hts _ (List.mem_cons_of_mem _ t_592)) (fun _ h9 => h9) rfl dX10_lastMark_21 (fun x_6 bx_6 g => ?_)
  refine lv_iadd hx hb dX10_lastMark_24 ?_
  refine lv_topi (fun y_7 ey_7 => ?_)
  have ty_7 := add_bd ey_7 bx_4 bx_6 (by decide)
  have b_8 : bd 0 509 y_7 := add_rg ty_7 bx_4 bx_6 (by decide)
  refine lv_aload_n hx hb dX10_lastMark_25 rfl (lv_at hl 0 rfl) ?_
  refine g_getk (C := RX10) (T := TX10) (N := 10) hx hb hts (mc_ inX10) hown hK g rfl 0 (by decide) rfl (hts _ (List.mem_cons_of_mem _ t_912)) (fun _ h9 => h9) 3 rfl dX10_lastMark_26 ?_
  refine g_geti (C := RX7) (T := TX7) (N := 19) hx hb hts (mc_ inX7) hown hK g ma_1 ka_1 (by decide) rfl 13 (by decide) rfl (hts _ (List.mem_cons_of_mem _ t_670)) (fun _ h9 => h9) rfl dX10_lastMark_29 (fun x_9 bx_9 g => ?_)
  refine va_mmin hx hb (hml.trans hl.1.symm) hown (hts _ (List.mem_cons_of_mem _ t_1624)) (hts _ (List.mem_cons_of_mem _ t_998)) (hts _ (List.mem_cons_of_mem _ t_204)) (hts _ (List.mem_cons_of_mem _ t_999)) (Nat.le_of_ble_eq_true rfl) (Nat.le_of_ble_eq_true rfl) (Nat.le_of_ble_eq_true rfl) (Nat.le_of_ble_eq_true rfl) dX10_lastMark_32 ?_
  refine lv_topi (fun y_10 ey_10 => ?_)
  have ty_10 : y_10.toInt = min y_7.toInt x_9.toInt := by rw [ey_10]; exact mmin_ok _ _
  have b_11 : bd 0 500 y_10 := min_rg ty_10 b_8 bx_9 (by decide)
  refine lv_iconst (v := 1) hx hb dX10_lastMark_35 (by decide) ?_
  have kb_1 : bd 1 1 (1 : Int32) := ⟨by decide, by decide⟩
  refine lv_isub hx hb dX10_lastMark_36 ?_
  refine lv_topi (fun y_12 ey_12 => ?_)
  have ty_12 := sub_bd ey_12 b_11 kb_1 (by decide)
  have b_13 : bd (-1) 499 y_12 := sub_rg ty_12 b_11 kb_1 (by decide)
  subst hQ
  exact W.iret (v := y_12) hx hb hr (fun t ht hW => ⟨⟨_, _, rfl, ⟨b_13, trivial⟩, q3_of g hK ht hW⟩, g.2.2.1.F ht⟩) g.2.2.1.2.2 dX10_lastMark_37
