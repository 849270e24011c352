set_option maxHeartbeats 4000000 in
set_option maxRecDepth 100000 in
theorem r_X1_go_3 (l : Launch) (dC : Nat → ClassId) (dI : Nat → Nat → Nat) (L : List Nat) (kd : Nat → Nat) (tys : List (ClassId × FieldType)) (f0 : Nat → va_E) (sz : Nat) (hWT : WT L kd tys f0) (a0_ : Nat) (ma0_ : a0_ ∈ L) (ka0_ : kd a0_ = 1) (q0_ : Nat) (mq0_ : q0_ ∈ L) (kq0_ : kd q0_ = 7) (q1_ : Nat) (mq1_ : q1_ ∈ L) (kq1_ : kd q1_ = 9) (y0_ : Int32) (by0_ : bd 1 1 y0_) (y1_ : Int32) (by1_ : bd 0 0 y1_) (y2_ : Int32) (by2_ : bd 0 0 y2_) (y3_ : Int32) (by3_ : bd 1 8 y3_) (hGcq0_ : cOK f0 q0_) (hfx : Fs L kd f0 [(1, 0, a0_, .ref q0_), (1, 1, a0_, .ref q1_), (1, 12, a0_, .int y0_), (1, 6, a0_, .int y1_), (1, 5, a0_, .int y2_), (7, 1, q0_, .int y3_)]) : Met l yX1_go (.code yX1_go cX1_go 7 none :: lw_g) ({ frames := 1, cells := 0, slots := 0, locals := 24 }) (va_Pc [.ref a0_] (P3 (dC, dI) L tys f0 sz)) (va_Qv (fun (f : Nat → va_E) => (∃ z0_ : Int32, bd 1 20 z0_ ∧ Fs L kd f [(1, 11, a0_, .int z0_)])) (Q3 (dC, dI) L kd tys [(1, 8), (1, 11), (1, 13), (1, 14), (1, 15), (1, 16), (1, 17)] [100, 101, 102, 116, 117, 146] f0 sz) (pA L sz)) 0 0 (pA L sz) := by
  refine Met.ofW (cc := cX1_go) (maxL := 7) (ret := none) (by decide) rfl ?_
  intro p e s m args below meth c s₁ B hml hv
  obtain ⟨rfl, hsz, hP, hK, hD0⟩ := hv
  have hx := B.exec
  have hb := B.bytes
  have hr := B.returns
  have hts := atoms_spec (ws := (.code yX1_go cX1_go 7 none :: lw_g)) B.pre
  have hown : s.vm.findClass RX1 = some m.cls := findClass_of_methodNamed B.named
  have hlocks := B.notSynchronized
  subst hsz
  have g : G3 (dC, dI) L kd tys s f0 [(1, 8), (1, 11), (1, 13), (1, 14), (1, 15), (1, 16), (1, 17)] [100, 101, 102, 116, 117, 146] f0 s.heap [] [(1, 0, a0_, .ref q0_), (1, 1, a0_, .ref q1_), (1, 12, a0_, .int y0_), (1, 6, a0_, .int y1_), (1, 5, a0_, .int y2_), (7, 1, q0_, .int y3_)] := G3.start hP hD0 hWT hfx
  have hl := lv_entry ([.ref a0_]) (n := 7) (Nat.le_of_ble_eq_true rfl)
  rw [lg_entry_eq]
  generalize (lg_sl ([.ref a0_]) ++ List.replicate (7 - (lg_sl ([.ref a0_])).length) Slot.unset).toArray = ls at hl ⊢
  have hl : lv_has ls 7 [(0, .ref a0_)] := hl
  refine W_q (fun Q hQ => ?_)
  refine lv_aload_n hx hb dX1_go_0 rfl (lv_at hl 0 rfl) ?_
  have go_ := g
  refine g_callv (va_runV (As := []) (rest := []) ⟨hx, hb, hml, hown, hts⟩ (r_X1_begin_3 l dC dI L kd tys f0 s.heap.size g.2.2.2.1 a0_ ma0_ ka0_ y0_ by0_ (g.fcts [2] rfl)) (cwV 0 hts (gV_ t_1559 t_1561 t_58 t_195 t_1562) rfl rfl rfl (by decide +kernel) ⟨(Nat.le_of_ble_eq_true rfl), (Nat.le_of_ble_eq_true rfl)⟩) (pre3V g hK ma0_ ka0_ (by decide) (q := (RX1, TX1, 18)) rfl) rfl rfl hl.1 rfl (lv_room (Nat.le_of_ble_eq_true rfl)) dX1_go_1 ⟨(Nat.le_of_ble_eq_true rfl), (Nat.le_of_ble_eq_true rfl)⟩) g hK (by decide) (by decide) (fx' := [(1, 0, a0_, .ref q0_), (1, 1, a0_, .ref q1_), (1, 12, a0_, .int y0_), (1, 6, a0_, .int y1_), (1, 5, a0_, .int y2_), (7, 1, q0_, .int y3_)]) rfl (fun fr_1 H locs hp hMr_1 g => ?_)
  have hF_2 := hp
  have hG_3 := cOK.frame hMr_1 go_.2.2.2.1 mq0_ kq0_ (by decide) (by decide) hGcq0_
  have g := g.more hF_2
  refine lv_iconst (v := 0) hx hb dX1_go_4 (by decide) ?_
  refine lv_istore_n (lv' := [(1, .int 0), (0, .ref a0_)]) hx hb dX1_go_5 rfl hl (by decide) rfl (fun ls hl => ?_)
  have loop_4 : ∀ (n : Nat) (v6_1 : Int32) (w6_1_11_a0_ : Int32), bd 0 1000000 v6_1 → bd 1 20 w6_1_11_a0_ → (1000000 - v6_1.toInt < (n : Int)) → ∀ (f : Nat → va_E) (H : Heap) (locs : List Loc) (ls : Array Slot), G3 (dC, dI) L kd tys s f0 [(1, 8), (1, 11), (1, 13), (1, 14), (1, 15), (1, 16), (1, 17)] [100, 101, 102, 116, 117, 146] f H locs [(1, 11, a0_, .int w6_1_11_a0_), (1, 0, a0_, .ref q0_), (1, 1, a0_, .ref q1_), (1, 12, a0_, .int y0_), (1, 6, a0_, .int y1_), (1, 5, a0_, .int y2_), (7, 1, q0_, .int y3_)] → cOK f q0_ → lv_has ls 7 [(1, .int v6_1), (0, .ref a0_)] → W p l e ({ frames := 1, cells := 0, slots := 0, locals := 24 } : Room) s m [.ref a0_].toArray below meth c H locs 0 0 Q (F0 m 6 ls []) := by
    intro n6
    induction n6 with
    | zero =>
      intro v6_1 w6_1_11_a0_ bv6_1 bw6_1_11_a0_ hm6 f H locs ls g hG6_c_q0_ hl
      exact absurd hm6 (by have h9_v6_1 := bv6_1; unfold bd at h9_v6_1; have h9_w6_1_11_a0_ := bw6_1_11_a0_; unfold bd at h9_w6_1_11_a0_; omega)
    | succ n6 ih6 =>
      intro v6_1 w6_1_11_a0_ bv6_1 bw6_1_11_a0_ hm6 f H locs ls g hG6_c_q0_ hl
      refine lv_iload_n hx hb dX1_go_6 rfl (lv_at hl 0 rfl) ?_
      refine lv_ldc (v := 1000000) hx hb hown (hts _ (List.mem_cons_of_mem _ t_1563)) dX1_go_7 ?_
      have kb_1000000 : bd 1000000 1000000 (1000000 : Int32) := ⟨by decide, by decide⟩
      refine lv_icmp_ge (tgt := 314) hx hb dX1_go_9 (by decide) (fun c_5 => ?_) (fun c_5 => ?_)
      · have fc_5 := le_f c_5
        have b_6 : bd 1000000 1000000 v6_1 := leR fc_5 kb_1000000 bv6_1 (by decide)
        refine lv_aload_n hx hb dX1_go_314 rfl (lv_at hl 1 rfl) ?_
        refine lv_aload_n hx hb dX1_go_315 rfl (lv_at hl 1 rfl) ?_
        refine g_geti (C := RX1) (T := TX1) (N := 18) hx hb hts (mc_ inX1) hown hK g ma0_ ka0_ (by decide) rfl 15 (by decide) rfl (hts _ (List.mem_cons_of_mem _ t_750)) (fun _ h9 => h9) rfl dX1_go_316 (fun x_7 bx_7 g => ?_)
        have kb_0 : bd 0 0 (0 : Int32) := ⟨by decide, by decide⟩
        refine lv_if_ne (tgt := 326) hx hb dX1_go_319 (by decide) (fun c_8 => ?_) (fun c_8 => ?_)
        · have fc_8 := neq_f c_8
          refine lv_aload_n hx hb dX1_go_326 rfl (lv_at hl 1 rfl) ?_
          refine g_getk (C := RX1) (T := TX1) (N := 18) hx hb hts (mc_ inX1) hown hK g rfl 15 (by decide) rfl (hts _ (List.mem_cons_of_mem _ t_750)) (fun _ h9 => h9) 0 rfl dX1_go_327 ?_
          have go_ := g
          refine g_put (C := RX1) (T := TX1) (N := 18) hx hb hts (mc_ inX1) tyX1 tyX1_ok nmX1 hown hK g ma0_ ka0_ (by decide) rfl 15 (by decide) (hts _ (List.mem_cons_of_mem _ t_750)) (fun _ h9 => h9) rfl rfl (okV_i (bdT x_7)) rfl rfl (by decide) (Or.inr (Or.inl (by decide))) (fx' := [(1, 11, a0_, .int w6_1_11_a0_), (1, 0, a0_, .ref q0_), (1, 1, a0_, .ref q1_), (1, 12, a0_, .int y0_), (1, 6, a0_, .int y1_), (1, 5, a0_, .int y2_), (7, 1, q0_, .int y3_)]) rfl dX1_go_330 (fun f H locs hM_9 g => ?_)
          have hG_10 := cOK.frame hM_9 go_.2.2.2.1 mq0_ kq0_ (by decide) (by decide) hG6_c_q0_
          subst hQ
          exact W.vret hx hb hr (fun t ht hW => ⟨⟨_, rfl, ⟨w6_1_11_a0_, bw6_1_11_a0_, (g.fcts [1] rfl)⟩, q3_of g hK ht hW⟩, g.2.2.1.F ht⟩) g.2.2.1.2.2 dX1_go_333
        · have fc_8 := eq_f c_8
          have b_11 : bd 0 0 x_7 := eqX fc_8 (bdT x_7) kb_0 (by decide)
          refine lv_iconst (v := 3) hx hb dX1_go_322 (by decide) ?_
          refine lv_goto (tgt := 330) hx hb dX1_go_323 (by decide) ?_
          have kb_3 : bd 3 3 (3 : Int32) := ⟨by decide, by decide⟩
          have go_ := g
          refine g_put (C := RX1) (T := TX1) (N := 18) hx hb hts (mc_ inX1) tyX1 tyX1_ok nmX1 hown hK g ma0_ ka0_ (by decide) rfl 15 (by decide) (hts _ (List.mem_cons_of_mem _ t_750)) (fun _ h9 => h9) rfl rfl (okV_i (bd_sub kb_3 (by decide))) rfl rfl (by decide) (Or.inr (Or.inl (by decide))) (fx' := [(1, 11, a0_, .int w6_1_11_a0_), (1, 0, a0_, .ref q0_), (1, 1, a0_, .ref q1_), (1, 12, a0_, .int y0_), (1, 6, a0_, .int y1_), (1, 5, a0_, .int y2_), (7, 1, q0_, .int y3_)]) rfl dX1_go_330 (fun f H locs hM_12 g => ?_)
          have hG_13 := cOK.frame hM_12 go_.2.2.2.1 mq0_ kq0_ (by decide) (by decide) hG6_c_q0_
          subst hQ
          exact W.vret hx hb hr (fun t ht hW => ⟨⟨_, rfl, ⟨w6_1_11_a0_, bw6_1_11_a0_, (g.fcts [1] rfl)⟩, q3_of g hK ht hW⟩, g.2.2.1.F ht⟩) g.2.2.1.2.2 dX1_go_333
      · have fc_5 := nle_f c_5
        have b_14 : bd 0 999999 v6_1 := ltL fc_5 bv6_1 kb_1000000 (by decide)
        refine lv_aload_n hx hb dX1_go_12 rfl (lv_at hl 1 rfl) ?_
        refine g_geti (C := RX1) (T := TX1) (N := 18) hx hb hts (mc_ inX1) hown hK g ma0_ ka0_ (by decide) rfl 15 (by decide) rfl (hts _ (List.mem_cons_of_mem _ t_750)) (fun _ h9 => h9) rfl dX1_go_13 (fun x_15 bx_15 g => ?_)
        have kb_0 : bd 0 0 (0 : Int32) := ⟨by decide, by decide⟩
        refine lv_if_ne (tgt := 314) hx hb dX1_go_16 (by decide) (fun c_16 => ?_) (fun c_16 => ?_)
        · have fc_16 := neq_f c_16
          refine lv_aload_n hx hb dX1_go_314 rfl (lv_at hl 1 rfl) ?_
          refine lv_aload_n hx hb dX1_go_315 rfl (lv_at hl 1 rfl) ?_
          refine g_getk (C := RX1) (T := TX1) (N := 18) hx hb hts (mc_ inX1) hown hK g rfl 15 (by decide) rfl (hts _ (List.mem_cons_of_mem _ t_750)) (fun _ h9 => h9) 0 rfl dX1_go_316 ?_
          refine lv_if_ne (tgt := 326) hx hb dX1_go_319 (by decide) (fun c_17 => ?_) (fun c_17 => ?_)
          · have fc_17 := neq_f c_17
            refine lv_aload_n hx hb dX1_go_326 rfl (lv_at hl 1 rfl) ?_
            refine g_getk (C := RX1) (T := TX1) (N := 18) hx hb hts (mc_ inX1) hown hK g rfl 15 (by decide) rfl (hts _ (List.mem_cons_of_mem _ t_750)) (fun _ h9 => h9) 0 rfl dX1_go_327 ?_
            have go_ := g
            refine g_put (C := RX1) (T := TX1) (N := 18) hx hb hts (mc_ inX1) tyX1 tyX1_ok nmX1 hown hK g ma0_ ka0_ (by decide) rfl 15 (by decide) (hts _ (List.mem_cons_of_mem _ t_750)) (fun _ h9 => h9) rfl rfl (okV_i (bdT x_15)) rfl rfl (by decide) (Or.inr (Or.inl (by decide))) (fx' := [(1, 11, a0_, .int w6_1_11_a0_), (1, 0, a0_, .ref q0_), (1, 1, a0_, .ref q1_), (1, 12, a0_, .int y0_), (1, 6, a0_, .int y1_), (1, 5, a0_, .int y2_), (7, 1, q0_, .int y3_)]) rfl dX1_go_330 (fun f H locs hM_18 g => ?_)
            have hG_19 := cOK.frame hM_18 go_.2.2.2.1 mq0_ kq0_ (by decide) (by decide) hG6_c_q0_
            subst hQ
            exact W.vret hx hb hr (fun t ht hW => ⟨⟨_, rfl, ⟨w6_1_11_a0_, bw6_1_11_a0_, (g.fcts [1] rfl)⟩, q3_of g hK ht hW⟩, g.2.2.1.F ht⟩) g.2.2.1.2.2 dX1_go_333
          · have fc_17 := eq_f c_17
            exact absurd fc_17 fc_16
        · have fc_16 := eq_f c_16
          have b_20 : bd 0 0 x_15 := eqX fc_16 (bdT x_15) kb_0 (by decide)
          refine lv_aload_n hx hb dX1_go_19 rfl (lv_at hl 1 rfl) ?_
          refine g_geti (C := RX1) (T := TX1) (N := 18) hx hb hts (mc_ inX1) hown hK g ma0_ ka0_ (by decide) rfl 13 (by decide) rfl (hts _ (List.mem_cons_of_mem _ t_748)) (fun _ h9 => h9) rfl dX1_go_20 (fun x_21 bx_21 g => ?_)
          refine lv_if_lt (tgt := 44) hx hb dX1_go_23 (by decide) (fun c_22 => ?_) (fun c_22 => ?_)
          · have fc_22 := lt_f c_22
            have b_23 : bd (-2147483648) (-1) x_21 := ltL fc_22 (bdT x_21) kb_0 (by decide)
            refine lv_iconst (v := 0) hx hb dX1_go_44 (by decide) ?_
            refine lv_istore_n (lv' := [(2, .int 0), (1, .int v6_1), (0, .ref a0_)]) hx hb dX1_go_45 rfl hl (by decide) rfl (fun ls hl => ?_)
            refine lv_iload_n hx hb dX1_go_46 rfl (lv_at hl 0 rfl) ?_
            refine lv_if_eq (tgt := 65) hx hb dX1_go_47 (by decide) (fun c_ => ?_) (fun c_ => absurd (by decide) c_)
            refine lv_bipush (v := 19) hx hb dX1_go_65 (by decide) ?_
            refine lv_istore_n (lv' := [(3, .int 19), (2, .int 0), (1, .int v6_1), (0, .ref a0_)]) hx hb dX1_go_67 rfl hl (by decide) rfl (fun ls hl => ?_)
            refine lv_iload_n hx hb dX1_go_68 rfl (lv_at hl 1 rfl) ?_
            refine lv_if_eq (tgt := 87) hx hb dX1_go_69 (by decide) (fun c_ => ?_) (fun c_ => absurd (by decide) c_)
            refine lv_iconst (v := 0) hx hb dX1_go_87 (by decide) ?_
            refine lv_istore (lv' := [(4, .int 0), (3, .int 19), (2, .int 0), (1, .int v6_1), (0, .ref a0_)]) hx hb dX1_go_88 hl (by decide) rfl (fun ls hl => ?_)
            refine lv_aload_n hx hb dX1_go_90 rfl (lv_at hl 4 rfl) ?_
            refine lv_dup hx hb dX1_go_91 rfl ?_
            refine g_getk (C := RX1) (T := TX1) (N := 18) hx hb hts (mc_ inX1) hown hK g rfl 13 (by decide) rfl (hts _ (List.mem_cons_of_mem _ t_748)) (fun _ h9 => h9) 0 rfl dX1_go_92 ?_
            refine lv_iconst (v := 1) hx hb dX1_go_95 (by decide) ?_
            have kb_1 : bd 1 1 (1 : Int32) := ⟨by decide, by decide⟩
            refine lv_iadd hx hb dX1_go_96 ?_
            refine lv_topi (fun y_24 ey_24 => ?_)
            have ty_24 := add_bd ey_24 b_23 kb_1 (by decide)
            have b_25 : bd (-2147483647) 0 y_24 := add_rg ty_24 b_23 kb_1 (by decide)
            have go_ := g
            refine g_put (C := RX1) (T := TX1) (N := 18) hx hb hts (mc_ inX1) tyX1 tyX1_ok nmX1 hown hK g ma0_ ka0_ (by decide) rfl 13 (by decide) (hts _ (List.mem_cons_of_mem _ t_748)) (fun _ h9 => h9) rfl rfl (okV_i (bd_sub b_25 (by decide))) rfl rfl (by decide) (Or.inr (Or.inl (by decide))) (fx' := [(1, 15, a0_, .int x_15), (1, 11, a0_, .int w6_1_11_a0_), (1, 0, a0_, .ref q0_), (1, 1, a0_, .ref q1_), (1, 12, a0_, .int y0_), (1, 6, a0_, .int y1_), (1, 5, a0_, .int y2_), (7, 1, q0_, .int y3_)]) rfl dX1_go_97 (fun f H locs hM_26 g => ?_)
            have hG_27 := cOK.frame hM_26 go_.2.2.2.1 mq0_ kq0_ (by decide) (by decide) hG6_c_q0_
            refine lv_iload_n hx hb dX1_go_100 rfl (lv_at hl 1 rfl) ?_
            refine lv_iconst (v := 5) hx hb dX1_go_101 (by decide) ?_
            refine lv_icmp_gt (tgt := 119) hx hb dX1_go_102 (by decide) (fun c_ => ?_) (fun c_ => absurd (by decide) c_)
            refine lv_iload_n hx hb dX1_go_119 rfl (lv_at hl 1 rfl) ?_
            refine lv_bipush (v := 11) hx hb dX1_go_120 (by decide) ?_
            refine lv_icmp_gt (tgt := 143) hx hb dX1_go_122 (by decide) (fun c_ => ?_) (fun c_ => absurd (by decide) c_)
            refine lv_iload_n hx hb dX1_go_143 rfl (lv_at hl 1 rfl) ?_
            refine lv_bipush (v := 16) hx hb dX1_go_144 (by decide) ?_
            refine lv_icmp_gt (tgt := 159) hx hb dX1_go_146 (by decide) (fun c_ => ?_) (fun c_ => absurd (by decide) c_)
            refine lv_iload_n hx hb dX1_go_159 rfl (lv_at hl 1 rfl) ?_
            refine lv_bipush (v := 17) hx hb dX1_go_160 (by decide) ?_
            refine lv_icmp_ne (tgt := 198) hx hb dX1_go_162 (by decide) (fun c_ => ?_) (fun c_ => absurd c_ (by decide))
            refine lv_iload_n hx hb dX1_go_198 rfl (lv_at hl 1 rfl) ?_
            refine lv_bipush (v := 18) hx hb dX1_go_199 (by decide) ?_
            refine lv_icmp_ne (tgt := 213) hx hb dX1_go_201 (by decide) (fun c_ => ?_) (fun c_ => absurd c_ (by decide))
            refine lv_iload_n hx hb dX1_go_213 rfl (lv_at hl 1 rfl) ?_
            refine lv_bipush (v := 19) hx hb dX1_go_214 (by decide) ?_
            refine lv_icmp_ne (tgt := 227) hx hb dX1_go_216 (by decide) (fun c_ => absurd c_ (by decide)) (fun c_ => ?_)
            refine lv_aload_n hx hb dX1_go_219 rfl (lv_at hl 4 rfl) ?_
            refine lv_iconst (v := 0) hx hb dX1_go_220 (by decide) ?_
            have go_ := g
            refine g_callv (va_runV (As := [.int 0]) (rest := []) ⟨hx, hb, hml, hown, hts⟩ (r_X1_leave_53 l dC dI L kd tys f H.size g.2.2.2.1 a0_ ma0_ ka0_ 0 kb_0 y_24 b_25 x_15 b_20 w6_1_11_a0_ bw6_1_11_a0_ y0_ by0_ y1_ by1_ y2_ by2_ (g.fcts [0, 1, 2, 5, 6, 7] rfl)) (cwV 1 hts (gV_ t_1589 t_1591 t_65 t_195 t_1592) rfl rfl rfl (by decide +kernel) ⟨(Nat.le_of_ble_eq_true rfl), (Nat.le_of_ble_eq_true rfl)⟩) (pre3V g hK ma0_ ka0_ (by decide) (q := (RX1, TX1, 18)) rfl) rfl rfl hl.1 rfl (lv_room (Nat.le_of_ble_eq_true rfl)) dX1_go_221 ⟨(Nat.le_of_ble_eq_true rfl), (Nat.le_of_ble_eq_true rfl)⟩) g hK (by decide) (by decide) (fx' := [(1, 0, a0_, .ref q0_), (1, 1, a0_, .ref q1_), (1, 12, a0_, .int y0_), (1, 6, a0_, .int y1_), (1, 5, a0_, .int y2_), (7, 1, q0_, .int y3_)]) rfl (fun fr_28 H locs hp hMr_28 g => ?_)
            obtain ⟨x_29, h_30, x_31, h_32, hF_33⟩ := hp
            have hG_34 := cOK.frame hMr_28 go_.2.2.2.1 mq0_ kq0_ (by decide) (by decide) hG_27
            have g := g.more hF_33
            refine lv_goto (tgt := 308) hx hb dX1_go_224 (by decide) ?_
            obtain ⟨y_35, ey_35⟩ : ∃ z : Int32, z = v6_1 + 1 := ⟨_, rfl⟩
            refine lv_iinc (v := y_35) (lv' := [(1, .int y_35), (4, .int 0), (3, .int 19), (2, .int 0), (0, .ref a0_)]) hx hb dX1_go_308 hl (k := 3) rfl (by rw [ey_35]; rfl) (by decide) rfl (fun ls hl => ?_)
            have ty_35 := add_bd ey_35 b_14 kb_1 (by decide)
            have b_36 : bd 1 1000000 y_35 := add_rg ty_35 b_14 kb_1 (by decide)
            refine lv_goto (tgt := 6) hx hb dX1_go_311 (by decide) ?_
            have hl9 := lv_sub hl [0, 4] (by rfl : lv_pick [(1, .int y_35), (4, .int 0), (3, .int 19), (2, .int 0), (0, .ref a0_)] [0, 4] = [(1, .int y_35), (0, .ref a0_)])
            have g9 := g.sub (fx' := [(1, 11, a0_, .int x_29), (1, 0, a0_, .ref q0_), (1, 1, a0_, .ref q1_), (1, 12, a0_, .int y0_), (1, 6, a0_, .int y1_), (1, 5, a0_, .int y2_), (7, 1, q0_, .int y3_)]) [0, 2, 3, 4, 5, 6, 7] rfl
            exact ih6  y_35 x_29 (bd_sub b_36 (by decide)) (bd_sub h_30 (by decide)) (by have h9_0 := b_36; unfold bd at h9_0; have h9_1 := bv6_1; unfold bd at h9_1; have h9_2 := bw6_1_11_a0_; unfold bd at h9_2; have h9_3 := h_30; unfold bd at h9_3; have h9_4 := h_32; unfold bd at h9_4; have h9_5 := kb_0; unfold bd at h9_5; have h9_6 := kb_1; unfold bd at h9_6; have h9_7 := kb_1000000; unfold bd at h9_7; omega) _ _ _ _ g9 hG_34 hl9
          · have fc_22 := nlt_f c_22
            have b_37 : bd 0 2147483647 x_21 := leR fc_22 kb_0 (bdT x_21) (by decide)
            refine lv_aload_n hx hb dX1_go_26 rfl (lv_at hl 1 rfl) ?_
            refine g_getk (C := RX1) (T := TX1) (N := 18) hx hb hts (mc_ inX1) hown hK g rfl 13 (by decide) rfl (hts _ (List.mem_cons_of_mem _ t_748)) (fun _ h9 => h9) 0 rfl dX1_go_27 ?_
            refine lv_aload_n hx hb dX1_go_30 rfl (lv_at hl 1 rfl) ?_
            refine g_getk (C := RX1) (T := TX1) (N := 18) hx hb hts (mc_ inX1) hown hK g rfl 0 (by decide) rfl (hts _ (List.mem_cons_of_mem _ t_735)) (fun _ h9 => h9) 3 rfl dX1_go_31 ?_
            refine g_geti (C := RX7) (T := TX7) (N := 19) hx hb hts (mc_ inX7) hown hK g mq0_ kq0_ (by decide) rfl 6 (by decide) rfl (hts _ (List.mem_cons_of_mem _ t_645)) (fun _ h9 => h9) rfl dX1_go_34 (fun x_38 bx_38 g => ?_)
            refine lv_icmp_ge (tgt := 44) hx hb dX1_go_37 (by decide) (fun c_39 => ?_) (fun c_39 => ?_)
            · have fc_39 := le_f c_39
              refine lv_iconst (v := 0) hx hb dX1_go_44 (by decide) ?_
              refine lv_istore_n (lv' := [(2, .int 0), (1, .int v6_1), (0, .ref a0_)]) hx hb dX1_go_45 rfl hl (by decide) rfl (fun ls hl => ?_)
              refine lv_iload_n hx hb dX1_go_46 rfl (lv_at hl 0 rfl) ?_
              refine lv_if_eq (tgt := 65) hx hb dX1_go_47 (by decide) (fun c_ => ?_) (fun c_ => absurd (by decide) c_)
              refine lv_bipush (v := 19) hx hb dX1_go_65 (by decide) ?_
              refine lv_istore_n (lv' := [(3, .int 19), (2, .int 0), (1, .int v6_1), (0, .ref a0_)]) hx hb dX1_go_67 rfl hl (by decide) rfl (fun ls hl => ?_)
              refine lv_iload_n hx hb dX1_go_68 rfl (lv_at hl 1 rfl) ?_
              refine lv_if_eq (tgt := 87) hx hb dX1_go_69 (by decide) (fun c_ => ?_) (fun c_ => absurd (by decide) c_)
              refine lv_iconst (v := 0) hx hb dX1_go_87 (by decide) ?_
              refine lv_istore (lv' := [(4, .int 0), (3, .int 19), (2, .int 0), (1, .int v6_1), (0, .ref a0_)]) hx hb dX1_go_88 hl (by decide) rfl (fun ls hl => ?_)
              refine lv_aload_n hx hb dX1_go_90 rfl (lv_at hl 4 rfl) ?_
              refine lv_dup hx hb dX1_go_91 rfl ?_
              refine g_getk (C := RX1) (T := TX1) (N := 18) hx hb hts (mc_ inX1) hown hK g rfl 13 (by decide) rfl (hts _ (List.mem_cons_of_mem _ t_748)) (fun _ h9 => h9) 1 rfl dX1_go_92 ?_
              refine lv_iconst (v := 1) hx hb dX1_go_95 (by decide) ?_
              have kb_1 : bd 1 1 (1 : Int32) := ⟨by decide, by decide⟩
              refine lv_iadd hx hb dX1_go_96 ?_
              refine lv_topi (fun y_40 ey_40 => ?_)
              have go_ := g
              refine g_put (C := RX1) (T := TX1) (N := 18) hx hb hts (mc_ inX1) tyX1 tyX1_ok nmX1 hown hK g ma0_ ka0_ (by decide) rfl 13 (by decide) (hts _ (List.mem_cons_of_mem _ t_748)) (fun _ h9 => h9) rfl rfl (okV_i (bdT y_40)) rfl rfl (by decide) (Or.inr (Or.inl (by decide))) (fx' := [(7, 6, q0_, .int x_38), (1, 15, a0_, .int x_15), (1, 11, a0_, .int w6_1_11_a0_), (1, 0, a0_, .ref q0_), (1, 1, a0_, .ref q1_), (1, 12, a0_, .int y0_), (1, 6, a0_, .int y1_), (1, 5, a0_, .int y2_), (7, 1, q0_, .int y3_)]) rfl dX1_go_97 (fun f H locs hM_41 g => ?_)
              have hG_42 := cOK.frame hM_41 go_.2.2.2.1 mq0_ kq0_ (by decide) (by decide) hG6_c_q0_
              refine lv_iload_n hx hb dX1_go_100 rfl (lv_at hl 1 rfl) ?_
              refine lv_iconst (v := 5) hx hb dX1_go_101 (by decide) ?_
              refine lv_icmp_gt (tgt := 119) hx hb dX1_go_102 (by decide) (fun c_ => ?_) (fun c_ => absurd (by decide) c_)
              refine lv_iload_n hx hb dX1_go_119 rfl (lv_at hl 1 rfl) ?_
              refine lv_bipush (v := 11) hx hb dX1_go_120 (by decide) ?_
              refine lv_icmp_gt (tgt := 143) hx hb dX1_go_122 (by decide) (fun c_ => ?_) (fun c_ => absurd (by decide) c_)
              refine lv_iload_n hx hb dX1_go_143 rfl (lv_at hl 1 rfl) ?_
              refine lv_bipush (v := 16) hx hb dX1_go_144 (by decide) ?_
              refine lv_icmp_gt (tgt := 159) hx hb dX1_go_146 (by decide) (fun c_ => ?_) (fun c_ => absurd (by decide) c_)
              refine lv_iload_n hx hb dX1_go_159 rfl (lv_at hl 1 rfl) ?_
              refine lv_bipush (v := 17) hx hb dX1_go_160 (by decide) ?_
              refine lv_icmp_ne (tgt := 198) hx hb dX1_go_162 (by decide) (fun c_ => ?_) (fun c_ => absurd c_ (by decide))
              refine lv_iload_n hx hb dX1_go_198 rfl (lv_at hl 1 rfl) ?_
              refine lv_bipush (v := 18) hx hb dX1_go_199 (by decide) ?_
              refine lv_icmp_ne (tgt := 213) hx hb dX1_go_201 (by decide) (fun c_ => ?_) (fun c_ => absurd c_ (by decide))
              refine lv_iload_n hx hb dX1_go_213 rfl (lv_at hl 1 rfl) ?_
              refine lv_bipush (v := 19) hx hb dX1_go_214 (by decide) ?_
              refine lv_icmp_ne (tgt := 227) hx hb dX1_go_216 (by decide) (fun c_ => absurd c_ (by decide)) (fun c_ => ?_)
              refine lv_aload_n hx hb dX1_go_219 rfl (lv_at hl 4 rfl) ?_
              refine lv_iconst (v := 0) hx hb dX1_go_220 (by decide) ?_
              have go_ := g
              refine g_callv (va_runV (As := [.int 0]) (rest := []) ⟨hx, hb, hml, hown, hts⟩ (r_X1_leave_54 l dC dI L kd tys f H.size g.2.2.2.1 a0_ ma0_ ka0_ 0 kb_0 x_15 b_20 w6_1_11_a0_ bw6_1_11_a0_ y0_ by0_ y1_ by1_ y2_ by2_ (g.fcts [2, 3, 6, 7, 8] rfl)) (cwV 1 hts (gV_ t_1589 t_1591 t_65 t_195 t_1592) rfl rfl rfl (by decide +kernel) ⟨(Nat.le_of_ble_eq_true rfl), (Nat.le_of_ble_eq_true rfl)⟩) (pre3V g hK ma0_ ka0_ (by decide) (q := (RX1, TX1, 18)) rfl) rfl rfl hl.1 rfl (lv_room (Nat.le_of_ble_eq_true rfl)) dX1_go_221 ⟨(Nat.le_of_ble_eq_true rfl), (Nat.le_of_ble_eq_true rfl)⟩) g hK (by decide) (by decide) (fx' := [(7, 6, q0_, .int x_38), (1, 0, a0_, .ref q0_), (1, 1, a0_, .ref q1_), (1, 12, a0_, .int y0_), (1, 6, a0_, .int y1_), (1, 5, a0_, .int y2_), (7, 1, q0_, .int y3_)]) rfl (fun fr_43 H locs hp hMr_43 g => ?_)
              obtain ⟨x_44, h_45, x_46, h_47, hF_48⟩ := hp
              have hG_49 := cOK.frame hMr_43 go_.2.2.2.1 mq0_ kq0_ (by decide) (by decide) hG_42
              have g := g.more hF_48
              refine lv_goto (tgt := 308) hx hb dX1_go_224 (by decide) ?_
              obtain ⟨y_50, ey_50⟩ : ∃ z : Int32, z = v6_1 + 1 := ⟨_, rfl⟩
              refine lv_iinc (v := y_50) (lv' := [(1, .int y_50), (4, .int 0), (3, .int 19), (2, .int 0), (0, .ref a0_)]) hx hb dX1_go_308 hl (k := 3) rfl (by rw [ey_50]; rfl) (by decide) rfl (fun ls hl => ?_)
              have ty_50 := add_bd ey_50 b_14 kb_1 (by decide)
              have b_51 : bd 1 1000000 y_50 := add_rg ty_50 b_14 kb_1 (by decide)
              refine lv_goto (tgt := 6) hx hb dX1_go_311 (by decide) ?_
              have hl9 := lv_sub hl [0, 4] (by rfl : lv_pick [(1, .int y_50), (4, .int 0), (3, .int 19), (2, .int 0), (0, .ref a0_)] [0, 4] = [(1, .int y_50), (0, .ref a0_)])
              have g9 := g.sub (fx' := [(1, 11, a0_, .int x_44), (1, 0, a0_, .ref q0_), (1, 1, a0_, .ref q1_), (1, 12, a0_, .int y0_), (1, 6, a0_, .int y1_), (1, 5, a0_, .int y2_), (7, 1, q0_, .int y3_)]) [0, 3, 4, 5, 6, 7, 8] rfl
              exact ih6  y_50 x_44 (bd_sub b_51 (by decide)) (bd_sub h_45 (by decide)) (by have h9_0 := b_51; unfold bd at h9_0; have h9_1 := bv6_1; unfold bd at h9_1; have h9_2 := bw6_1_11_a0_; unfold bd at h9_2; have h9_3 := h_45; unfold bd at h9_3; have h9_4 := h_47; unfold bd at h9_4; have h9_5 := kb_0; unfold bd at h9_5; have h9_6 := kb_1; unfold bd at h9_6; have h9_7 := kb_1000000; unfold bd at h9_7; omega) _ _ _ _ g9 hG_49 hl9
            · have fc_39 := nle_f c_39
              have b_52 : bd 0 1999 x_21 := ltL fc_39 b_37 bx_38 (by decide)
              have b_53 : bd 1 2000 x_38 := ltR fc_39 b_37 bx_38 (by decide)
              refine lv_iconst (v := 1) hx hb dX1_go_40 (by decide) ?_
              refine lv_goto (tgt := 45) hx hb dX1_go_41 (by decide) ?_
              refine lv_istore_n (lv' := [(2, .int 1), (1, .int v6_1), (0, .ref a0_)]) hx hb dX1_go_45 rfl hl (by decide) rfl (fun ls hl => ?_)
              refine lv_iload_n hx hb dX1_go_46 rfl (lv_at hl 0 rfl) ?_
              refine lv_if_eq (tgt := 65) hx hb dX1_go_47 (by decide) (fun c_ => absurd c_ (by decide)) (fun c_ => ?_)
              refine lv_aload_n hx hb dX1_go_50 rfl (lv_at hl 2 rfl) ?_
              refine g_getk (C := RX1) (T := TX1) (N := 18) hx hb hts (mc_ inX1) hown hK g rfl 0 (by decide) rfl (hts _ (List.mem_cons_of_mem _ t_735)) (fun _ h9 => h9) 4 rfl dX1_go_51 ?_
              refine g_getr (K := 138) (C := RX7) (T := TX7) (N := 19) hx hb hts (mc_ inX7) hown hK g mq0_ kq0_ (by decide) rfl 4 (by decide) rfl (hts _ (List.mem_cons_of_mem _ t_641)) (fun _ h9 => h9) rfl dX1_go_54 (fun a_54 ma_54 ka_54 g => ?_)
              refine lv_aload_n hx hb dX1_go_57 rfl (lv_at hl 2 rfl) ?_
              refine g_getk (C := RX1) (T := TX1) (N := 18) hx hb hts (mc_ inX1) hown hK g rfl 13 (by decide) rfl (hts _ (List.mem_cons_of_mem _ t_748)) (fun _ h9 => h9) 2 rfl dX1_go_58 ?_
              refine g_iald hx hb hK g ma_54 ka_54 (by decide) rfl (in_bd b_52 (by decide)) dX1_go_61 (fun x_55 bx_55 cx_55 => ?_)
              refine lv_goto (tgt := 67) hx hb dX1_go_62 (by decide) ?_
              refine lv_istore_n (lv' := [(3, .int x_55), (2, .int 1), (1, .int v6_1), (0, .ref a0_)]) hx hb dX1_go_67 rfl hl (by decide) rfl (fun ls hl => ?_)
              refine lv_iload_n hx hb dX1_go_68 rfl (lv_at hl 1 rfl) ?_
              refine lv_if_eq (tgt := 87) hx hb dX1_go_69 (by decide) (fun c_ => absurd c_ (by decide)) (fun c_ => ?_)
              refine lv_aload_n hx hb dX1_go_72 rfl (lv_at hl 3 rfl) ?_
              refine g_getk (C := RX1) (T := TX1) (N := 18) hx hb hts (mc_ inX1) hown hK g rfl 0 (by decide) rfl (hts _ (List.mem_cons_of_mem _ t_735)) (fun _ h9 => h9) 5 rfl dX1_go_73 ?_
              refine g_getr (K := 139) (C := RX7) (T := TX7) (N := 19) hx hb hts (mc_ inX7) hown hK g mq0_ kq0_ (by decide) rfl 5 (by decide) rfl (hts _ (List.mem_cons_of_mem _ t_643)) (fun _ h9 => h9) rfl dX1_go_76 (fun a_56 ma_56 ka_56 g => ?_)
              refine lv_aload_n hx hb dX1_go_79 rfl (lv_at hl 3 rfl) ?_
              refine g_getk (C := RX1) (T := TX1) (N := 18) hx hb hts (mc_ inX1) hown hK g rfl 13 (by decide) rfl (hts _ (List.mem_cons_of_mem _ t_748)) (fun _ h9 => h9) 3 rfl dX1_go_80 ?_
              refine g_iald hx hb hK g ma_56 ka_56 (by decide) rfl (in_bd b_52 (by decide)) dX1_go_83 (fun x_57 bx_57 cx_57 => ?_)
              have hc_58 : crel x_55 x_57 := hG6_c_q0_.at g 1 0 2 rfl rfl rfl cx_55 cx_57 b_52 (by decide) fc_39
              refine lv_goto (tgt := 88) hx hb dX1_go_84 (by decide) ?_
              refine lv_istore (lv' := [(4, .int x_57), (3, .int x_55), (2, .int 1), (1, .int v6_1), (0, .ref a0_)]) hx hb dX1_go_88 hl (by decide) rfl (fun ls hl => ?_)
              refine lv_aload_n hx hb dX1_go_90 rfl (lv_at hl 4 rfl) ?_
              refine lv_dup hx hb dX1_go_91 rfl ?_
              refine g_getk (C := RX1) (T := TX1) (N := 18) hx hb hts (mc_ inX1) hown hK g rfl 13 (by decide) rfl (hts _ (List.mem_cons_of_mem _ t_748)) (fun _ h9 => h9) 3 rfl dX1_go_92 ?_
              refine lv_iconst (v := 1) hx hb dX1_go_95 (by decide) ?_
              have kb_1 : bd 1 1 (1 : Int32) := ⟨by decide, by decide⟩
              refine lv_iadd hx hb dX1_go_96 ?_
              refine lv_topi (fun y_59 ey_59 => ?_)
              have ty_59 := add_bd ey_59 b_52 kb_1 (by decide)
              have b_60 : bd 1 2000 y_59 := add_rg ty_59 b_52 kb_1 (by decide)
              have go_ := g
              refine g_put (C := RX1) (T := TX1) (N := 18) hx hb hts (mc_ inX1) tyX1 tyX1_ok nmX1 hown hK g ma0_ ka0_ (by decide) rfl 13 (by decide) (hts _ (List.mem_cons_of_mem _ t_748)) (fun _ h9 => h9) rfl rfl (okV_i (bd_sub b_60 (by decide))) rfl rfl (by decide) (Or.inr (Or.inl (by decide))) (fx' := [(7, 5, q0_, .ref a_56), (7, 4, q0_, .ref a_54), (7, 6, q0_, .int x_38), (1, 15, a0_, .int x_15), (1, 11, a0_, .int w6_1_11_a0_), (1, 0, a0_, .ref q0_), (1, 1, a0_, .ref q1_), (1, 12, a0_, .int y0_), (1, 6, a0_, .int y1_), (1, 5, a0_, .int y2_), (7, 1, q0_, .int y3_)]) rfl dX1_go_97 (fun f H locs hM_61 g => ?_)
              have hG_62 := cOK.frame hM_61 go_.2.2.2.1 mq0_ kq0_ (by decide) (by decide) hG6_c_q0_
              refine lv_iload_n hx hb dX1_go_100 rfl (lv_at hl 1 rfl) ?_
              refine lv_iconst (v := 5) hx hb dX1_go_101 (by decide) ?_
              have kb_5 : bd 5 5 (5 : Int32) := ⟨by decide, by decide⟩
              refine lv_icmp_gt (tgt := 119) hx hb dX1_go_102 (by decide) (fun c_63 => ?_) (fun c_63 => ?_)
              · have fc_63 := lt_f c_63
                have b_64 : bd 6 2147483647 x_55 := ltR fc_63 kb_5 (bdT x_55) (by decide)
                refine lv_iload_n hx hb dX1_go_119 rfl (lv_at hl 1 rfl) ?_
                refine lv_bipush (v := 11) hx hb dX1_go_120 (by decide) ?_
                have kb_11 : bd 11 11 (11 : Int32) := ⟨by decide, by decide⟩
                refine lv_icmp_gt (tgt := 143) hx hb dX1_go_122 (by decide) (fun c_65 => ?_) (fun c_65 => ?_)
                · have fc_65 := lt_f c_65
                  have b_66 : bd 12 2147483647 x_55 := ltR fc_65 kb_11 b_64 (by decide)
                  refine lv_iload_n hx hb dX1_go_143 rfl (lv_at hl 1 rfl) ?_
                  refine lv_bipush (v := 16) hx hb dX1_go_144 (by decide) ?_
                  have kb_16 : bd 16 16 (16 : Int32) := ⟨by decide, by decide⟩
                  refine lv_icmp_gt (tgt := 159) hx hb dX1_go_146 (by decide) (fun c_67 => ?_) (fun c_67 => ?_)
                  · have fc_67 := lt_f c_67
                    have b_68 : bd 17 2147483647 x_55 := ltR fc_67 kb_16 b_66 (by decide)
                    refine lv_iload_n hx hb dX1_go_159 rfl (lv_at hl 1 rfl) ?_
                    refine lv_bipush (v := 17) hx hb dX1_go_160 (by decide) ?_
                    have kb_17 : bd 17 17 (17 : Int32) := ⟨by decide, by decide⟩
                    refine lv_icmp_ne (tgt := 198) hx hb dX1_go_162 (by decide) (fun c_69 => ?_) (fun c_69 => ?_)
                    · have fc_69 := neq_f c_69
                      have b_70 : bd 18 2147483647 x_55 := neX fc_69 b_68 kb_17 (by decide)
                      refine lv_iload_n hx hb dX1_go_198 rfl (lv_at hl 1 rfl) ?_
                      refine lv_bipush (v := 18) hx hb dX1_go_199 (by decide) ?_
                      have kb_18 : bd 18 18 (18 : Int32) := ⟨by decide, by decide⟩
                      refine lv_icmp_ne (tgt := 213) hx hb dX1_go_201 (by decide) (fun c_71 => ?_) (fun c_71 => ?_)
                      · have fc_71 := neq_f c_71
                        have b_72 : bd 19 2147483647 x_55 := neX fc_71 b_70 kb_18 (by decide)
                        refine lv_iload_n hx hb dX1_go_213 rfl (lv_at hl 1 rfl) ?_
                        refine lv_bipush (v := 19) hx hb dX1_go_214 (by decide) ?_
                        have kb_19 : bd 19 19 (19 : Int32) := ⟨by decide, by decide⟩
                        refine lv_icmp_ne (tgt := 227) hx hb dX1_go_216 (by decide) (fun c_73 => ?_) (fun c_73 => ?_)
                        · have fc_73 := neq_f c_73
                          have b_74 : bd 20 2147483647 x_55 := neX fc_73 b_72 kb_19 (by decide)
                          refine lv_iload_n hx hb dX1_go_227 rfl (lv_at hl 1 rfl) ?_
                          refine lv_bipush (v := 26) hx hb dX1_go_228 (by decide) ?_
                          have kb_26 : bd 26 26 (26 : Int32) := ⟨by decide, by decide⟩
                          refine lv_icmp_ne (tgt := 244) hx hb dX1_go_230 (by decide) (fun c_75 => ?_) (fun c_75 => ?_)
                          · have fc_75 := neq_f c_75
                            refine lv_iload_n hx hb dX1_go_244 rfl (lv_at hl 1 rfl) ?_
                            refine lv_bipush (v := 25) hx hb dX1_go_245 (by decide) ?_
                            have kb_25 : bd 25 25 (25 : Int32) := ⟨by decide, by decide⟩
                            refine lv_icmp_gt (tgt := 264) hx hb dX1_go_247 (by decide) (fun c_76 => ?_) (fun c_76 => ?_)
                            · have fc_76 := lt_f c_76
                              have b_77 : bd 26 2147483647 x_55 := ltR fc_76 kb_25 b_74 (by decide)
                              refine lv_aload_n hx hb dX1_go_264 rfl (lv_at hl 4 rfl) ?_
                              have go_ := g
                              refine g_calli (va_runV (As := []) (rest := []) ⟨hx, hb, hml, hown, hts⟩ (r_X1_pop l dC dI L kd tys f H.size g.2.2.2.1 a0_ ma0_ ka0_) (cwV 0 hts (gV_ t_1572 t_1574 t_61 t_195 t_1575) rfl rfl rfl (by decide +kernel) ⟨(Nat.le_of_ble_eq_true rfl), (Nat.le_of_ble_eq_true rfl)⟩) (pre3V g hK ma0_ ka0_ (by decide) (q := (RX1, TX1, 18)) rfl) rfl rfl hl.1 rfl (lv_room (Nat.le_of_ble_eq_true rfl)) dX1_go_265 ⟨(Nat.le_of_ble_eq_true rfl), (Nat.le_of_ble_eq_true rfl)⟩) g hK (by decide) (by decide) (fx' := [(1, 13, a0_, .int y_59), (7, 5, q0_, .ref a_56), (7, 4, q0_, .ref a_54), (7, 6, q0_, .int x_38), (1, 15, a0_, .int x_15), (1, 11, a0_, .int w6_1_11_a0_), (1, 0, a0_, .ref q0_), (1, 1, a0_, .ref q1_), (1, 12, a0_, .int y0_), (1, 6, a0_, .int y1_), (1, 5, a0_, .int y2_), (7, 1, q0_, .int y3_)]) rfl (fun r_78 fr_78 H locs hp hMr_78 g => ?_)
                              obtain ⟨x_79, h_80, hF_81⟩ := hp
                              have hG_82 := cOK.frame hMr_78 go_.2.2.2.1 mq0_ kq0_ (by decide) (by decide) hG_62
                              have g := g.more hF_81
                              refine lv_istore (lv' := [(5, .int r_78), (4, .int x_57), (3, .int x_55), (2, .int 1), (1, .int v6_1), (0, .ref a0_)]) hx hb dX1_go_268 hl (by decide) rfl (fun ls hl => ?_)
                              refine lv_aload_n hx hb dX1_go_270 rfl (lv_at hl 5 rfl) ?_
                              have go_ := g
                              refine g_calli (va_runV (As := []) (rest := []) ⟨hx, hb, hml, hown, hts⟩ (r_X1_pop l dC dI L kd tys fr_78 H.size g.2.2.2.1 a0_ ma0_ ka0_) (cwV 0 hts (gV_ t_1572 t_1574 t_61 t_195 t_1575) rfl rfl rfl (by decide +kernel) ⟨(Nat.le_of_ble_eq_true rfl), (Nat.le_of_ble_eq_true rfl)⟩) (pre3V g hK ma0_ ka0_ (by decide) (q := (RX1, TX1, 18)) rfl) rfl rfl hl.1 rfl (lv_room (Nat.le_of_ble_eq_true rfl)) dX1_go_271 ⟨(Nat.le_of_ble_eq_true rfl), (Nat.le_of_ble_eq_true rfl)⟩) g hK (by decide) (by decide) (fx' := [(1, 13, a0_, .int y_59), (7, 5, q0_, .ref a_56), (7, 4, q0_, .ref a_54), (7, 6, q0_, .int x_38), (1, 15, a0_, .int x_15), (1, 11, a0_, .int w6_1_11_a0_), (1, 0, a0_, .ref q0_), (1, 1, a0_, .ref q1_), (1, 12, a0_, .int y0_), (1, 6, a0_, .int y1_), (1, 5, a0_, .int y2_), (7, 1, q0_, .int y3_)]) rfl (fun r_83 fr_83 H locs hp hMr_83 g => ?_)
                              obtain ⟨x_84, h_85, hF_86⟩ := hp
                              have hG_87 := cOK.frame hMr_83 go_.2.2.2.1 mq0_ kq0_ (by decide) (by decide) hG_82
                              have g := g.more hF_86
                              refine lv_istore (lv' := [(6, .int r_83), (5, .int r_78), (4, .int x_57), (3, .int x_55), (2, .int 1), (1, .int v6_1), (0, .ref a0_)]) hx hb dX1_go_274 hl (by decide) rfl (fun ls hl => ?_)
                              refine lv_iload_n hx hb dX1_go_276 rfl (lv_at hl 3 rfl) ?_
                              refine lv_bipush (v := 27) hx hb dX1_go_277 (by decide) ?_
                              have kb_27 : bd 27 27 (27 : Int32) := ⟨by decide, by decide⟩
                              refine lv_icmp_ne (tgt := 295) hx hb dX1_go_279 (by decide) (fun c_88 => ?_) (fun c_88 => ?_)
                              · have fc_88 := neq_f c_88
                                refine lv_aload_n hx hb dX1_go_295 rfl (lv_at hl 6 rfl) ?_
                                refine lv_aload_n hx hb dX1_go_296 rfl (lv_at hl 6 rfl) ?_
                                refine lv_iload_n hx hb dX1_go_297 rfl (lv_at hl 3 rfl) ?_
                                refine lv_iload hx hb dX1_go_298 (lv_at hl 0 rfl) ?_
                                refine lv_iload hx hb dX1_go_300 (lv_at hl 1 rfl) ?_
                                have go_ := g
                                refine g_calli (va_runV (As := [.int x_55, .int r_83, .int r_78]) (rest := [.ref a0_]) ⟨hx, hb, hml, hown, hts⟩ (r_X1_reckon l dC dI L kd tys fr_83 H.size g.2.2.2.1 a0_ ma0_ ka0_ x_55 r_83 r_78) (cwV 3 hts (gV_ t_1601 t_1603 t_68 t_195 t_1604) rfl rfl rfl (by decide +kernel) ⟨(Nat.le_of_ble_eq_true rfl), (Nat.le_of_ble_eq_true rfl)⟩) (pre3V g hK ma0_ ka0_ (by decide) (q := (RX1, TX1, 18)) rfl) rfl rfl hl.1 rfl (lv_room (Nat.le_of_ble_eq_true rfl)) dX1_go_302 ⟨(Nat.le_of_ble_eq_true rfl), (Nat.le_of_ble_eq_true rfl)⟩) g hK (by decide) (by decide) (fx' := [(1, 8, a0_, .int x_84), (1, 13, a0_, .int y_59), (7, 5, q0_, .ref a_56), (7, 4, q0_, .ref a_54), (7, 6, q0_, .int x_38), (1, 11, a0_, .int w6_1_11_a0_), (1, 0, a0_, .ref q0_), (1, 1, a0_, .ref q1_), (1, 12, a0_, .int y0_), (1, 6, a0_, .int y1_), (1, 5, a0_, .int y2_), (7, 1, q0_, .int y3_)]) rfl (fun r_89 fr_89 H locs hp hMr_89 g => ?_)
                                have hG_90 := cOK.frame hMr_89 go_.2.2.2.1 mq0_ kq0_ (by decide) (by decide) hG_87
                                have go_ := g
                                refine g_callv (va_runV (As := [.int r_89]) (rest := []) ⟨hx, hb, hml, hown, hts⟩ (r_X1_push l dC dI L kd tys fr_89 H.size g.2.2.2.1 a0_ ma0_ ka0_ r_89) (cwV 1 hts (gV_ t_1568 t_1570 t_60 t_195 t_1571) rfl rfl rfl (by decide +kernel) ⟨(Nat.le_of_ble_eq_true rfl), (Nat.le_of_ble_eq_true rfl)⟩) (pre3V g hK ma0_ ka0_ (by decide) (q := (RX1, TX1, 18)) rfl) rfl rfl hl.1 rfl (lv_room (Nat.le_of_ble_eq_true rfl)) dX1_go_305 ⟨(Nat.le_of_ble_eq_true rfl), (Nat.le_of_ble_eq_true rfl)⟩) g hK (by decide) (by decide) (fx' := [(1, 13, a0_, .int y_59), (7, 5, q0_, .ref a_56), (7, 4, q0_, .ref a_54), (7, 6, q0_, .int x_38), (1, 11, a0_, .int w6_1_11_a0_), (1, 0, a0_, .ref q0_), (1, 1, a0_, .ref q1_), (1, 12, a0_, .int y0_), (1, 6, a0_, .int y1_), (1, 5, a0_, .int y2_), (7, 1, q0_, .int y3_)]) rfl (fun fr_91 H locs hp hMr_91 g => ?_)
                                obtain ⟨x_92, h_93, hF_94⟩ := hp
                                have hG_95 := cOK.frame hMr_91 go_.2.2.2.1 mq0_ kq0_ (by decide) (by decide) hG_90
                                have g := g.more hF_94
                                obtain ⟨y_96, ey_96⟩ : ∃ z : Int32, z = v6_1 + 1 := ⟨_, rfl⟩
                                refine lv_iinc (v := y_96) (lv' := [(1, .int y_96), (6, .int r_83), (5, .int r_78), (4, .int x_57), (3, .int x_55), (2, .int 1), (0, .ref a0_)]) hx hb dX1_go_308 hl (k := 5) rfl (by rw [ey_96]; rfl) (by decide) rfl (fun ls hl => ?_)
                                have ty_96 := add_bd ey_96 b_14 kb_1 (by decide)
                                have b_97 : bd 1 1000000 y_96 := add_rg ty_96 b_14 kb_1 (by decide)
                                refine lv_goto (tgt := 6) hx hb dX1_go_311 (by decide) ?_
                                have hl9 := lv_sub hl [0, 6] (by rfl : lv_pick [(1, .int y_96), (6, .int r_83), (5, .int r_78), (4, .int x_57), (3, .int x_55), (2, .int 1), (0, .ref a0_)] [0, 6] = [(1, .int y_96), (0, .ref a0_)])
                                have g9 := g.sub (fx' := [(1, 11, a0_, .int w6_1_11_a0_), (1, 0, a0_, .ref q0_), (1, 1, a0_, .ref q1_), (1, 12, a0_, .int y0_), (1, 6, a0_, .int y1_), (1, 5, a0_, .int y2_), (7, 1, q0_, .int y3_)]) [5, 6, 7, 8, 9, 10, 11] rfl
                                exact ih6  y_96 w6_1_11_a0_ (bd_sub b_97 (by decide)) bw6_1_11_a0_ (by have h9_0 := b_97; unfold bd at h9_0; have h9_1 := bv6_1; unfold bd at h9_1; have h9_2 := bw6_1_11_a0_; unfold bd at h9_2; have h9_3 := h_93; unfold bd at h9_3; have h9_4 := kb_0; unfold bd at h9_4; have h9_5 := kb_1; unfold bd at h9_5; have h9_6 := kb_1000000; unfold bd at h9_6; have h9_7 := kb_11; unfold bd at h9_7; have h9_8 := kb_16; unfold bd at h9_8; have h9_9 := kb_17; unfold bd at h9_9; have h9_10 := kb_18; unfold bd at h9_10; have h9_11 := kb_19; unfold bd at h9_11; have h9_12 := kb_25; unfold bd at h9_12; have h9_13 := kb_26; unfold bd at h9_13; have h9_14 := kb_27; unfold bd at h9_14; have h9_15 := kb_5; unfold bd at h9_15; omega) _ _ _ _ g9 hG_95 hl9
                              · have fc_88 := eq_f c_88
                                have b_98 : bd 27 27 x_55 := eqX fc_88 b_77 kb_27 (by decide)
                                have b_99 : bd 0 400 x_57 := eqX rfl (bdT x_57) (cr400 hc_58 b_98 (by decide)) (by decide)
                                refine lv_aload_n hx hb dX1_go_282 rfl (lv_at hl 6 rfl) ?_
                                refine lv_iload hx hb dX1_go_283 (lv_at hl 2 rfl) ?_
                                refine lv_iload hx hb dX1_go_285 (lv_at hl 0 rfl) ?_
                                refine lv_iload hx hb dX1_go_287 (lv_at hl 1 rfl) ?_
                                have go_ := g
                                refine g_callv (va_runV (As := [.int x_57, .int r_83, .int r_78]) (rest := []) ⟨hx, hb, hml, hown, hts⟩ (r_X1_setCell_22 l dC dI L kd tys fr_83 H.size g.2.2.2.1 a0_ ma0_ ka0_ x_57 b_99 r_83 r_78 x_84 h_85 y_59 b_60 x_15 b_20 w6_1_11_a0_ bw6_1_11_a0_ y0_ by0_ y1_ by1_ y2_ by2_ (g.fcts [0, 1, 5, 6, 9, 10, 11] rfl)) (cwV 3 hts (gV_ t_1597 t_1599 t_67 t_195 t_1600) rfl rfl rfl (by decide +kernel) ⟨(Nat.le_of_ble_eq_true rfl), (Nat.le_of_ble_eq_true rfl)⟩) (pre3V g hK ma0_ ka0_ (by decide) (q := (RX1, TX1, 18)) rfl) rfl rfl hl.1 rfl (lv_room (Nat.le_of_ble_eq_true rfl)) dX1_go_289 ⟨(Nat.le_of_ble_eq_true rfl), (Nat.le_of_ble_eq_true rfl)⟩) g hK (by decide) (by decide) (fx' := [(1, 8, a0_, .int x_84), (1, 13, a0_, .int y_59), (7, 5, q0_, .ref a_56), (7, 4, q0_, .ref a_54), (7, 6, q0_, .int x_38), (1, 15, a0_, .int x_15), (1, 11, a0_, .int w6_1_11_a0_), (1, 0, a0_, .ref q0_), (1, 1, a0_, .ref q1_), (1, 12, a0_, .int y0_), (1, 6, a0_, .int y1_), (1, 5, a0_, .int y2_), (7, 1, q0_, .int y3_)]) rfl (fun fr_100 H locs hp hMr_100 g => ?_)
                                have hG_101 := cOK.frame hMr_100 go_.2.2.2.1 mq0_ kq0_ (by decide) (by decide) hG_87
                                refine lv_goto (tgt := 308) hx hb dX1_go_292 (by decide) ?_
                                obtain ⟨y_102, ey_102⟩ : ∃ z : Int32, z = v6_1 + 1 := ⟨_, rfl⟩
                                refine lv_iinc (v := y_102) (lv' := [(1, .int y_102), (6, .int r_83), (5, .int r_78), (4, .int x_57), (3, .int x_55), (2, .int 1), (0, .ref a0_)]) hx hb dX1_go_308 hl (k := 5) rfl (by rw [ey_102]; rfl) (by decide) rfl (fun ls hl => ?_)
                                have ty_102 := add_bd ey_102 b_14 kb_1 (by decide)
                                have b_103 : bd 1 1000000 y_102 := add_rg ty_102 b_14 kb_1 (by decide)
                                refine lv_goto (tgt := 6) hx hb dX1_go_311 (by decide) ?_
                                have hl9 := lv_sub hl [0, 6] (by rfl : lv_pick [(1, .int y_102), (6, .int r_83), (5, .int r_78), (4, .int x_57), (3, .int x_55), (2, .int 1), (0, .ref a0_)] [0, 6] = [(1, .int y_102), (0, .ref a0_)])
                                have g9 := g.sub (fx' := [(1, 11, a0_, .int w6_1_11_a0_), (1, 0, a0_, .ref q0_), (1, 1, a0_, .ref q1_), (1, 12, a0_, .int y0_), (1, 6, a0_, .int y1_), (1, 5, a0_, .int y2_), (7, 1, q0_, .int y3_)]) [6, 7, 8, 9, 10, 11, 12] rfl
                                exact ih6  y_102 w6_1_11_a0_ (bd_sub b_103 (by decide)) bw6_1_11_a0_ (by have h9_0 := b_103; unfold bd at h9_0; have h9_1 := b_20; unfold bd at h9_1; have h9_2 := bv6_1; unfold bd at h9_2; have h9_3 := bw6_1_11_a0_; unfold bd at h9_3; have h9_4 := h_85; unfold bd at h9_4; have h9_5 := kb_0; unfold bd at h9_5; have h9_6 := kb_1; unfold bd at h9_6; have h9_7 := kb_1000000; unfold bd at h9_7; have h9_8 := kb_11; unfold bd at h9_8; have h9_9 := kb_16; unfold bd at h9_9; have h9_10 := kb_17; unfold bd at h9_10; have h9_11 := kb_18; unfold bd at h9_11; have h9_12 := kb_19; unfold bd at h9_12; have h9_13 := kb_25; unfold bd at h9_13; have h9_14 := kb_26; unfold bd at h9_14; have h9_15 := kb_27; unfold bd at h9_15; have h9_16 := kb_5; unfold bd at h9_16; omega) _ _ _ _ g9 hG_101 hl9
                            · have fc_76 := nlt_f c_76
                              have b_104 : bd 20 25 x_55 := leL fc_76 b_74 kb_25 (by decide)
                              refine lv_aload_n hx hb dX1_go_250 rfl (lv_at hl 4 rfl) ?_
                              refine lv_iload_n hx hb dX1_go_251 rfl (lv_at hl 1 rfl) ?_
                              refine lv_iload hx hb dX1_go_252 (lv_at hl 0 rfl) ?_
                              refine lv_aload_n hx hb dX1_go_254 rfl (lv_at hl 4 rfl) ?_
                              have go_ := g
                              refine g_calli (va_runV (As := []) (rest := [.int x_57, .int x_55, .ref a0_]) ⟨hx, hb, hml, hown, hts⟩ (r_X1_pop l dC dI L kd tys f H.size g.2.2.2.1 a0_ ma0_ ka0_) (cwV 0 hts (gV_ t_1572 t_1574 t_61 t_195 t_1575) rfl rfl rfl (by decide +kernel) ⟨(Nat.le_of_ble_eq_true rfl), (Nat.le_of_ble_eq_true rfl)⟩) (pre3V g hK ma0_ ka0_ (by decide) (q := (RX1, TX1, 18)) rfl) rfl rfl hl.1 rfl (lv_room (Nat.le_of_ble_eq_true rfl)) dX1_go_255 ⟨(Nat.le_of_ble_eq_true rfl), (Nat.le_of_ble_eq_true rfl)⟩) g hK (by decide) (by decide) (fx' := [(1, 13, a0_, .int y_59), (7, 5, q0_, .ref a_56), (7, 4, q0_, .ref a_54), (7, 6, q0_, .int x_38), (1, 15, a0_, .int x_15), (1, 11, a0_, .int w6_1_11_a0_), (1, 0, a0_, .ref q0_), (1, 1, a0_, .ref q1_), (1, 12, a0_, .int y0_), (1, 6, a0_, .int y1_), (1, 5, a0_, .int y2_), (7, 1, q0_, .int y3_)]) rfl (fun r_105 fr_105 H locs hp hMr_105 g => ?_)
                              obtain ⟨x_106, h_107, hF_108⟩ := hp
                              have hG_109 := cOK.frame hMr_105 go_.2.2.2.1 mq0_ kq0_ (by decide) (by decide) hG_62
                              have g := g.more hF_108
                              have go_ := g
                              refine g_callv (va_runV (As := [.int x_55, .int x_57, .int r_105]) (rest := []) ⟨hx, hb, hml, hown, hts⟩ (r_X1_use_22 l dC dI L kd tys fr_105 H.size g.2.2.2.1 a0_ ma0_ ka0_ x_55 b_104 x_57 r_105 x_106 h_107 y_59 b_60 x_15 b_20 w6_1_11_a0_ bw6_1_11_a0_ y0_ by0_ y1_ by1_ y2_ by2_ hc_58 (g.fcts [0, 1, 5, 6, 9, 10, 11] rfl)) (cwV 3 hts (gV_ t_1593 t_1595 t_66 t_195 t_1596) rfl rfl rfl (by decide +kernel) ⟨(Nat.le_of_ble_eq_true rfl), (Nat.le_of_ble_eq_true rfl)⟩) (pre3V g hK ma0_ ka0_ (by decide) (q := (RX1, TX1, 18)) rfl) rfl rfl hl.1 rfl (lv_room (Nat.le_of_ble_eq_true rfl)) dX1_go_258 ⟨(Nat.le_of_ble_eq_true rfl), (Nat.le_of_ble_eq_true rfl)⟩) g hK (by decide) (by decide) (fx' := [(7, 5, q0_, .ref a_56), (7, 4, q0_, .ref a_54), (7, 6, q0_, .int x_38), (1, 15, a0_, .int x_15), (1, 11, a0_, .int w6_1_11_a0_), (1, 0, a0_, .ref q0_), (1, 1, a0_, .ref q1_), (1, 12, a0_, .int y0_), (1, 6, a0_, .int y1_), (1, 5, a0_, .int y2_), (7, 1, q0_, .int y3_)]) rfl (fun fr_110 H locs hp hMr_110 g => ?_)
                              have hG_111 := cOK.frame hMr_110 go_.2.2.2.1 mq0_ kq0_ (by decide) (by decide) hG_109
                              refine lv_goto (tgt := 308) hx hb dX1_go_261 (by decide) ?_
                              obtain ⟨y_112, ey_112⟩ : ∃ z : Int32, z = v6_1 + 1 := ⟨_, rfl⟩
                              refine lv_iinc (v := y_112) (lv' := [(1, .int y_112), (4, .int x_57), (3, .int x_55), (2, .int 1), (0, .ref a0_)]) hx hb dX1_go_308 hl (k := 3) rfl (by rw [ey_112]; rfl) (by decide) rfl (fun ls hl => ?_)
                              have ty_112 := add_bd ey_112 b_14 kb_1 (by decide)
                              have b_113 : bd 1 1000000 y_112 := add_rg ty_112 b_14 kb_1 (by decide)
                              refine lv_goto (tgt := 6) hx hb dX1_go_311 (by decide) ?_
                              have hl9 := lv_sub hl [0, 4] (by rfl : lv_pick [(1, .int y_112), (4, .int x_57), (3, .int x_55), (2, .int 1), (0, .ref a0_)] [0, 4] = [(1, .int y_112), (0, .ref a0_)])
                              have g9 := g.sub (fx' := [(1, 11, a0_, .int w6_1_11_a0_), (1, 0, a0_, .ref q0_), (1, 1, a0_, .ref q1_), (1, 12, a0_, .int y0_), (1, 6, a0_, .int y1_), (1, 5, a0_, .int y2_), (7, 1, q0_, .int y3_)]) [4, 5, 6, 7, 8, 9, 10] rfl
                              exact ih6  y_112 w6_1_11_a0_ (bd_sub b_113 (by decide)) bw6_1_11_a0_ (by have h9_0 := b_113; unfold bd at h9_0; have h9_1 := b_20; unfold bd at h9_1; have h9_2 := bv6_1; unfold bd at h9_2; have h9_3 := bw6_1_11_a0_; unfold bd at h9_3; have h9_4 := kb_0; unfold bd at h9_4; have h9_5 := kb_1; unfold bd at h9_5; have h9_6 := kb_1000000; unfold bd at h9_6; have h9_7 := kb_11; unfold bd at h9_7; have h9_8 := kb_16; unfold bd at h9_8; have h9_9 := kb_17; unfold bd at h9_9; have h9_10 := kb_18; unfold bd at h9_10; have h9_11 := kb_19; unfold bd at h9_11; have h9_12 := kb_25; unfold bd at h9_12; have h9_13 := kb_26; unfold bd at h9_13; have h9_14 := kb_5; unfold bd at h9_14; omega) _ _ _ _ g9 hG_111 hl9
                          · have fc_75 := eq_f c_75
                            have b_114 : bd 26 26 x_55 := eqX fc_75 b_74 kb_26 (by decide)
                            refine lv_aload_n hx hb dX1_go_233 rfl (lv_at hl 4 rfl) ?_
                            refine lv_aload_n hx hb dX1_go_234 rfl (lv_at hl 4 rfl) ?_
                            have go_ := g
                            refine g_calli (va_runV (As := []) (rest := [.ref a0_]) ⟨hx, hb, hml, hown, hts⟩ (r_X1_pop l dC dI L kd tys f H.size g.2.2.2.1 a0_ ma0_ ka0_) (cwV 0 hts (gV_ t_1572 t_1574 t_61 t_195 t_1575) rfl rfl rfl (by decide +kernel) ⟨(Nat.le_of_ble_eq_true rfl), (Nat.le_of_ble_eq_true rfl)⟩) (pre3V g hK ma0_ ka0_ (by decide) (q := (RX1, TX1, 18)) rfl) rfl rfl hl.1 rfl (lv_room (Nat.le_of_ble_eq_true rfl)) dX1_go_235 ⟨(Nat.le_of_ble_eq_true rfl), (Nat.le_of_ble_eq_true rfl)⟩) g hK (by decide) (by decide) (fx' := [(1, 13, a0_, .int y_59), (7, 5, q0_, .ref a_56), (7, 4, q0_, .ref a_54), (7, 6, q0_, .int x_38), (1, 15, a0_, .int x_15), (1, 11, a0_, .int w6_1_11_a0_), (1, 0, a0_, .ref q0_), (1, 1, a0_, .ref q1_), (1, 12, a0_, .int y0_), (1, 6, a0_, .int y1_), (1, 5, a0_, .int y2_), (7, 1, q0_, .int y3_)]) rfl (fun r_115 fr_115 H locs hp hMr_115 g => ?_)
                            obtain ⟨x_116, h_117, hF_118⟩ := hp
                            have hG_119 := cOK.frame hMr_115 go_.2.2.2.1 mq0_ kq0_ (by decide) (by decide) hG_62
                            have g := g.more hF_118
                            have go_ := g
                            refine g_callv (va_runV (As := [.int r_115]) (rest := []) ⟨hx, hb, hml, hown, hts⟩ (r_X1_leave_55 l dC dI L kd tys fr_115 H.size g.2.2.2.1 a0_ ma0_ ka0_ r_115 x_116 h_117 y_59 b_60 x_15 b_20 w6_1_11_a0_ bw6_1_11_a0_ y0_ by0_ y1_ by1_ y2_ by2_ (g.fcts [0, 1, 5, 6, 9, 10, 11] rfl)) (cwV 1 hts (gV_ t_1589 t_1591 t_65 t_195 t_1592) rfl rfl rfl (by decide +kernel) ⟨(Nat.le_of_ble_eq_true rfl), (Nat.le_of_ble_eq_true rfl)⟩) (pre3V g hK ma0_ ka0_ (by decide) (q := (RX1, TX1, 18)) rfl) rfl rfl hl.1 rfl (lv_room (Nat.le_of_ble_eq_true rfl)) dX1_go_238 ⟨(Nat.le_of_ble_eq_true rfl), (Nat.le_of_ble_eq_true rfl)⟩) g hK (by decide) (by decide) (fx' := [(7, 5, q0_, .ref a_56), (7, 4, q0_, .ref a_54), (7, 6, q0_, .int x_38), (1, 0, a0_, .ref q0_), (1, 1, a0_, .ref q1_), (1, 12, a0_, .int y0_), (1, 6, a0_, .int y1_), (1, 5, a0_, .int y2_), (7, 1, q0_, .int y3_)]) rfl (fun fr_120 H locs hp hMr_120 g => ?_)
                            obtain ⟨x_121, h_122, x_123, h_124, hF_125⟩ := hp
                            have hG_126 := cOK.frame hMr_120 go_.2.2.2.1 mq0_ kq0_ (by decide) (by decide) hG_119
                            have g := g.more hF_125
                            refine lv_goto (tgt := 308) hx hb dX1_go_241 (by decide) ?_
                            obtain ⟨y_127, ey_127⟩ : ∃ z : Int32, z = v6_1 + 1 := ⟨_, rfl⟩
                            refine lv_iinc (v := y_127) (lv' := [(1, .int y_127), (4, .int x_57), (3, .int x_55), (2, .int 1), (0, .ref a0_)]) hx hb dX1_go_308 hl (k := 3) rfl (by rw [ey_127]; rfl) (by decide) rfl (fun ls hl => ?_)
                            have ty_127 := add_bd ey_127 b_14 kb_1 (by decide)
                            have b_128 : bd 1 1000000 y_127 := add_rg ty_127 b_14 kb_1 (by decide)
                            refine lv_goto (tgt := 6) hx hb dX1_go_311 (by decide) ?_
                            have hl9 := lv_sub hl [0, 4] (by rfl : lv_pick [(1, .int y_127), (4, .int x_57), (3, .int x_55), (2, .int 1), (0, .ref a0_)] [0, 4] = [(1, .int y_127), (0, .ref a0_)])
                            have g9 := g.sub (fx' := [(1, 11, a0_, .int x_121), (1, 0, a0_, .ref q0_), (1, 1, a0_, .ref q1_), (1, 12, a0_, .int y0_), (1, 6, a0_, .int y1_), (1, 5, a0_, .int y2_), (7, 1, q0_, .int y3_)]) [0, 5, 6, 7, 8, 9, 10] rfl
                            exact ih6  y_127 x_121 (bd_sub b_128 (by decide)) (bd_sub h_122 (by decide)) (by have h9_0 := b_128; unfold bd at h9_0; have h9_1 := bv6_1; unfold bd at h9_1; have h9_2 := bw6_1_11_a0_; unfold bd at h9_2; have h9_3 := h_122; unfold bd at h9_3; have h9_4 := h_124; unfold bd at h9_4; have h9_5 := kb_0; unfold bd at h9_5; have h9_6 := kb_1; unfold bd at h9_6; have h9_7 := kb_1000000; unfold bd at h9_7; have h9_8 := kb_11; unfold bd at h9_8; have h9_9 := kb_16; unfold bd at h9_9; have h9_10 := kb_17; unfold bd at h9_10; have h9_11 := kb_18; unfold bd at h9_11; have h9_12 := kb_19; unfold bd at h9_12; have h9_13 := kb_26; unfold bd at h9_13; have h9_14 := kb_5; unfold bd at h9_14; omega) _ _ _ _ g9 hG_126 hl9
                        · have fc_73 := eq_f c_73
                          have b_129 : bd 19 19 x_55 := eqX fc_73 b_72 kb_19 (by decide)
                          refine lv_aload_n hx hb dX1_go_219 rfl (lv_at hl 4 rfl) ?_
                          refine lv_iconst (v := 0) hx hb dX1_go_220 (by decide) ?_
                          have go_ := g
                          refine g_callv (va_runV (As := [.int 0]) (rest := []) ⟨hx, hb, hml, hown, hts⟩ (r_X1_leave_56 l dC dI L kd tys f H.size g.2.2.2.1 a0_ ma0_ ka0_ 0 kb_0 y_59 b_60 x_15 b_20 w6_1_11_a0_ bw6_1_11_a0_ y0_ by0_ y1_ by1_ y2_ by2_ (g.fcts [0, 4, 5, 8, 9, 10] rfl)) (cwV 1 hts (gV_ t_1589 t_1591 t_65 t_195 t_1592) rfl rfl rfl (by decide +kernel) ⟨(Nat.le_of_ble_eq_true rfl), (Nat.le_of_ble_eq_true rfl)⟩) (pre3V g hK ma0_ ka0_ (by decide) (q := (RX1, TX1, 18)) rfl) rfl rfl hl.1 rfl (lv_room (Nat.le_of_ble_eq_true rfl)) dX1_go_221 ⟨(Nat.le_of_ble_eq_true rfl), (Nat.le_of_ble_eq_true rfl)⟩) g hK (by decide) (by decide) (fx' := [(7, 5, q0_, .ref a_56), (7, 4, q0_, .ref a_54), (7, 6, q0_, .int x_38), (1, 0, a0_, .ref q0_), (1, 1, a0_, .ref q1_), (1, 12, a0_, .int y0_), (1, 6, a0_, .int y1_), (1, 5, a0_, .int y2_), (7, 1, q0_, .int y3_)]) rfl (fun fr_130 H locs hp hMr_130 g => ?_)
                          obtain ⟨x_131, h_132, x_133, h_134, hF_135⟩ := hp
                          have hG_136 := cOK.frame hMr_130 go_.2.2.2.1 mq0_ kq0_ (by decide) (by decide) hG_62
                          have g := g.more hF_135
                          refine lv_goto (tgt := 308) hx hb dX1_go_224 (by decide) ?_
                          obtain ⟨y_137, ey_137⟩ : ∃ z : Int32, z = v6_1 + 1 := ⟨_, rfl⟩
                          refine lv_iinc (v := y_137) (lv' := [(1, .int y_137), (4, .int x_57), (3, .int x_55), (2, .int 1), (0, .ref a0_)]) hx hb dX1_go_308 hl (k := 3) rfl (by rw [ey_137]; rfl) (by decide) rfl (fun ls hl => ?_)
                          have ty_137 := add_bd ey_137 b_14 kb_1 (by decide)
                          have b_138 : bd 1 1000000 y_137 := add_rg ty_137 b_14 kb_1 (by decide)
                          refine lv_goto (tgt := 6) hx hb dX1_go_311 (by decide) ?_
                          have hl9 := lv_sub hl [0, 4] (by rfl : lv_pick [(1, .int y_137), (4, .int x_57), (3, .int x_55), (2, .int 1), (0, .ref a0_)] [0, 4] = [(1, .int y_137), (0, .ref a0_)])
                          have g9 := g.sub (fx' := [(1, 11, a0_, .int x_131), (1, 0, a0_, .ref q0_), (1, 1, a0_, .ref q1_), (1, 12, a0_, .int y0_), (1, 6, a0_, .int y1_), (1, 5, a0_, .int y2_), (7, 1, q0_, .int y3_)]) [0, 5, 6, 7, 8, 9, 10] rfl
                          exact ih6  y_137 x_131 (bd_sub b_138 (by decide)) (bd_sub h_132 (by decide)) (by have h9_0 := b_138; unfold bd at h9_0; have h9_1 := bv6_1; unfold bd at h9_1; have h9_2 := bw6_1_11_a0_; unfold bd at h9_2; have h9_3 := h_132; unfold bd at h9_3; have h9_4 := h_134; unfold bd at h9_4; have h9_5 := kb_0; unfold bd at h9_5; have h9_6 := kb_1; unfold bd at h9_6; have h9_7 := kb_1000000; unfold bd at h9_7; have h9_8 := kb_11; unfold bd at h9_8; have h9_9 := kb_16; unfold bd at h9_9; have h9_10 := kb_17; unfold bd at h9_10; have h9_11 := kb_18; unfold bd at h9_11; have h9_12 := kb_19; unfold bd at h9_12; have h9_13 := kb_5; unfold bd at h9_13; omega) _ _ _ _ g9 hG_136 hl9
                      · have fc_71 := eq_f c_71
                        have b_139 : bd 18 18 x_55 := eqX fc_71 b_70 kb_18 (by decide)
                        refine lv_aload_n hx hb dX1_go_204 rfl (lv_at hl 4 rfl) ?_
                        refine lv_iload hx hb dX1_go_205 (lv_at hl 0 rfl) ?_
                        have go_ := g
                        refine g_callv (va_runV (As := [.int x_57]) (rest := []) ⟨hx, hb, hml, hown, hts⟩ (r_X1_enter_14 l dC dI L kd tys f H.size g.2.2.2.1 a0_ ma0_ ka0_ x_57 q0_ mq0_ kq0_ w6_1_11_a0_ bw6_1_11_a0_ (g.fcts [6, 5] rfl)) (cwV 1 hts (gV_ t_1585 t_1587 t_64 t_195 t_1588) rfl rfl rfl (by decide +kernel) ⟨(Nat.le_of_ble_eq_true rfl), (Nat.le_of_ble_eq_true rfl)⟩) (pre3V g hK ma0_ ka0_ (by decide) (q := (RX1, TX1, 18)) rfl) rfl rfl hl.1 rfl (lv_room (Nat.le_of_ble_eq_true rfl)) dX1_go_207 ⟨(Nat.le_of_ble_eq_true rfl), (Nat.le_of_ble_eq_true rfl)⟩) g hK (by decide) (by decide) (fx' := [(7, 5, q0_, .ref a_56), (7, 4, q0_, .ref a_54), (7, 6, q0_, .int x_38), (1, 0, a0_, .ref q0_), (1, 1, a0_, .ref q1_), (1, 12, a0_, .int y0_), (1, 6, a0_, .int y1_), (1, 5, a0_, .int y2_), (7, 1, q0_, .int y3_)]) rfl (fun fr_140 H locs hp hMr_140 g => ?_)
                        obtain ⟨x_141, h_142, hF_143⟩ := hp
                        have hG_144 := cOK.frame hMr_140 go_.2.2.2.1 mq0_ kq0_ (by decide) (by decide) hG_62
                        have g := g.more hF_143
                        refine lv_goto (tgt := 308) hx hb dX1_go_210 (by decide) ?_
                        obtain ⟨y_145, ey_145⟩ : ∃ z : Int32, z = v6_1 + 1 := ⟨_, rfl⟩
                        refine lv_iinc (v := y_145) (lv' := [(1, .int y_145), (4, .int x_57), (3, .int x_55), (2, .int 1), (0, .ref a0_)]) hx hb dX1_go_308 hl (k := 3) rfl (by rw [ey_145]; rfl) (by decide) rfl (fun ls hl => ?_)
                        have ty_145 := add_bd ey_145 b_14 kb_1 (by decide)
                        have b_146 : bd 1 1000000 y_145 := add_rg ty_145 b_14 kb_1 (by decide)
                        refine lv_goto (tgt := 6) hx hb dX1_go_311 (by decide) ?_
                        have hl9 := lv_sub hl [0, 4] (by rfl : lv_pick [(1, .int y_145), (4, .int x_57), (3, .int x_55), (2, .int 1), (0, .ref a0_)] [0, 4] = [(1, .int y_145), (0, .ref a0_)])
                        have g9 := g.sub (fx' := [(1, 11, a0_, .int x_141), (1, 0, a0_, .ref q0_), (1, 1, a0_, .ref q1_), (1, 12, a0_, .int y0_), (1, 6, a0_, .int y1_), (1, 5, a0_, .int y2_), (7, 1, q0_, .int y3_)]) [0, 4, 5, 6, 7, 8, 9] rfl
                        exact ih6  y_145 x_141 (bd_sub b_146 (by decide)) h_142 (by have h9_0 := b_146; unfold bd at h9_0; have h9_1 := bv6_1; unfold bd at h9_1; have h9_2 := bw6_1_11_a0_; unfold bd at h9_2; have h9_3 := h_142; unfold bd at h9_3; have h9_4 := kb_0; unfold bd at h9_4; have h9_5 := kb_1; unfold bd at h9_5; have h9_6 := kb_1000000; unfold bd at h9_6; have h9_7 := kb_11; unfold bd at h9_7; have h9_8 := kb_16; unfold bd at h9_8; have h9_9 := kb_17; unfold bd at h9_9; have h9_10 := kb_18; unfold bd at h9_10; have h9_11 := kb_5; unfold bd at h9_11; omega) _ _ _ _ g9 hG_144 hl9
                    · have fc_69 := eq_f c_69
                      have b_147 : bd 17 17 x_55 := eqX fc_69 b_68 kb_17 (by decide)
                      have b_148 : bd 0 2147483647 x_57 := eqX rfl (bdT x_57) (cr0 hc_58 b_147 (by decide)) (by decide)
                      refine lv_aload_n hx hb dX1_go_165 rfl (lv_at hl 4 rfl) ?_
                      refine lv_iload hx hb dX1_go_166 (lv_at hl 0 rfl) ?_
                      refine lv_aload_n hx hb dX1_go_168 rfl (lv_at hl 4 rfl) ?_
                      refine g_getk (C := RX1) (T := TX1) (N := 18) hx hb hts (mc_ inX1) hown hK g rfl 1 (by decide) rfl (hts _ (List.mem_cons_of_mem _ t_736)) (fun _ h9 => h9) 7 rfl dX1_go_169 ?_
                      refine g_geti (C := RX9) (T := TX9) (N := 13) hx hb hts (mc_ inX9) hown hK g mq1_ kq1_ (by decide) rfl 8 (by decide) rfl (hts _ (List.mem_cons_of_mem _ t_499)) (fun _ h9 => h9) rfl dX1_go_172 (fun x_149 bx_149 g => ?_)
                      refine lv_icmp_ge (tgt := 191) hx hb dX1_go_175 (by decide) (fun c_150 => ?_) (fun c_150 => ?_)
                      · have fc_150 := le_f c_150
                        refine lv_iconst (v := (-1)) hx hb dX1_go_191 (by decide) ?_
                        have go_ := g
                        refine g_callv (va_runV (As := [.int (-1)]) (rest := []) ⟨hx, hb, hml, hown, hts⟩ (r_X1_enter_14 l dC dI L kd tys f H.size g.2.2.2.1 a0_ ma0_ ka0_ (-1) q0_ mq0_ kq0_ w6_1_11_a0_ bw6_1_11_a0_ (g.fcts [7, 6] rfl)) (cwV 1 hts (gV_ t_1585 t_1587 t_64 t_195 t_1588) rfl rfl rfl (by decide +kernel) ⟨(Nat.le_of_ble_eq_true rfl), (Nat.le_of_ble_eq_true rfl)⟩) (pre3V g hK ma0_ ka0_ (by decide) (q := (RX1, TX1, 18)) rfl) rfl rfl hl.1 rfl (lv_room (Nat.le_of_ble_eq_true rfl)) dX1_go_192 ⟨(Nat.le_of_ble_eq_true rfl), (Nat.le_of_ble_eq_true rfl)⟩) g hK (by decide) (by decide) (fx' := [(9, 8, q1_, .int x_149), (7, 5, q0_, .ref a_56), (7, 4, q0_, .ref a_54), (7, 6, q0_, .int x_38), (1, 0, a0_, .ref q0_), (1, 1, a0_, .ref q1_), (1, 12, a0_, .int y0_), (1, 6, a0_, .int y1_), (1, 5, a0_, .int y2_), (7, 1, q0_, .int y3_)]) rfl (fun fr_151 H locs hp hMr_151 g => ?_)
                        obtain ⟨x_152, h_153, hF_154⟩ := hp
                        have hG_155 := cOK.frame hMr_151 go_.2.2.2.1 mq0_ kq0_ (by decide) (by decide) hG_62
                        have g := g.more hF_154
                        refine lv_goto (tgt := 308) hx hb dX1_go_195 (by decide) ?_
                        obtain ⟨y_156, ey_156⟩ : ∃ z : Int32, z = v6_1 + 1 := ⟨_, rfl⟩
                        refine lv_iinc (v := y_156) (lv' := [(1, .int y_156), (4, .int x_57), (3, .int x_55), (2, .int 1), (0, .ref a0_)]) hx hb dX1_go_308 hl (k := 3) rfl (by rw [ey_156]; rfl) (by decide) rfl (fun ls hl => ?_)
                        have ty_156 := add_bd ey_156 b_14 kb_1 (by decide)
                        have b_157 : bd 1 1000000 y_156 := add_rg ty_156 b_14 kb_1 (by decide)
                        refine lv_goto (tgt := 6) hx hb dX1_go_311 (by decide) ?_
                        have hl9 := lv_sub hl [0, 4] (by rfl : lv_pick [(1, .int y_156), (4, .int x_57), (3, .int x_55), (2, .int 1), (0, .ref a0_)] [0, 4] = [(1, .int y_156), (0, .ref a0_)])
                        have g9 := g.sub (fx' := [(1, 11, a0_, .int x_152), (1, 0, a0_, .ref q0_), (1, 1, a0_, .ref q1_), (1, 12, a0_, .int y0_), (1, 6, a0_, .int y1_), (1, 5, a0_, .int y2_), (7, 1, q0_, .int y3_)]) [0, 5, 6, 7, 8, 9, 10] rfl
                        exact ih6  y_156 x_152 (bd_sub b_157 (by decide)) h_153 (by have h9_0 := b_157; unfold bd at h9_0; have h9_1 := bv6_1; unfold bd at h9_1; have h9_2 := bw6_1_11_a0_; unfold bd at h9_2; have h9_3 := h_153; unfold bd at h9_3; have h9_4 := kb_0; unfold bd at h9_4; have h9_5 := kb_1; unfold bd at h9_5; have h9_6 := kb_1000000; unfold bd at h9_6; have h9_7 := kb_11; unfold bd at h9_7; have h9_8 := kb_16; unfold bd at h9_8; have h9_9 := kb_17; unfold bd at h9_9; have h9_10 := kb_5; unfold bd at h9_10; omega) _ _ _ _ g9 hG_155 hl9
                      · have fc_150 := nle_f c_150
                        have b_158 : bd 0 11 x_57 := ltL fc_150 b_148 bx_149 (by decide)
                        have b_159 : bd 1 12 x_149 := ltR fc_150 b_148 bx_149 (by decide)
                        refine lv_aload_n hx hb dX1_go_178 rfl (lv_at hl 4 rfl) ?_
                        refine g_getk (C := RX1) (T := TX1) (N := 18) hx hb hts (mc_ inX1) hown hK g rfl 1 (by decide) rfl (hts _ (List.mem_cons_of_mem _ t_736)) (fun _ h9 => h9) 8 rfl dX1_go_179 ?_
                        refine g_getr (K := 156) (C := RX9) (T := TX9) (N := 13) hx hb hts (mc_ inX9) hown hK g mq1_ kq1_ (by decide) rfl 9 (by decide) rfl (hts _ (List.mem_cons_of_mem _ t_504)) (fun _ h9 => h9) rfl dX1_go_182 (fun a_160 ma_160 ka_160 g => ?_)
                        refine lv_iload hx hb dX1_go_185 (lv_at hl 0 rfl) ?_
                        refine g_iald hx hb hK g ma_160 ka_160 (by decide) rfl (in_bd b_158 (by decide)) dX1_go_187 (fun x_161 bx_161 cx_161 => ?_)
                        refine lv_goto (tgt := 192) hx hb dX1_go_188 (by decide) ?_
                        have go_ := g
                        refine g_callv (va_runV (As := [.int x_161]) (rest := []) ⟨hx, hb, hml, hown, hts⟩ (r_X1_enter_14 l dC dI L kd tys f H.size g.2.2.2.1 a0_ ma0_ ka0_ x_161 q0_ mq0_ kq0_ w6_1_11_a0_ bw6_1_11_a0_ (g.fcts [8, 7] rfl)) (cwV 1 hts (gV_ t_1585 t_1587 t_64 t_195 t_1588) rfl rfl rfl (by decide +kernel) ⟨(Nat.le_of_ble_eq_true rfl), (Nat.le_of_ble_eq_true rfl)⟩) (pre3V g hK ma0_ ka0_ (by decide) (q := (RX1, TX1, 18)) rfl) rfl rfl hl.1 rfl (lv_room (Nat.le_of_ble_eq_true rfl)) dX1_go_192 ⟨(Nat.le_of_ble_eq_true rfl), (Nat.le_of_ble_eq_true rfl)⟩) g hK (by decide) (by decide) (fx' := [(9, 9, q1_, .ref a_160), (9, 8, q1_, .int x_149), (7, 5, q0_, .ref a_56), (7, 4, q0_, .ref a_54), (7, 6, q0_, .int x_38), (1, 0, a0_, .ref q0_), (1, 1, a0_, .ref q1_), (1, 12, a0_, .int y0_), (1, 6, a0_, .int y1_), (1, 5, a0_, .int y2_), (7, 1, q0_, .int y3_)]) rfl (fun fr_162 H locs hp hMr_162 g => ?_)
                        obtain ⟨x_163, h_164, hF_165⟩ := hp
                        have hG_166 := cOK.frame hMr_162 go_.2.2.2.1 mq0_ kq0_ (by decide) (by decide) hG_62
                        have g := g.more hF_165
                        refine lv_goto (tgt := 308) hx hb dX1_go_195 (by decide) ?_
                        obtain ⟨y_167, ey_167⟩ : ∃ z : Int32, z = v6_1 + 1 := ⟨_, rfl⟩
                        refine lv_iinc (v := y_167) (lv' := [(1, .int y_167), (4, .int x_57), (3, .int x_55), (2, .int 1), (0, .ref a0_)]) hx hb dX1_go_308 hl (k := 3) rfl (by rw [ey_167]; rfl) (by decide) rfl (fun ls hl => ?_)
                        have ty_167 := add_bd ey_167 b_14 kb_1 (by decide)
                        have b_168 : bd 1 1000000 y_167 := add_rg ty_167 b_14 kb_1 (by decide)
                        refine lv_goto (tgt := 6) hx hb dX1_go_311 (by decide) ?_
                        have hl9 := lv_sub hl [0, 4] (by rfl : lv_pick [(1, .int y_167), (4, .int x_57), (3, .int x_55), (2, .int 1), (0, .ref a0_)] [0, 4] = [(1, .int y_167), (0, .ref a0_)])
                        have g9 := g.sub (fx' := [(1, 11, a0_, .int x_163), (1, 0, a0_, .ref q0_), (1, 1, a0_, .ref q1_), (1, 12, a0_, .int y0_), (1, 6, a0_, .int y1_), (1, 5, a0_, .int y2_), (7, 1, q0_, .int y3_)]) [0, 6, 7, 8, 9, 10, 11] rfl
                        exact ih6  y_167 x_163 (bd_sub b_168 (by decide)) h_164 (by have h9_0 := b_168; unfold bd at h9_0; have h9_1 := bv6_1; unfold bd at h9_1; have h9_2 := bw6_1_11_a0_; unfold bd at h9_2; have h9_3 := h_164; unfold bd at h9_3; have h9_4 := kb_0; unfold bd at h9_4; have h9_5 := kb_1; unfold bd at h9_5; have h9_6 := kb_1000000; unfold bd at h9_6; have h9_7 := kb_11; unfold bd at h9_7; have h9_8 := kb_16; unfold bd at h9_8; have h9_9 := kb_17; unfold bd at h9_9; have h9_10 := kb_5; unfold bd at h9_10; omega) _ _ _ _ g9 hG_166 hl9
                  · have fc_67 := nlt_f c_67
                    have b_169 : bd 12 16 x_55 := leL fc_67 b_66 kb_16 (by decide)
                    refine lv_aload_n hx hb dX1_go_149 rfl (lv_at hl 4 rfl) ?_
                    refine lv_iload_n hx hb dX1_go_150 rfl (lv_at hl 1 rfl) ?_
                    refine lv_iload hx hb dX1_go_151 (lv_at hl 0 rfl) ?_
                    have go_ := g
                    refine g_callv (va_runV (As := [.int x_55, .int x_57]) (rest := []) ⟨hx, hb, hml, hown, hts⟩ (r_X1_act l dC dI L kd tys f H.size g.2.2.2.1 a0_ ma0_ ka0_ x_55 x_57 q0_ mq0_ kq0_ hc_58 (g.fcts [6] rfl)) (cwV 2 hts (gV_ t_1581 t_1583 t_63 t_195 t_1584) rfl rfl rfl (by decide +kernel) ⟨(Nat.le_of_ble_eq_true rfl), (Nat.le_of_ble_eq_true rfl)⟩) (pre3V g hK ma0_ ka0_ (by decide) (q := (RX1, TX1, 18)) rfl) rfl rfl hl.1 rfl (lv_room (Nat.le_of_ble_eq_true rfl)) dX1_go_153 ⟨(Nat.le_of_ble_eq_true rfl), (Nat.le_of_ble_eq_true rfl)⟩) g hK (by decide) (by decide) (fx' := [(7, 5, q0_, .ref a_56), (7, 4, q0_, .ref a_54), (7, 6, q0_, .int x_38), (1, 11, a0_, .int w6_1_11_a0_), (1, 0, a0_, .ref q0_), (1, 1, a0_, .ref q1_), (1, 12, a0_, .int y0_), (1, 6, a0_, .int y1_), (1, 5, a0_, .int y2_), (7, 1, q0_, .int y3_)]) rfl (fun fr_170 H locs hp hMr_170 g => ?_)
                    have hG_171 := cOK.frame hMr_170 go_.2.2.2.1 mq0_ kq0_ (by decide) (by decide) hG_62
                    refine lv_goto (tgt := 308) hx hb dX1_go_156 (by decide) ?_
                    obtain ⟨y_172, ey_172⟩ : ∃ z : Int32, z = v6_1 + 1 := ⟨_, rfl⟩
                    refine lv_iinc (v := y_172) (lv' := [(1, .int y_172), (4, .int x_57), (3, .int x_55), (2, .int 1), (0, .ref a0_)]) hx hb dX1_go_308 hl (k := 3) rfl (by rw [ey_172]; rfl) (by decide) rfl (fun ls hl => ?_)
                    have ty_172 := add_bd ey_172 b_14 kb_1 (by decide)
                    have b_173 : bd 1 1000000 y_172 := add_rg ty_172 b_14 kb_1 (by decide)
                    refine lv_goto (tgt := 6) hx hb dX1_go_311 (by decide) ?_
                    have hl9 := lv_sub hl [0, 4] (by rfl : lv_pick [(1, .int y_172), (4, .int x_57), (3, .int x_55), (2, .int 1), (0, .ref a0_)] [0, 4] = [(1, .int y_172), (0, .ref a0_)])
                    have g9 := g.sub (fx' := [(1, 11, a0_, .int w6_1_11_a0_), (1, 0, a0_, .ref q0_), (1, 1, a0_, .ref q1_), (1, 12, a0_, .int y0_), (1, 6, a0_, .int y1_), (1, 5, a0_, .int y2_), (7, 1, q0_, .int y3_)]) [3, 4, 5, 6, 7, 8, 9] rfl
                    exact ih6  y_172 w6_1_11_a0_ (bd_sub b_173 (by decide)) bw6_1_11_a0_ (by have h9_0 := b_173; unfold bd at h9_0; have h9_1 := bv6_1; unfold bd at h9_1; have h9_2 := bw6_1_11_a0_; unfold bd at h9_2; have h9_3 := kb_0; unfold bd at h9_3; have h9_4 := kb_1; unfold bd at h9_4; have h9_5 := kb_1000000; unfold bd at h9_5; have h9_6 := kb_11; unfold bd at h9_6; have h9_7 := kb_16; unfold bd at h9_7; have h9_8 := kb_5; unfold bd at h9_8; omega) _ _ _ _ g9 hG_171 hl9
                · have fc_65 := nlt_f c_65
                  have b_174 : bd 6 11 x_55 := leL fc_65 b_64 kb_11 (by decide)
                  refine lv_aload_n hx hb dX1_go_125 rfl (lv_at hl 4 rfl) ?_
                  refine lv_aload_n hx hb dX1_go_126 rfl (lv_at hl 4 rfl) ?_
                  refine lv_iload_n hx hb dX1_go_127 rfl (lv_at hl 1 rfl) ?_
                  refine lv_iload hx hb dX1_go_128 (lv_at hl 0 rfl) ?_
                  refine lv_aload_n hx hb dX1_go_130 rfl (lv_at hl 4 rfl) ?_
                  have go_ := g
                  refine g_calli (va_runV (As := []) (rest := [.int x_57, .int x_55, .ref a0_, .ref a0_]) ⟨hx, hb, hml, hown, hts⟩ (r_X1_pop l dC dI L kd tys f H.size g.2.2.2.1 a0_ ma0_ ka0_) (cwV 0 hts (gV_ t_1572 t_1574 t_61 t_195 t_1575) rfl rfl rfl (by decide +kernel) ⟨(Nat.le_of_ble_eq_true rfl), (Nat.le_of_ble_eq_true rfl)⟩) (pre3V g hK ma0_ ka0_ (by decide) (q := (RX1, TX1, 18)) rfl) rfl rfl hl.1 rfl (lv_room (Nat.le_of_ble_eq_true rfl)) dX1_go_131 ⟨(Nat.le_of_ble_eq_true rfl), (Nat.le_of_ble_eq_true rfl)⟩) g hK (by decide) (by decide) (fx' := [(1, 13, a0_, .int y_59), (7, 5, q0_, .ref a_56), (7, 4, q0_, .ref a_54), (7, 6, q0_, .int x_38), (1, 15, a0_, .int x_15), (1, 11, a0_, .int w6_1_11_a0_), (1, 0, a0_, .ref q0_), (1, 1, a0_, .ref q1_), (1, 12, a0_, .int y0_), (1, 6, a0_, .int y1_), (1, 5, a0_, .int y2_), (7, 1, q0_, .int y3_)]) rfl (fun r_175 fr_175 H locs hp hMr_175 g => ?_)
                  obtain ⟨x_176, h_177, hF_178⟩ := hp
                  have hG_179 := cOK.frame hMr_175 go_.2.2.2.1 mq0_ kq0_ (by decide) (by decide) hG_62
                  have g := g.more hF_178
                  have go_ := g
                  refine g_calli (va_runV (As := [.int x_55, .int x_57, .int r_175]) (rest := [.ref a0_]) ⟨hx, hb, hml, hown, hts⟩ (r_X1_turn_22 l dC dI L kd tys fr_175 H.size g.2.2.2.1 a0_ ma0_ ka0_ x_55 b_174 x_57 r_175 x_176 h_177 y_59 b_60 x_15 b_20 w6_1_11_a0_ bw6_1_11_a0_ y0_ by0_ y1_ by1_ y2_ by2_ hc_58 (g.fcts [0, 1, 5, 6, 9, 10, 11] rfl)) (cwV 3 hts (gV_ t_1576 t_1578 t_62 t_195 t_1579) rfl rfl rfl (by decide +kernel) ⟨(Nat.le_of_ble_eq_true rfl), (Nat.le_of_ble_eq_true rfl)⟩) (pre3V g hK ma0_ ka0_ (by decide) (q := (RX1, TX1, 18)) rfl) rfl rfl hl.1 rfl (lv_room (Nat.le_of_ble_eq_true rfl)) dX1_go_134 ⟨(Nat.le_of_ble_eq_true rfl), (Nat.le_of_ble_eq_true rfl)⟩) g hK (by decide) (by decide) (fx' := [(1, 8, a0_, .int x_176), (1, 13, a0_, .int y_59), (7, 5, q0_, .ref a_56), (7, 4, q0_, .ref a_54), (7, 6, q0_, .int x_38), (1, 11, a0_, .int w6_1_11_a0_), (1, 0, a0_, .ref q0_), (1, 1, a0_, .ref q1_), (1, 12, a0_, .int y0_), (1, 6, a0_, .int y1_), (1, 5, a0_, .int y2_), (7, 1, q0_, .int y3_)]) rfl (fun r_180 fr_180 H locs hp hMr_180 g => ?_)
                  obtain ⟨x_181, h_182, hF_183⟩ := hp
                  have hG_184 := cOK.frame hMr_180 go_.2.2.2.1 mq0_ kq0_ (by decide) (by decide) hG_179
                  have g := g.more hF_183
                  have go_ := g
                  refine g_callv (va_runV (As := [.int r_180]) (rest := []) ⟨hx, hb, hml, hown, hts⟩ (r_X1_push l dC dI L kd tys fr_180 H.size g.2.2.2.1 a0_ ma0_ ka0_ r_180) (cwV 1 hts (gV_ t_1568 t_1570 t_60 t_195 t_1571) rfl rfl rfl (by decide +kernel) ⟨(Nat.le_of_ble_eq_true rfl), (Nat.le_of_ble_eq_true rfl)⟩) (pre3V g hK ma0_ ka0_ (by decide) (q := (RX1, TX1, 18)) rfl) rfl rfl hl.1 rfl (lv_room (Nat.le_of_ble_eq_true rfl)) dX1_go_137 ⟨(Nat.le_of_ble_eq_true rfl), (Nat.le_of_ble_eq_true rfl)⟩) g hK (by decide) (by decide) (fx' := [(1, 15, a0_, .int x_181), (1, 13, a0_, .int y_59), (7, 5, q0_, .ref a_56), (7, 4, q0_, .ref a_54), (7, 6, q0_, .int x_38), (1, 11, a0_, .int w6_1_11_a0_), (1, 0, a0_, .ref q0_), (1, 1, a0_, .ref q1_), (1, 12, a0_, .int y0_), (1, 6, a0_, .int y1_), (1, 5, a0_, .int y2_), (7, 1, q0_, .int y3_)]) rfl (fun fr_185 H locs hp hMr_185 g => ?_)
                  obtain ⟨x_186, h_187, hF_188⟩ := hp
                  have hG_189 := cOK.frame hMr_185 go_.2.2.2.1 mq0_ kq0_ (by decide) (by decide) hG_184
                  have g := g.more hF_188
                  refine lv_goto (tgt := 308) hx hb dX1_go_140 (by decide) ?_
                  obtain ⟨y_190, ey_190⟩ : ∃ z : Int32, z = v6_1 + 1 := ⟨_, rfl⟩
                  refine lv_iinc (v := y_190) (lv' := [(1, .int y_190), (4, .int x_57), (3, .int x_55), (2, .int 1), (0, .ref a0_)]) hx hb dX1_go_308 hl (k := 3) rfl (by rw [ey_190]; rfl) (by decide) rfl (fun ls hl => ?_)
                  have ty_190 := add_bd ey_190 b_14 kb_1 (by decide)
                  have b_191 : bd 1 1000000 y_190 := add_rg ty_190 b_14 kb_1 (by decide)
                  refine lv_goto (tgt := 6) hx hb dX1_go_311 (by decide) ?_
                  have hl9 := lv_sub hl [0, 4] (by rfl : lv_pick [(1, .int y_190), (4, .int x_57), (3, .int x_55), (2, .int 1), (0, .ref a0_)] [0, 4] = [(1, .int y_190), (0, .ref a0_)])
                  have g9 := g.sub (fx' := [(1, 11, a0_, .int w6_1_11_a0_), (1, 0, a0_, .ref q0_), (1, 1, a0_, .ref q1_), (1, 12, a0_, .int y0_), (1, 6, a0_, .int y1_), (1, 5, a0_, .int y2_), (7, 1, q0_, .int y3_)]) [6, 7, 8, 9, 10, 11, 12] rfl
                  exact ih6  y_190 w6_1_11_a0_ (bd_sub b_191 (by decide)) bw6_1_11_a0_ (by have h9_0 := b_191; unfold bd at h9_0; have h9_1 := bv6_1; unfold bd at h9_1; have h9_2 := bw6_1_11_a0_; unfold bd at h9_2; have h9_3 := h_182; unfold bd at h9_3; have h9_4 := h_187; unfold bd at h9_4; have h9_5 := kb_0; unfold bd at h9_5; have h9_6 := kb_1; unfold bd at h9_6; have h9_7 := kb_1000000; unfold bd at h9_7; have h9_8 := kb_11; unfold bd at h9_8; have h9_9 := kb_5; unfold bd at h9_9; omega) _ _ _ _ g9 hG_189 hl9
              · have fc_63 := nlt_f c_63
                have b_192 : bd (-2147483648) 5 x_55 := leL fc_63 (bdT x_55) kb_5 (by decide)
                refine lv_aload_n hx hb dX1_go_105 rfl (lv_at hl 4 rfl) ?_
                refine lv_aload_n hx hb dX1_go_106 rfl (lv_at hl 4 rfl) ?_
                refine lv_iload_n hx hb dX1_go_107 rfl (lv_at hl 1 rfl) ?_
                refine lv_iload hx hb dX1_go_108 (lv_at hl 0 rfl) ?_
                have go_ := g
                refine g_calli (va_runV (As := [.int x_55, .int x_57]) (rest := [.ref a0_]) ⟨hx, hb, hml, hown, hts⟩ (r_X1_fetch l dC dI L kd tys f H.size g.2.2.2.1 a0_ ma0_ ka0_ x_55 x_57 hc_58) (cwV 2 hts (gV_ t_1564 t_1566 t_59 t_195 t_1567) rfl rfl rfl (by decide +kernel) ⟨(Nat.le_of_ble_eq_true rfl), (Nat.le_of_ble_eq_true rfl)⟩) (pre3V g hK ma0_ ka0_ (by decide) (q := (RX1, TX1, 18)) rfl) rfl rfl hl.1 rfl (lv_room (Nat.le_of_ble_eq_true rfl)) dX1_go_110 ⟨(Nat.le_of_ble_eq_true rfl), (Nat.le_of_ble_eq_true rfl)⟩) g hK (by decide) (by decide) (fx' := [(1, 13, a0_, .int y_59), (7, 5, q0_, .ref a_56), (7, 4, q0_, .ref a_54), (7, 6, q0_, .int x_38), (1, 15, a0_, .int x_15), (1, 11, a0_, .int w6_1_11_a0_), (1, 0, a0_, .ref q0_), (1, 1, a0_, .ref q1_), (1, 12, a0_, .int y0_), (1, 6, a0_, .int y1_), (1, 5, a0_, .int y2_), (7, 1, q0_, .int y3_)]) rfl (fun r_193 fr_193 H locs hp hMr_193 g => ?_)
                have hG_194 := cOK.frame hMr_193 go_.2.2.2.1 mq0_ kq0_ (by decide) (by decide) hG_62
                have go_ := g
                refine g_callv (va_runV (As := [.int r_193]) (rest := []) ⟨hx, hb, hml, hown, hts⟩ (r_X1_push l dC dI L kd tys fr_193 H.size g.2.2.2.1 a0_ ma0_ ka0_ r_193) (cwV 1 hts (gV_ t_1568 t_1570 t_60 t_195 t_1571) rfl rfl rfl (by decide +kernel) ⟨(Nat.le_of_ble_eq_true rfl), (Nat.le_of_ble_eq_true rfl)⟩) (pre3V g hK ma0_ ka0_ (by decide) (q := (RX1, TX1, 18)) rfl) rfl rfl hl.1 rfl (lv_room (Nat.le_of_ble_eq_true rfl)) dX1_go_113 ⟨(Nat.le_of_ble_eq_true rfl), (Nat.le_of_ble_eq_true rfl)⟩) g hK (by decide) (by decide) (fx' := [(1, 13, a0_, .int y_59), (7, 5, q0_, .ref a_56), (7, 4, q0_, .ref a_54), (7, 6, q0_, .int x_38), (1, 15, a0_, .int x_15), (1, 11, a0_, .int w6_1_11_a0_), (1, 0, a0_, .ref q0_), (1, 1, a0_, .ref q1_), (1, 12, a0_, .int y0_), (1, 6, a0_, .int y1_), (1, 5, a0_, .int y2_), (7, 1, q0_, .int y3_)]) rfl (fun fr_195 H locs hp hMr_195 g => ?_)
                obtain ⟨x_196, h_197, hF_198⟩ := hp
                have hG_199 := cOK.frame hMr_195 go_.2.2.2.1 mq0_ kq0_ (by decide) (by decide) hG_194
                have g := g.more hF_198
                refine lv_goto (tgt := 308) hx hb dX1_go_116 (by decide) ?_
                obtain ⟨y_200, ey_200⟩ : ∃ z : Int32, z = v6_1 + 1 := ⟨_, rfl⟩
                refine lv_iinc (v := y_200) (lv' := [(1, .int y_200), (4, .int x_57), (3, .int x_55), (2, .int 1), (0, .ref a0_)]) hx hb dX1_go_308 hl (k := 3) rfl (by rw [ey_200]; rfl) (by decide) rfl (fun ls hl => ?_)
                have ty_200 := add_bd ey_200 b_14 kb_1 (by decide)
                have b_201 : bd 1 1000000 y_200 := add_rg ty_200 b_14 kb_1 (by decide)
                refine lv_goto (tgt := 6) hx hb dX1_go_311 (by decide) ?_
                have hl9 := lv_sub hl [0, 4] (by rfl : lv_pick [(1, .int y_200), (4, .int x_57), (3, .int x_55), (2, .int 1), (0, .ref a0_)] [0, 4] = [(1, .int y_200), (0, .ref a0_)])
                have g9 := g.sub (fx' := [(1, 11, a0_, .int w6_1_11_a0_), (1, 0, a0_, .ref q0_), (1, 1, a0_, .ref q1_), (1, 12, a0_, .int y0_), (1, 6, a0_, .int y1_), (1, 5, a0_, .int y2_), (7, 1, q0_, .int y3_)]) [6, 7, 8, 9, 10, 11, 12] rfl
                exact ih6  y_200 w6_1_11_a0_ (bd_sub b_201 (by decide)) bw6_1_11_a0_ (by have h9_0 := b_20; unfold bd at h9_0; have h9_1 := b_201; unfold bd at h9_1; have h9_2 := bv6_1; unfold bd at h9_2; have h9_3 := bw6_1_11_a0_; unfold bd at h9_3; have h9_4 := h_197; unfold bd at h9_4; have h9_5 := kb_0; unfold bd at h9_5; have h9_6 := kb_1; unfold bd at h9_6; have h9_7 := kb_1000000; unfold bd at h9_7; have h9_8 := kb_5; unfold bd at h9_8; omega) _ _ _ _ g9 hG_199 hl9
  have kb_0 : bd 0 0 (0 : Int32) := ⟨by decide, by decide⟩
  have hl9 := lv_sub hl [0, 1] (by rfl : lv_pick [(1, .int 0), (0, .ref a0_)] [0, 1] = [(1, .int 0), (0, .ref a0_)])
  have g9 := g.sub (fx' := [(1, 11, a0_, .int y0_), (1, 0, a0_, .ref q0_), (1, 1, a0_, .ref q1_), (1, 12, a0_, .int y0_), (1, 6, a0_, .int y1_), (1, 5, a0_, .int y2_), (7, 1, q0_, .int y3_)]) [4, 5, 6, 7, 8, 9, 10] rfl
  exact loop_4 (2000003) 0 y0_ (bd_sub kb_0 (by decide)) (bd_sub by0_ (by decide)) (by have h9_0 := by0_; unfold bd at h9_0; have h9_1 := kb_0; unfold bd at h9_1; omega) _ _ _ _ g9 hG_3 hl9
set_option maxHeartbeats 4000000 in
set_option maxRecDepth 100000 in
theorem r_X1_standOn_3 (l : Launch) (dC : Nat → ClassId) (dI : Nat → Nat → Nat) (L : List Nat) (kd : Nat → Nat) (tys : List (ClassId × FieldType)) (f0 : Nat → va_E) (sz : Nat) (hWT : WT L kd tys f0) (a0_ : Nat) (ma0_ : a0_ ∈ L) (ka0_ : kd a0_ = 1) (a1_ : Nat) (ma1_ : a1_ ∈ L) (ka1_ : kd a1_ = 7) (a2_ : Nat) (ma2_ : a2_ ∈ L) (ka2_ : kd a2_ = 9) (a3_ : Nat) (ma3_ : a3_ ∈ L) (ka3_ : kd a3_ = 102) (a4_ : Nat) (ma4_ : a4_ ∈ L) (ka4_ : kd a4_ = 102) (a5_ : Nat) (ma5_ : a5_ ∈ L) (ka5_ : kd a5_ = 103) : Met l yX1_standOn (.code yX1_standOn cX1_standOn 6 none :: lw_g) ({ frames := 0, cells := 0, slots := 0, locals := 0 }) (va_Pc [.ref a0_, .ref a1_, .ref a2_, .ref a3_, .ref a4_, .ref a5_] (P3 (dC, dI) L tys f0 sz)) (va_Qv (fun (f : Nat → va_E) => (Fs L kd f [(1, 4, a0_, .ref a5_), (1, 3, a0_, .ref a4_), (1, 2, a0_, .ref a3_), (1, 1, a0_, .ref a2_), (1, 0, a0_, .ref a1_)])) (Q3 (dC, dI) L kd tys [(1, 0), (1, 1), (1, 2), (1, 3), (1, 4)] [] f0 sz) (pA L sz)) 0 0 (pA L sz) := by
  refine Met.ofW (cc := cX1_standOn) (maxL := 6) (ret := none) (by decide) rfl ?_
  intro p e s m args below meth c s₁ B hml hv
  obtain ⟨rfl, hsz, hP, hK, hD0⟩ := hv
  have hx := B.exec
  have hb := B.bytes
  have hr := B.returns
  have hts := atoms_spec (ws := (.code yX1_standOn cX1_standOn 6 none :: lw_g)) B.pre
  have hown : s.vm.findClass RX1 = some m.cls := findClass_of_methodNamed B.named
  have hlocks := B.notSynchronized
  subst hsz
  have g : G3 (dC, dI) L kd tys s f0 [(1, 0), (1, 1), (1, 2), (1, 3), (1, 4)] [] f0 s.heap [] [] := G3.start hP hD0 hWT Fs.nil
  have hl := lv_entry ([.ref a0_, .ref a1_, .ref a2_, .ref a3_, .ref a4_, .ref a5_]) (n := 6) (Nat.le_of_ble_eq_true rfl)
  rw [lg_entry_eq]
  generalize (lg_sl ([.ref a0_, .ref a1_, .ref a2_, .ref a3_, .ref a4_, .ref a5_]) ++ List.replicate (6 - (lg_sl ([.ref a0_, .ref a1_, .ref a2_, .ref a3_, .ref a4_, .ref a5_])).length) Slot.unset).toArray = ls at hl ⊢
  have hl : lv_has ls 6 [(0, .ref a0_), (1, .ref a1_), (2, .ref a2_), (3, .ref a3_), (4, .ref a4_), (5, .ref a5_)] := hl
  refine W_q (fun Q hQ => ?_)
  refine lv_aload_n hx hb dX1_standOn_0 rfl (lv_at hl 0 rfl) ?_
  refine lv_aload_n hx hb dX1_standOn_1 rfl (lv_at hl 1 rfl) ?_
  refine g_put (C := RX1) (T := TX1) (N := 18) hx hb hts (mc_ inX1) tyX1 tyX1_ok nmX1 hown hK g ma0_ ka0_ (by decide) rfl 0 (by decide) (hts _ (List.mem_cons_of_mem _ t_735)) (fun _ h9 => h9) rfl rfl (okV_n ma1_ ka1_ (by decide)) rfl rfl (by decide) (Or.inr (Or.inl (by decide))) (fx' := []) rfl dX1_standOn_2 (fun f H locs hM_1 g => ?_)
  refine lv_aload_n hx hb dX1_standOn_5 rfl (lv_at hl 0 rfl) ?_
  refine lv_aload_n hx hb dX1_standOn_6 rfl (lv_at hl 2 rfl) ?_
  refine g_put (C := RX1) (T := TX1) (N := 18) hx hb hts (mc_ inX1) tyX1 tyX1_ok nmX1 hown hK g ma0_ ka0_ (by decide) rfl 1 (by decide) (hts _ (List.mem_cons_of_mem _ t_736)) (fun _ h9 => h9) rfl rfl (okV_n ma2_ ka2_ (by decide)) rfl rfl (by decide) (Or.inr (Or.inl (by decide))) (fx' := [(1, 0, a0_, .ref a1_)]) rfl dX1_standOn_7 (fun f H locs hM_2 g => ?_)
  refine lv_aload_n hx hb dX1_standOn_10 rfl (lv_at hl 0 rfl) ?_
  refine lv_aload_n hx hb dX1_standOn_11 rfl (lv_at hl 3 rfl) ?_
  refine g_put (C := RX1) (T := TX1) (N := 18) hx hb hts (mc_ inX1) tyX1 tyX1_ok nmX1 hown hK g ma0_ ka0_ (by decide) rfl 2 (by decide) (hts _ (List.mem_cons_of_mem _ t_737)) (fun _ h9 => h9) rfl rfl (okV_r ma3_ ka3_ (by decide)) rfl rfl (by decide) (Or.inr (Or.inl (by decide))) (fx' := [(1, 1, a0_, .ref a2_), (1, 0, a0_, .ref a1_)]) rfl dX1_standOn_12 (fun f H locs hM_3 g => ?_)
  refine lv_aload_n hx hb dX1_standOn_15 rfl (lv_at hl 0 rfl) ?_
  refine lv_aload hx hb dX1_standOn_16 (lv_at hl 4 rfl) ?_
  refine g_put (C := RX1) (T := TX1) (N := 18) hx hb hts (mc_ inX1) tyX1 tyX1_ok nmX1 hown hK g ma0_ ka0_ (by decide) rfl 3 (by decide) (hts _ (List.mem_cons_of_mem _ t_738)) (fun _ h9 => h9) rfl rfl (okV_r ma4_ ka4_ (by decide)) rfl rfl (by decide) (Or.inr (Or.inl (by decide))) (fx' := [(1, 2, a0_, .ref a3_), (1, 1, a0_, .ref a2_), (1, 0, a0_, .ref a1_)]) rfl dX1_standOn_18 (fun f H locs hM_4 g => ?_)
  refine lv_aload_n hx hb dX1_standOn_21 rfl (lv_at hl 0 rfl) ?_
  refine lv_aload hx hb dX1_standOn_22 (lv_at hl 5 rfl) ?_
  refine g_put (C := RX1) (T := TX1) (N := 18) hx hb hts (mc_ inX1) tyX1 tyX1_ok nmX1 hown hK g ma0_ ka0_ (by decide) rfl 4 (by decide) (hts _ (List.mem_cons_of_mem _ t_739)) (fun _ h9 => h9) rfl rfl (okV_r ma5_ ka5_ (by decide)) rfl rfl (by decide) (Or.inr (Or.inl (by decide))) (fx' := [(1, 3, a0_, .ref a4_), (1, 2, a0_, .ref a3_), (1, 1, a0_, .ref a2_), (1, 0, a0_, .ref a1_)]) rfl dX1_standOn_24 (fun f H locs hM_5 g => ?_)
  subst hQ
  exact W.vret hx hb hr (fun t ht hW => ⟨⟨_, rfl, (g.fcts [0, 1, 2, 3, 4] rfl), q3_of g hK ht hW⟩, g.2.2.1.F ht⟩) g.2.2.1.2.2 dX1_standOn_27
set_option maxHeartbeats 4000000 in
set_option maxRecDepth 100000 in
theorem r_X9_changedCell (l : Launch) (dC : Nat → ClassId) (dI : Nat → Nat → Nat) (L : List Nat) (kd : Nat → Nat) (tys : List (ClassId × FieldType)) (f0 : Nat → va_E) (sz : Nat) (hWT : WT L kd tys f0) (a0_ : Nat) (ma0_ : a0_ ∈ L) (ka0_ : kd a0_ = 9) (a1_ : Nat) (ma1_ : a1_ ∈ L) (ka1_ : kd a1_ = 102) (a2_ : Nat) (ma2_ : a2_ ∈ L) (ka2_ : kd a2_ = 101) (x3_ : Int32) : Met l yX9_changedCell (.code yX9_changedCell cX9_changedCell 7 (some .int) :: lw_g) ({ frames := 1, cells := 0, slots := 0, locals := 14 }) (va_Pc [.ref a0_, .ref a1_, .ref a2_, .int x3_] (P3 (dC, dI) L tys f0 sz)) (va_Qi (fun (r : Int32) (f : Nat → va_E) => (bd (-1) 23 r ∧ True)) (Q3 (dC, dI) L kd tys [] [] f0 sz) (pA L sz)) 0 0 (pA L sz) := by
  refine Met.ofW (cc := cX9_changedCell) (maxL := 7) (ret := (some .int)) (by decide) rfl ?_
  intro p e s m args below meth c s₁ B hml hv
  obtain ⟨rfl, hsz, hP, hK, hD0⟩ := hv
  have hx := B.exec
  have hb := B.bytes
  have hr := B.returns
  have hts := atoms_spec (ws := (.code yX9_changedCell cX9_changedCell 7 (some .int) :: lw_g)) B.pre
  have hown : s.vm.findClass RX9 = some m.cls := findClass_of_methodNamed B.named
  have hlocks := B.notSynchronized
  subst hsz
  have g : G3 (dC, dI) L kd tys s f0 [] [] f0 s.heap [] [] := G3.start hP hD0 hWT Fs.nil
  have hl := lv_entry ([.ref a0_, .ref a1_, .ref a2_, .int x3_]) (n := 7) (Nat.le_of_ble_eq_true rfl)
  rw [lg_entry_eq]
  generalize (lg_sl ([.ref a0_, .ref a1_, .ref a2_, .int x3_]) ++ List.replicate (7 - (lg_sl ([.ref a0_, .ref a1_, .ref a2_, .int x3_])).length) Slot.unset).toArray = ls at hl ⊢
  have hl : lv_has ls 7 [(0, .ref a0_), (1, .ref a1_), (2, .ref a2_), (3, .int x3_)] := hl
  refine W_q (fun Q hQ => ?_)
  refine lv_iconst (v := 0) hx hb dX9_changedCell_0 (by decide) ?_
  refine lv_istore (lv' := [(4, .int 0), (0, .ref a0_), (1, .ref a1_), (2, .ref a2_), (3, .int x3_)]) hx hb dX9_changedCell_1 hl (by decide) rfl (fun ls hl => ?_)
  have loop_1 : ∀ (n : Nat) (v3_4 : Int32), bd 0 10 v3_4 → (10 - v3_4.toInt < (n : Int)) → ∀ (f : Nat → va_E) (H : Heap) (locs : List Loc) (ls : Array Slot), G3 (dC, dI) L kd tys s f0 [] [] f H locs [] → lv_has ls 7 [(4, .int v3_4), (0, .ref a0_), (1, .ref a1_), (2, .ref a2_), (3, .int x3_)] → W p l e ({ frames := 1, cells := 0, slots := 0, locals := 14 } : Room) s m [.ref a0_, .ref a1_, .ref a2_, .int x3_].toArray below meth c H locs 0 0 Q (F0 m 3 ls []) := by
    intro n3
    induction n3 with
    | zero =>
      intro v3_4 bv3_4 hm3 f H locs ls g  hl
      exact absurd hm3 (by have h9_v3_4 := bv3_4; unfold bd at h9_v3_4; omega)
    | succ n3 ih3 =>
      intro v3_4 bv3_4 hm3 f H locs ls g  hl
      refine lv_iload hx hb dX9_changedCell_3 (lv_at hl 0 rfl) ?_
      refine lv_aload_n hx hb dX9_changedCell_5 rfl (lv_at hl 1 rfl) ?_
      refine g_geti (C := RX9) (T := TX9) (N := 13) hx hb hts (mc_ inX9) hown hK g ma0_ ka0_ (by decide) rfl 2 (by decide) rfl (hts _ (List.mem_cons_of_mem _ t_485)) (fun _ h9 => h9) rfl dX9_changedCell_6 (fun x_2 bx_2 g => ?_)
      refine lv_icmp_ge (tgt := 98) hx hb dX9_changedCell_9 (by decide) (fun c_3 => ?_) (fun c_3 => ?_)
      · have fc_3 := le_f c_3
        refine lv_iconst (v := (-1)) hx hb dX9_changedCell_98 (by decide) ?_
        have kb_m1 : bd (-1) (-1) ((-1) : Int32) := ⟨by decide, by decide⟩
        subst hQ
        exact W.iret (v := (-1)) hx hb hr (fun t ht hW => ⟨⟨_, _, rfl, ⟨(bd_sub kb_m1 (by decide)), trivial⟩, q3_of g hK ht hW⟩, g.2.2.1.F ht⟩) g.2.2.1.2.2 dX9_changedCell_99
      · have fc_3 := nle_f c_3
        have b_4 : bd 0 9 v3_4 := ltL fc_3 bv3_4 bx_2 (by decide)
        have b_5 : bd 1 10 x_2 := ltR fc_3 bv3_4 bx_2 (by decide)
        refine lv_aload_n hx hb dX9_changedCell_12 rfl (lv_at hl 1 rfl) ?_
        refine g_getr (K := 153) (C := RX9) (T := TX9) (N := 13) hx hb hts (mc_ inX9) hown hK g ma0_ ka0_ (by decide) rfl 4 (by decide) rfl (hts _ (List.mem_cons_of_mem _ t_489)) (fun _ h9 => h9) rfl dX9_changedCell_13 (fun a_6 ma_6 ka_6 g => ?_)
        refine lv_iload hx hb dX9_changedCell_16 (lv_at hl 0 rfl) ?_
        refine g_iald hx hb hK g ma_6 ka_6 (by decide) rfl (in_bd b_4 (by decide)) dX9_changedCell_18 (fun x_7 bx_7 cx_7 => ?_)
        refine lv_aload_n hx hb dX9_changedCell_19 rfl (lv_at hl 1 rfl) ?_
        refine g_getr (K := 154) (C := RX9) (T := TX9) (N := 13) hx hb hts (mc_ inX9) hown hK g ma0_ ka0_ (by decide) rfl 5 (by decide) rfl (hts _ (List.mem_cons_of_mem _ t_490)) (fun _ h9 => h9) rfl dX9_changedCell_20 (fun a_8 ma_8 ka_8 g => ?_)
        refine lv_iload hx hb dX9_changedCell_23 (lv_at hl 0 rfl) ?_
        refine g_iald hx hb hK g ma_8 ka_8 (by decide) rfl (in_bd b_4 (by decide)) dX9_changedCell_25 (fun x_9 bx_9 cx_9 => ?_)
        refine lv_iconst (v := 1) hx hb dX9_changedCell_26 (by decide) ?_
        have kb_1 : bd 1 1 (1 : Int32) := ⟨by decide, by decide⟩
        refine va_mmax hx hb (hml.trans hl.1.symm) hown (hts _ (List.mem_cons_of_mem _ t_1168)) (hts _ (List.mem_cons_of_mem _ t_1041)) (hts _ (List.mem_cons_of_mem _ t_204)) (hts _ (List.mem_cons_of_mem _ t_1042)) (Nat.le_of_ble_eq_true rfl) (Nat.le_of_ble_eq_true rfl) (Nat.le_of_ble_eq_true rfl) (Nat.le_of_ble_eq_true rfl) dX9_changedCell_27 ?_
        refine lv_topi (fun y_10 ey_10 => ?_)
        have ty_10 : y_10.toInt = max x_9.toInt (1 : Int32).toInt := by rw [ey_10]; exact mmax_ok _ _
        have b_11 : bd 1 8 y_10 := max_rg ty_10 bx_9 kb_1 (by decide)
        refine lv_iadd hx hb dX9_changedCell_30 ?_
        refine lv_topi (fun y_12 ey_12 => ?_)
        have ty_12 := add_bd ey_12 bx_7 b_11 (by decide)
        have b_13 : bd 1 32 y_12 := add_rg ty_12 bx_7 b_11 (by decide)
        refine lv_istore (lv' := [(5, .int y_12), (4, .int v3_4), (0, .ref a0_), (1, .ref a1_), (2, .ref a2_), (3, .int x3_)]) hx hb dX9_changedCell_31 hl (by decide) rfl (fun ls hl => ?_)
        refine lv_aload_n hx hb dX9_changedCell_33 rfl (lv_at hl 2 rfl) ?_
        refine g_getk (C := RX9) (T := TX9) (N := 13) hx hb hts (mc_ inX9) hown hK g rfl 4 (by decide) rfl (hts _ (List.mem_cons_of_mem _ t_489)) (fun _ h9 => h9) 1 rfl dX9_changedCell_34 ?_
        refine lv_iload hx hb dX9_changedCell_37 (lv_at hl 1 rfl) ?_
        refine g_iald hx hb hK g ma_6 ka_6 (by decide) rfl (in_bd b_4 (by decide)) dX9_changedCell_39 (fun x_14 bx_14 cx_14 => ?_)
        obtain rfl : x_7 = x_14 := el_same cx_7 cx_14 rfl
        refine lv_istore (lv' := [(6, .int x_7), (5, .int y_12), (4, .int v3_4), (0, .ref a0_), (1, .ref a1_), (2, .ref a2_), (3, .int x3_)]) hx hb dX9_changedCell_40 hl (by decide) rfl (fun ls hl => ?_)
        have loop_15 : ∀ (n : Nat) (v42_6 : Int32), bd 0 32 v42_6 → (32 - v42_6.toInt < (n : Int)) → ∀ (f : Nat → va_E) (H : Heap) (locs : List Loc) (ls : Array Slot), G3 (dC, dI) L kd tys s f0 [] [] f H locs [(9, 5, a0_, .ref a_8), (9, 4, a0_, .ref a_6), (9, 2, a0_, .int x_2)] → lv_has ls 7 [(6, .int v42_6), (5, .int y_12), (4, .int v3_4), (0, .ref a0_), (1, .ref a1_), (2, .ref a2_), (3, .int x3_)] → W p l e ({ frames := 1, cells := 0, slots := 0, locals := 14 } : Room) s m [.ref a0_, .ref a1_, .ref a2_, .int x3_].toArray below meth c H locs 0 0 Q (F0 m 42 ls []) := by
          intro n42
          induction n42 with
          | zero =>
            intro v42_6 bv42_6 hm42 f H locs ls g  hl
            exact absurd hm42 (by have h9_v42_6 := bv42_6; unfold bd at h9_v42_6; omega)
          | succ n42 ih42 =>
            intro v42_6 bv42_6 hm42 f H locs ls g  hl
            refine lv_iload hx hb dX9_changedCell_42 (lv_at hl 0 rfl) ?_
            refine lv_iload hx hb dX9_changedCell_44 (lv_at hl 1 rfl) ?_
            refine lv_icmp_ge (tgt := 92) hx hb dX9_changedCell_46 (by decide) (fun c_16 => ?_) (fun c_16 => ?_)
            · have fc_16 := le_f c_16
              have b_17 : bd 1 32 v42_6 := leR fc_16 b_13 bv42_6 (by decide)
              obtain ⟨y_18, ey_18⟩ : ∃ z : Int32, z = v3_4 + 1 := ⟨_, rfl⟩
              refine lv_iinc (v := y_18) (lv' := [(4, .int y_18), (6, .int v42_6), (5, .int y_12), (0, .ref a0_), (1, .ref a1_), (2, .ref a2_), (3, .int x3_)]) hx hb dX9_changedCell_92 hl (k := 2) rfl (by rw [ey_18]; rfl) (by decide) rfl (fun ls hl => ?_)
              have ty_18 := add_bd ey_18 b_4 kb_1 (by decide)
              have b_19 : bd 1 10 y_18 := add_rg ty_18 b_4 kb_1 (by decide)
              refine lv_goto (tgt := 3) hx hb dX9_changedCell_95 (by decide) ?_
              have hl9 := lv_sub hl [0, 3, 4, 5, 6] (by rfl : lv_pick [(4, .int y_18), (6, .int v42_6), (5, .int y_12), (0, .ref a0_), (1, .ref a1_), (2, .ref a2_), (3, .int x3_)] [0, 3, 4, 5, 6] = [(4, .int y_18), (0, .ref a0_), (1, .ref a1_), (2, .ref a2_), (3, .int x3_)])
              have g9 := g.sub (fx' := []) [] rfl
              exact ih3  y_18 (bd_sub b_19 (by decide)) (by have h9_0 := b_19; unfold bd at h9_0; have h9_1 := bv3_4; unfold bd at h9_1; have h9_2 := kb_1; unfold bd at h9_2; omega) _ _ _ _ g9  hl9
            · have fc_16 := nle_f c_16
              have b_20 : bd 0 31 v42_6 := ltL fc_16 bv42_6 b_13 (by decide)
              refine lv_iload_n hx hb dX9_changedCell_49 rfl (lv_at hl 6 rfl) ?_
              refine lv_iload hx hb dX9_changedCell_50 (lv_at hl 2 rfl) ?_
              refine lv_ishr hx hb dX9_changedCell_52 ?_
              refine lv_topi (fun y_21 ey_21 => ?_)
              refine lv_iconst (v := 1) hx hb dX9_changedCell_53 (by decide) ?_
              refine lv_iand hx hb dX9_changedCell_54 ?_
              refine lv_topi (fun y_22 ey_22 => ?_)
              have b_23 : bd 0 1 y_22 := and_rg ey_22 (bdT y_21) kb_1 (by decide)
              have kb_0 : bd 0 0 (0 : Int32) := ⟨by decide, by decide⟩
              refine lv_if_ne (tgt := 92) hx hb dX9_changedCell_55 (by decide) (fun c_24 => ?_) (fun c_24 => ?_)
              · have fc_24 := neq_f c_24
                have b_25 : bd 1 1 y_22 := neX fc_24 b_23 kb_0 (by decide)
                obtain ⟨y_26, ey_26⟩ : ∃ z : Int32, z = v3_4 + 1 := ⟨_, rfl⟩
                refine lv_iinc (v := y_26) (lv' := [(4, .int y_26), (6, .int v42_6), (5, .int y_12), (0, .ref a0_), (1, .ref a1_), (2, .ref a2_), (3, .int x3_)]) hx hb dX9_changedCell_92 hl (k := 2) rfl (by rw [ey_26]; rfl) (by decide) rfl (fun ls hl => ?_)
                have ty_26 := add_bd ey_26 b_4 kb_1 (by decide)
                have b_27 : bd 1 10 y_26 := add_rg ty_26 b_4 kb_1 (by decide)
                refine lv_goto (tgt := 3) hx hb dX9_changedCell_95 (by decide) ?_
                have hl9 := lv_sub hl [0, 3, 4, 5, 6] (by rfl : lv_pick [(4, .int y_26), (6, .int v42_6), (5, .int y_12), (0, .ref a0_), (1, .ref a1_), (2, .ref a2_), (3, .int x3_)] [0, 3, 4, 5, 6] = [(4, .int y_26), (0, .ref a0_), (1, .ref a1_), (2, .ref a2_), (3, .int x3_)])
                have g9 := g.sub (fx' := []) [] rfl
                exact ih3  y_26 (bd_sub b_27 (by decide)) (by have h9_0 := b_27; unfold bd at h9_0; have h9_1 := bv3_4; unfold bd at h9_1; have h9_2 := kb_0; unfold bd at h9_2; have h9_3 := kb_1; unfold bd at h9_3; omega) _ _ _ _ g9  hl9
              · have fc_24 := eq_f c_24
                have b_28 : bd 0 0 y_22 := eqX fc_24 b_23 kb_0 (by decide)
                refine lv_iload hx hb dX9_changedCell_58 (lv_at hl 0 rfl) ?_
                refine lv_aload_n hx hb dX9_changedCell_60 rfl (lv_at hl 4 rfl) ?_
                refine g_alen (v := 24) hx hb hK g ma1_ ka1_ (by decide) rfl dX9_changedCell_61 ?_
                have kb_24 : bd 24 24 (24 : Int32) := ⟨by decide, by decide⟩
                refine lv_icmp_ge (tgt := 86) hx hb dX9_changedCell_62 (by decide) (fun c_29 => ?_) (fun c_29 => ?_)
                · have fc_29 := le_f c_29
                  have b_30 : bd 24 31 v42_6 := leR fc_29 kb_24 b_20 (by decide)
                  obtain ⟨y_31, ey_31⟩ : ∃ z : Int32, z = v42_6 + 1 := ⟨_, rfl⟩
                  refine lv_iinc (v := y_31) (lv' := [(6, .int y_31), (5, .int y_12), (4, .int v3_4), (0, .ref a0_), (1, .ref a1_), (2, .ref a2_), (3, .int x3_)]) hx hb dX9_changedCell_86 hl (k := 0) rfl (by rw [ey_31]; rfl) (by decide) rfl (fun ls hl => ?_)
                  have ty_31 := add_bd ey_31 b_30 kb_1 (by decide)
                  have b_32 : bd 25 32 y_31 := add_rg ty_31 b_30 kb_1 (by decide)
                  refine lv_goto (tgt := 42) hx hb dX9_changedCell_89 (by decide) ?_
                  have hl9 := lv_sub hl [0, 1, 2, 3, 4, 5, 6] (by rfl : lv_pick [(6, .int y_31), (5, .int y_12), (4, .int v3_4), (0, .ref a0_), (1, .ref a1_), (2, .ref a2_), (3, .int x3_)] [0, 1, 2, 3, 4, 5, 6] = [(6, .int y_31), (5, .int y_12), (4, .int v3_4), (0, .ref a0_), (1, .ref a1_), (2, .ref a2_), (3, .int x3_)])
                  have g9 := g.sub (fx' := [(9, 5, a0_, .ref a_8), (9, 4, a0_, .ref a_6), (9, 2, a0_, .int x_2)]) [0, 1, 2] rfl
                  exact ih42  y_31 (bd_sub b_32 (by decide)) (by have h9_0 := b_32; unfold bd at h9_0; have h9_1 := bv42_6; unfold bd at h9_1; have h9_2 := kb_0; unfold bd at h9_2; have h9_3 := kb_1; unfold bd at h9_3; have h9_4 := kb_24; unfold bd at h9_4; omega) _ _ _ _ g9  hl9
                · have fc_29 := nle_f c_29
                  have b_33 : bd 0 23 v42_6 := ltL fc_29 b_20 kb_24 (by decide)
                  refine lv_iload hx hb dX9_changedCell_65 (lv_at hl 0 rfl) ?_
                  refine lv_aload_n hx hb dX9_changedCell_67 rfl (lv_at hl 5 rfl) ?_
                  refine g_alen (v := 24) hx hb hK g ma2_ ka2_ (by decide) rfl dX9_changedCell_68 ?_
                  refine lv_icmp_ge (tgt := 86) hx hb dX9_changedCell_69 (by decide) (fun c_34 => ?_) (fun c_34 => ?_)
                  · have fc_34 := le_f c_34
                    have b_35 : bd 24 23 (24 : Int32) := leL fc_34 kb_24 b_33 (by decide)
                    exact bd_no (eqX rfl b_35 kb_24 (lo := 24) (hi := 23) (by decide)) (by decide)
                  · have fc_34 := nle_f c_34
                    refine lv_aload_n hx hb dX9_changedCell_72 rfl (lv_at hl 4 rfl) ?_
                    refine lv_iload hx hb dX9_changedCell_73 (lv_at hl 0 rfl) ?_
                    refine g_iald hx hb hK g ma1_ ka1_ (by decide) rfl (in_bd b_33 (by decide)) dX9_changedCell_75 (fun x_36 bx_36 cx_36 => ?_)
                    refine lv_aload_n hx hb dX9_changedCell_76 rfl (lv_at hl 5 rfl) ?_
                    refine lv_iload hx hb dX9_changedCell_77 (lv_at hl 0 rfl) ?_
                    refine g_iald hx hb hK g ma2_ ka2_ (by decide) rfl (in_bd b_33 (by decide)) dX9_changedCell_79 (fun x_37 bx_37 cx_37 => ?_)
                    refine lv_icmp_eq (tgt := 86) hx hb dX9_changedCell_80 (by decide) (fun c_38 => ?_) (fun c_38 => ?_)
                    · have fc_38 := eq_f c_38
                      obtain ⟨y_39, ey_39⟩ : ∃ z : Int32, z = v42_6 + 1 := ⟨_, rfl⟩
                      refine lv_iinc (v := y_39) (lv' := [(6, .int y_39), (5, .int y_12), (4, .int v3_4), (0, .ref a0_), (1, .ref a1_), (2, .ref a2_), (3, .int x3_)]) hx hb dX9_changedCell_86 hl (k := 0) rfl (by rw [ey_39]; rfl) (by decide) rfl (fun ls hl => ?_)
                      have ty_39 := add_bd ey_39 b_33 kb_1 (by decide)
                      have b_40 : bd 1 24 y_39 := add_rg ty_39 b_33 kb_1 (by decide)
                      refine lv_goto (tgt := 42) hx hb dX9_changedCell_89 (by decide) ?_
                      have hl9 := lv_sub hl [0, 1, 2, 3, 4, 5, 6] (by rfl : lv_pick [(6, .int y_39), (5, .int y_12), (4, .int v3_4), (0, .ref a0_), (1, .ref a1_), (2, .ref a2_), (3, .int x3_)] [0, 1, 2, 3, 4, 5, 6] = [(6, .int y_39), (5, .int y_12), (4, .int v3_4), (0, .ref a0_), (1, .ref a1_), (2, .ref a2_), (3, .int x3_)])
                      have g9 := g.sub (fx' := [(9, 5, a0_, .ref a_8), (9, 4, a0_, .ref a_6), (9, 2, a0_, .int x_2)]) [0, 1, 2] rfl
                      exact ih42  y_39 (bd_sub b_40 (by decide)) (by have h9_0 := b_40; unfold bd at h9_0; have h9_1 := bv42_6; unfold bd at h9_1; have h9_2 := kb_0; unfold bd at h9_2; have h9_3 := kb_1; unfold bd at h9_3; have h9_4 := kb_24; unfold bd at h9_4; omega) _ _ _ _ g9  hl9
                    · have fc_38 := neq_f c_38
                      refine lv_iload hx hb dX9_changedCell_83 (lv_at hl 0 rfl) ?_
                      subst hQ
                      exact W.iret (v := v42_6) hx hb hr (fun t ht hW => ⟨⟨_, _, rfl, ⟨(bd_sub b_33 (by decide)), trivial⟩, q3_of g hK ht hW⟩, g.2.2.1.F ht⟩) g.2.2.1.2.2 dX9_changedCell_85
        have hl9 := lv_sub hl [0, 1, 2, 3, 4, 5, 6] (by rfl : lv_pick [(6, .int x_7), (5, .int y_12), (4, .int v3_4), (0, .ref a0_), (1, .ref a1_), (2, .ref a2_), (3, .int x3_)] [0, 1, 2, 3, 4, 5, 6] = [(6, .int x_7), (5, .int y_12), (4, .int v3_4), (0, .ref a0_), (1, .ref a1_), (2, .ref a2_), (3, .int x3_)])
        have g9 := g.sub (fx' := [(9, 5, a0_, .ref a_8), (9, 4, a0_, .ref a_6), (9, 2, a0_, .int x_2)]) [0, 1, 2] rfl
        exact loop_15 (67) x_7 (bd_sub bx_7 (by decide)) (by have h9_0 := bx_7; unfold bd at h9_0; have h9_1 := kb_1; unfold bd at h9_1; omega) _ _ _ _ g9  hl9
  have kb_0 : bd 0 0 (0 : Int32) := ⟨by decide, by decide⟩
  have hl9 := lv_sub hl [0, 1, 2, 3, 4] (by rfl : lv_pick [(4, .int 0), (0, .ref a0_), (1, .ref a1_), (2, .ref a2_), (3, .int x3_)] [0, 1, 2, 3, 4] = [(4, .int 0), (0, .ref a0_), (1, .ref a1_), (2, .ref a2_), (3, .int x3_)])
  have g9 := g.sub (fx' := []) [] rfl
  exact loop_1 (23) 0 (bd_sub kb_0 (by decide)) (by have h9_0 := kb_0; unfold bd at h9_0; omega) _ _ _ _ g9  hl9
