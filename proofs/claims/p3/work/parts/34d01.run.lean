set_option maxHeartbeats 4000000 in
set_option maxRecDepth 100000 in
theorem r_X14_holds (l : Launch) (dC : Nat → ClassId) (dI : Nat → Nat → Nat) (L : List Nat) (kd : Nat → Nat) (tys : List (ClassId × FieldType)) (f0 : Nat → va_E) (sz : Nat) (hWT : WT L kd tys f0) (adK adV : Nat → Nat) (a0_ : Nat) (ma0_ : a0_ ∈ L) (ka0_ : kd a0_ = 14) (x1_ : Int32) (x2_ : Int32) (x3_ : Int32) (x4_ : Int32) (bx4_ : bd 0 5 x4_) (x5_ : Int32) (x6_ : Int32) (bx6_ : bd (-1) 9 x6_) (q0_ : Nat) (mq0_ : q0_ ∈ L) (kq0_ : kd q0_ = 12) (V_ : PV) (δ_ : Nat → Nat) (hW : wfP V_ δ_) (O_ : Nat → Int32) (hGOa0_ : OA f0 a0_ O_) (hGVq0_ : isV f0 q0_ V_) (d_ : Nat) (hE : EV V_ x1_ 13 d_) (hcl : cAt V_ (O_ x4_.toNatClampNeg) d_) (hfx : Fs L kd f0 [(14, 1, a0_, .ref q0_)]) : Met l yX14_holds (.codeWith yX14_holds cX14_holds 9 (some .int) [(82, 97, 100, 7)] :: lw_g) ({ frames := 973, cells := 0, slots := 0, locals := 39004 }) (va_Pc [.ref a0_, .int x1_, .int x2_, .int x3_, .int x4_, .int x5_, .int x6_] (P3A (dC, dI) L tys f0 sz adK adV)) (va_Qi (fun (r : Int32) (f : Nat → va_E) => (bd (-1) 1 r ∧ Fs L kd f [(14, 37, a0_, .int 0), (14, 36, a0_, .int 0)])) (Q3 (dC, dI) L kd tys [(14, 31), (14, 32), (14, 33), (14, 34), (14, 35), (14, 36), (14, 37), (14, 39), (14, 40), (14, 45), (14, 55)] [200, 216, 218, 219, 220, 221, 228] f0 sz) (pA L sz)) 0 0 (pA L sz) := by
  refine Met.ofWH (cc := cX14_holds) (maxL := 9) (ret := (some .int)) (by decide) rfl ?_
  intro p e s m args below meth c s₁ B hml htab hv
  obtain ⟨rfl, ⟨hsz, hP, hK, hD0⟩, hAm⟩ := hv
  have hx := B.exec
  have hb := B.bytes
  have hr := B.returns
  have hts := atoms_spec (ws := (.codeWith yX14_holds cX14_holds 9 (some .int) [(82, 97, 100, 7)] :: lw_g)) B.pre
  have hown : s.vm.findClass RX14 = some m.cls := findClass_of_methodNamed B.named
  have hlocks := B.notSynchronized
  subst hsz
  have g : G3 (dC, dI) L kd tys s f0 [(14, 31), (14, 32), (14, 33), (14, 34), (14, 35), (14, 36), (14, 37), (14, 39), (14, 40), (14, 45), (14, 55)] [200, 216, 218, 219, 220, 221, 228] f0 s.heap [] [(14, 1, a0_, .ref q0_)] := G3.start hP hD0 hWT hfx
  have hl := lv_entry ([.ref a0_, .int x1_, .int x2_, .int x3_, .int x4_, .int x5_, .int x6_]) (n := 9) (Nat.le_of_ble_eq_true rfl)
  rw [lg_entry_eq]
  generalize (lg_sl ([.ref a0_, .int x1_, .int x2_, .int x3_, .int x4_, .int x5_, .int x6_]) ++ List.replicate (9 - (lg_sl ([.ref a0_, .int x1_, .int x2_, .int x3_, .int x4_, .int x5_, .int x6_])).length) Slot.unset).toArray = ls at hl ⊢
  have hl : lv_has ls 9 [(0, .ref a0_), (1, .int x1_), (2, .int x2_), (3, .int x3_), (4, .int x4_), (5, .int x5_), (6, .int x6_)] := hl
  refine W_q (fun Q hQ => ?_)
  refine lv_aload_n hx hb dX14_holds_0 rfl (lv_at hl 0 rfl) ?_
  refine lv_iconst (v := 0) hx hb dX14_holds_1 (by decide) ?_
  have kb_0 : bd 0 0 (0 : Int32) := ⟨by decide, by decide⟩
  have go_ := g
  refine g_put (C := RX14) (T := TX14) (N := 67) hx hb hts (mc_ inX14) tyX14 tyX14_ok nmX14 hown hK g ma0_ ka0_ (by decide) rfl 34 (by decide) (hts _ (List.mem_cons_of_mem _ t_2180)) (fun _ h9 => h9) rfl rfl (okV_i (bd_sub kb_0 (by decide))) rfl rfl (by decide) (Or.inr (Or.inl (by decide))) (fx' := [(14, 1, a0_, .ref q0_)]) rfl dX14_holds_2 (fun f H locs hM_1 g => ?_)
  have hG_2 := OA.frame hM_1 go_.2.2.2.1 ma0_ ka0_ (by decide) (by decide) hGOa0_
  have hG_3 := isV.frame hM_1 go_.2.2.2.1 mq0_ kq0_ (by decide) (by decide) hGVq0_
  refine lv_aload_n hx hb dX14_holds_5 rfl (lv_at hl 0 rfl) ?_
  refine lv_iconst (v := 0) hx hb dX14_holds_6 (by decide) ?_
  have go_ := g
  refine g_put (C := RX14) (T := TX14) (N := 67) hx hb hts (mc_ inX14) tyX14 tyX14_ok nmX14 hown hK g ma0_ ka0_ (by decide) rfl 35 (by decide) (hts _ (List.mem_cons_of_mem _ t_2181)) (fun _ h9 => h9) rfl rfl (okV_i (bd_sub kb_0 (by decide))) rfl rfl (by decide) (Or.inr (Or.inl (by decide))) (fx' := [(14, 34, a0_, .int 0), (14, 1, a0_, .ref q0_)]) rfl dX14_holds_7 (fun f H locs hM_4 g => ?_)
  have hG_5 := OA.frame hM_4 go_.2.2.2.1 ma0_ ka0_ (by decide) (by decide) hG_2
  have hG_6 := isV.frame hM_4 go_.2.2.2.1 mq0_ kq0_ (by decide) (by decide) hG_3
  refine lv_aload_n hx hb dX14_holds_10 rfl (lv_at hl 0 rfl) ?_
  refine g_getr (K := 220) (C := RX14) (T := TX14) (N := 67) hx hb hts (mc_ inX14) hown hK g ma0_ ka0_ (by decide) rfl 43 (by decide) rfl (hts _ (List.mem_cons_of_mem _ t_2189)) (fun _ h9 => h9) rfl dX14_holds_11 (fun a_7 ma_7 ka_7 g => ?_)
  refine lv_iconst (v := 0) hx hb dX14_holds_14 (by decide) ?_
  refine lv_iload hx hb dX14_holds_15 (lv_at hl 4 rfl) ?_
  have gp_8 := g
  have go_ := g
  refine g_iastX hx hb hK g ma_7 ka_7 (by decide) rfl (by unfold vp_in; decide) bx4_ (by decide) dX14_holds_17 (fun f H locs hM_9 u_12 g => ?_)
  have hG_10 := OA.frame hM_9 go_.2.2.2.1 ma0_ ka0_ (by decide) (by decide) hG_5
  have hG_11 := isV.frame hM_9 go_.2.2.2.1 mq0_ kq0_ (by decide) (by decide) hG_6
  have hG_13 := OA.push0 hG_10 gp_8 0 rfl ma0_ ka0_ ka_7 u_12 rfl
  refine lv_iconst (v := 0) hx hb dX14_holds_18 (by decide) ?_
  refine lv_istore (lv' := [(7, .int 0), (0, .ref a0_), (1, .int x1_), (2, .int x2_), (3, .int x3_), (4, .int x4_), (5, .int x5_), (6, .int x6_)]) hx hb dX14_holds_19 hl (by decide) rfl (fun ls hl => ?_)
  have loop_14 : ∀ (n : Nat) (v21_7 : Int32), bd 0 3 v21_7 → (3 - v21_7.toInt < (n : Int)) → ∀ (f : Nat → va_E) (H : Heap) (locs : List Loc) (ls : Array Slot), G3 (dC, dI) L kd tys s f0 [(14, 31), (14, 32), (14, 33), (14, 34), (14, 35), (14, 36), (14, 37), (14, 39), (14, 40), (14, 45), (14, 55)] [200, 216, 218, 219, 220, 221, 228] f H locs [(14, 43, a0_, .ref a_7), (14, 35, a0_, .int 0), (14, 34, a0_, .int 0), (14, 1, a0_, .ref q0_)] → OA f a0_ O_ → isV f q0_ V_ → RA f a0_ (0 : Int32) (fun _ => x4_) O_ → lv_has ls 9 [(7, .int v21_7), (0, .ref a0_), (1, .int x1_), (2, .int x2_), (3, .int x3_), (4, .int x4_), (5, .int x5_), (6, .int x6_)] → W p l e ({ frames := 973, cells := 0, slots := 0, locals := 39004 } : Room) s m [.ref a0_, .int x1_, .int x2_, .int x3_, .int x4_, .int x5_, .int x6_].toArray below meth c H locs 0 0 Q (F0 m 21 ls []) := by
    intro n21
    induction n21 with
    | zero =>
      intro v21_7 bv21_7 hm21 f H locs ls g hG21_O_a0_ hG21_V_q0_ hG21_R_a0_ hl
      exact absurd hm21 (by have h9_v21_7 := bv21_7; unfold bd at h9_v21_7; omega)
    | succ n21 ih21 =>
      intro v21_7 bv21_7 hm21 f H locs ls g hG21_O_a0_ hG21_V_q0_ hG21_R_a0_ hl
      refine lv_iload hx hb dX14_holds_21 (lv_at hl 0 rfl) ?_
      refine lv_iconst (v := 3) hx hb dX14_holds_23 (by decide) ?_
      have kb_3 : bd 3 3 (3 : Int32) := ⟨by decide, by decide⟩
      refine lv_icmp_ge (tgt := 62) hx hb dX14_holds_24 (by decide) (fun c_15 => ?_) (fun c_15 => ?_)
      · have fc_15 := le_f c_15
        have b_16 : bd 3 3 v21_7 := leR fc_15 kb_3 bv21_7 (by decide)
        refine lv_aload_n hx hb dX14_holds_62 rfl (lv_at hl 1 rfl) ?_
        refine lv_iconst (v := 1) hx hb dX14_holds_63 (by decide) ?_
        have kb_1 : bd 1 1 (1 : Int32) := ⟨by decide, by decide⟩
        have go_ := g
        refine g_put (C := RX14) (T := TX14) (N := 67) hx hb hts (mc_ inX14) tyX14 tyX14_ok nmX14 hown hK g ma0_ ka0_ (by decide) rfl 36 (by decide) (hts _ (List.mem_cons_of_mem _ t_2182)) (fun _ h9 => h9) rfl rfl (okV_i (bd_sub kb_1 (by decide))) rfl rfl (by decide) (Or.inr (Or.inl (by decide))) (fx' := [(14, 43, a0_, .ref a_7), (14, 35, a0_, .int 0), (14, 34, a0_, .int 0), (14, 1, a0_, .ref q0_)]) rfl dX14_holds_64 (fun f H locs hM_17 g => ?_)
        have hG_18 := OA.frame hM_17 go_.2.2.2.1 ma0_ ka0_ (by decide) (by decide) hG21_O_a0_
        have hG_19 := isV.frame hM_17 go_.2.2.2.1 mq0_ kq0_ (by decide) (by decide) hG21_V_q0_
        have hG_20 := RA.frame hM_17 go_.2.2.2.1 ma0_ ka0_ (by decide) (by decide) hG21_R_a0_
        refine lv_aload_n hx hb dX14_holds_67 rfl (lv_at hl 1 rfl) ?_
        refine lv_iload hx hb dX14_holds_68 (lv_at hl 6 rfl) ?_
        refine lv_iconst (v := 4) hx hb dX14_holds_70 (by decide) ?_
        have kb_4 : bd 4 4 (4 : Int32) := ⟨by decide, by decide⟩
        refine lv_icmp_ne (tgt := 78) hx hb dX14_holds_71 (by decide) (fun c_21 => ?_) (fun c_21 => ?_)
        · have fc_21 := neq_f c_21
          refine lv_iconst (v := 0) hx hb dX14_holds_78 (by decide) ?_
          have go_ := g
          refine g_put (C := RX14) (T := TX14) (N := 67) hx hb hts (mc_ inX14) tyX14 tyX14_ok nmX14 hown hK g ma0_ ka0_ (by decide) rfl 37 (by decide) (hts _ (List.mem_cons_of_mem _ t_2183)) (fun _ h9 => h9) rfl rfl (okV_i (bd_sub kb_0 (by decide))) rfl rfl (by decide) (Or.inr (Or.inl (by decide))) (fx' := [(14, 36, a0_, .int 1), (14, 43, a0_, .ref a_7), (14, 35, a0_, .int 0), (14, 34, a0_, .int 0), (14, 1, a0_, .ref q0_)]) rfl dX14_holds_79 (fun f H locs hM_22 g => ?_)
          have hG_23 := OA.frame hM_22 go_.2.2.2.1 ma0_ ka0_ (by decide) (by decide) hG_18
          have hG_24 := isV.frame hM_22 go_.2.2.2.1 mq0_ kq0_ (by decide) (by decide) hG_19
          have hG_25 := RA.frame hM_22 go_.2.2.2.1 ma0_ ka0_ (by decide) (by decide) hG_20
          refine lv_aload_n hx hb dX14_holds_82 rfl (lv_at hl 1 rfl) ?_
          refine lv_iload_n hx hb dX14_holds_83 rfl (lv_at hl 2 rfl) ?_
          have go_ := g
          refine g_callEi (As := [.int x1_]) (rest := []) ⟨hx, hb, hml, hown, hts⟩ ((recAll 967).1 l dC dI L kd tys f H.size g.2.2.2.1 a0_ ma0_ ka0_ x1_ q0_ mq0_ kq0_ V_ δ_ hW (0 : Int32) (bd_sub kb_0 (by decide)) (0 : Int32) (bd_sub kb_0 (by decide)) (fun _ => x4_) O_ hG_24 hG_25 d_ hcl 13 hE (by decide) (g.fcts [5, 3, 4] rfl)) (cwV 1 hts (gV_ t_2634 t_2636 t_146 t_198 t_2637) rfl rfl rfl (by decide +kernel) ⟨(Nat.le_of_ble_eq_true rfl), (Nat.le_of_ble_eq_true rfl)⟩) (pre3V g hK ma0_ ka0_ (by decide) (q := (RX14, TX14, 67)) rfl) rfl hl.1 rfl (lv_room (Nat.le_of_ble_eq_true rfl)) dX14_holds_84 ⟨(Nat.le_of_ble_eq_true rfl), (Nat.le_of_ble_eq_true rfl)⟩ g hK (by decide) (by decide) (fx' := [(14, 37, a0_, .int 0), (14, 36, a0_, .int 1), (14, 43, a0_, .ref a_7), (14, 1, a0_, .ref q0_)]) rfl (fun xr_26 fr_26 H locs mxr_26 kxr_26 hp hMr_26 g => ?_) (fun r_26 fr_26 H locs hp hMr_26 g => ?_)
          · have hG_27 := OA.frame hMr_26 go_.2.2.2.1 ma0_ ka0_ (by decide) (by decide) hG_23
            have hG_28 := isV.frame hMr_26 go_.2.2.2.1 mq0_ kq0_ (by decide) (by decide) hG_24
            refine WX.caught (sp := 82) (ep := 97) (hp := 100) (ct := 7) (name := RX13) hown htab (by decide) (by decide) (by decide) (hts _ (List.mem_cons_of_mem _ t_1836)) (g_recv g hK mxr_26 kxr_26 (by decide) rfl) hAm.1.2.2 ?_
            refine lv_astore (lv' := [(8, .ref xr_26), (7, .int v21_7), (0, .ref a0_), (1, .int x1_), (2, .int x2_), (3, .int x3_), (4, .int x4_), (5, .int x5_), (6, .int x6_)]) hx hb dX14_holds_100 hl (by decide) rfl (fun ls hl => ?_)
            refine lv_iconst (v := (-1)) hx hb dX14_holds_102 (by decide) ?_
            refine lv_istore (lv' := [(7, .int (-1)), (8, .ref xr_26), (0, .ref a0_), (1, .int x1_), (2, .int x2_), (3, .int x3_), (4, .int x4_), (5, .int x5_), (6, .int x6_)]) hx hb dX14_holds_103 hl (by decide) rfl (fun ls hl => ?_)
            refine lv_aload_n hx hb dX14_holds_105 rfl (lv_at hl 2 rfl) ?_
            refine lv_aload_n hx hb dX14_holds_106 rfl (lv_at hl 2 rfl) ?_
            refine g_geti (C := RX14) (T := TX14) (N := 67) hx hb hts (mc_ inX14) hown hK g ma0_ ka0_ (by decide) rfl 31 (by decide) rfl (hts _ (List.mem_cons_of_mem _ t_2177)) (fun _ h9 => h9) rfl dX14_holds_107 (fun x_29 bx_29 g => ?_)
            refine lv_iconst (v := 3) hx hb dX14_holds_110 (by decide) ?_
            refine lv_icmp_ne (tgt := 118) hx hb dX14_holds_111 (by decide) (fun c_30 => ?_) (fun c_30 => ?_)
            · have fc_30 := neq_f c_30
              refine lv_bipush (v := 7) hx hb dX14_holds_118 (by decide) ?_
              have kb_7 : bd 7 7 (7 : Int32) := ⟨by decide, by decide⟩
              have go_ := g
              refine g_put (C := RX14) (T := TX14) (N := 67) hx hb hts (mc_ inX14) tyX14 tyX14_ok nmX14 hown hK g ma0_ ka0_ (by decide) rfl 55 (by decide) (hts _ (List.mem_cons_of_mem _ t_2201)) (fun _ h9 => h9) rfl rfl (okV_i (bd_sub kb_7 (by decide))) rfl rfl (by decide) (Or.inr (Or.inl (by decide))) (fx' := [(14, 31, a0_, .int x_29), (14, 37, a0_, .int 0), (14, 36, a0_, .int 1), (14, 43, a0_, .ref a_7), (14, 1, a0_, .ref q0_)]) rfl dX14_holds_120 (fun f H locs hM_31 g => ?_)
              have hG_32 := OA.frame hM_31 go_.2.2.2.1 ma0_ ka0_ (by decide) (by decide) hG_27
              have hG_33 := isV.frame hM_31 go_.2.2.2.1 mq0_ kq0_ (by decide) (by decide) hG_28
              refine lv_aload_n hx hb dX14_holds_123 rfl (lv_at hl 2 rfl) ?_
              refine lv_iload_n hx hb dX14_holds_124 rfl (lv_at hl 5 rfl) ?_
              refine lv_iload hx hb dX14_holds_125 (lv_at hl 6 rfl) ?_
              refine lv_iload_n hx hb dX14_holds_127 rfl (lv_at hl 4 rfl) ?_
              refine lv_iload hx hb dX14_holds_128 (lv_at hl 7 rfl) ?_
              have go_ := g
              refine g_callv (va_runV (As := [.int x3_, .int x4_, .int x2_, .int x5_]) (rest := []) ⟨hx, hb, hml, hown, hts⟩ (r_X14_tells l dC dI L kd tys f H.size g.2.2.2.1 a0_ ma0_ ka0_ x3_ x4_ x2_ x5_) (cwV 4 hts (gV_ t_2680 t_2682 t_157 t_198 t_2683) rfl rfl rfl (by decide +kernel) ⟨(Nat.le_of_ble_eq_true rfl), (Nat.le_of_ble_eq_true rfl)⟩) (pre3V g hK ma0_ ka0_ (by decide) (q := (RX14, TX14, 67)) rfl) rfl rfl hl.1 rfl (lv_room (Nat.le_of_ble_eq_true rfl)) dX14_holds_130 ⟨(Nat.le_of_ble_eq_true rfl), (Nat.le_of_ble_eq_true rfl)⟩) g hK (by decide) (by decide) (fx' := [(14, 55, a0_, .int 7), (14, 31, a0_, .int x_29), (14, 37, a0_, .int 0), (14, 36, a0_, .int 1), (14, 43, a0_, .ref a_7), (14, 1, a0_, .ref q0_)]) rfl (fun fr_34 H locs hp hMr_34 g => ?_)
              have hG_35 := OA.frame hMr_34 go_.2.2.2.1 ma0_ ka0_ (by decide) (by decide) hG_32
              have hG_36 := isV.frame hMr_34 go_.2.2.2.1 mq0_ kq0_ (by decide) (by decide) hG_33
              refine lv_aload_n hx hb dX14_holds_133 rfl (lv_at hl 2 rfl) ?_
              refine lv_iconst (v := 0) hx hb dX14_holds_134 (by decide) ?_
              have go_ := g
              refine g_put (C := RX14) (T := TX14) (N := 67) hx hb hts (mc_ inX14) tyX14 tyX14_ok nmX14 hown hK g ma0_ ka0_ (by decide) rfl 36 (by decide) (hts _ (List.mem_cons_of_mem _ t_2182)) (fun _ h9 => h9) rfl rfl (okV_i (bd_sub kb_0 (by decide))) rfl rfl (by decide) (Or.inr (Or.inl (by decide))) (fx' := [(14, 55, a0_, .int 7), (14, 31, a0_, .int x_29), (14, 37, a0_, .int 0), (14, 43, a0_, .ref a_7), (14, 1, a0_, .ref q0_)]) rfl dX14_holds_135 (fun f H locs hM_37 g => ?_)
              have hG_38 := OA.frame hM_37 go_.2.2.2.1 ma0_ ka0_ (by decide) (by decide) hG_35
              have hG_39 := isV.frame hM_37 go_.2.2.2.1 mq0_ kq0_ (by decide) (by decide) hG_36
              refine lv_aload_n hx hb dX14_holds_138 rfl (lv_at hl 2 rfl) ?_
              refine lv_iconst (v := 0) hx hb dX14_holds_139 (by decide) ?_
              have go_ := g
              refine g_put (C := RX14) (T := TX14) (N := 67) hx hb hts (mc_ inX14) tyX14 tyX14_ok nmX14 hown hK g ma0_ ka0_ (by decide) rfl 37 (by decide) (hts _ (List.mem_cons_of_mem _ t_2183)) (fun _ h9 => h9) rfl rfl (okV_i (bd_sub kb_0 (by decide))) rfl rfl (by decide) (Or.inr (Or.inl (by decide))) (fx' := [(14, 36, a0_, .int 0), (14, 55, a0_, .int 7), (14, 31, a0_, .int x_29), (14, 43, a0_, .ref a_7), (14, 1, a0_, .ref q0_)]) rfl dX14_holds_140 (fun f H locs hM_40 g => ?_)
              have hG_41 := OA.frame hM_40 go_.2.2.2.1 ma0_ ka0_ (by decide) (by decide) hG_38
              have hG_42 := isV.frame hM_40 go_.2.2.2.1 mq0_ kq0_ (by decide) (by decide) hG_39
              refine lv_iload hx hb dX14_holds_143 (lv_at hl 0 rfl) ?_
              have kb_m1 : bd (-1) (-1) ((-1) : Int32) := ⟨by decide, by decide⟩
              subst hQ
              exact W.iret (v := (-1)) hx hb hr (fun t ht hW => ⟨⟨_, _, rfl, ⟨(bd_sub kb_m1 (by decide)), (g.fcts [0, 1] rfl)⟩, q3_of g hK ht hW⟩, g.2.2.1.F ht⟩) g.2.2.1.2.2 dX14_holds_145
            · have fc_30 := eq_f c_30
              have b_43 : bd 3 3 x_29 := eqX fc_30 (bdT x_29) kb_3 (by decide)
              refine lv_iconst (v := 5) hx hb dX14_holds_114 (by decide) ?_
              refine lv_goto (tgt := 120) hx hb dX14_holds_115 (by decide) ?_
              have kb_5 : bd 5 5 (5 : Int32) := ⟨by decide, by decide⟩
              have go_ := g
              refine g_put (C := RX14) (T := TX14) (N := 67) hx hb hts (mc_ inX14) tyX14 tyX14_ok nmX14 hown hK g ma0_ ka0_ (by decide) rfl 55 (by decide) (hts _ (List.mem_cons_of_mem _ t_2201)) (fun _ h9 => h9) rfl rfl (okV_i (bd_sub kb_5 (by decide))) rfl rfl (by decide) (Or.inr (Or.inl (by decide))) (fx' := [(14, 31, a0_, .int x_29), (14, 37, a0_, .int 0), (14, 36, a0_, .int 1), (14, 43, a0_, .ref a_7), (14, 1, a0_, .ref q0_)]) rfl dX14_holds_120 (fun f H locs hM_44 g => ?_)
              have hG_45 := OA.frame hM_44 go_.2.2.2.1 ma0_ ka0_ (by decide) (by decide) hG_27
              have hG_46 := isV.frame hM_44 go_.2.2.2.1 mq0_ kq0_ (by decide) (by decide) hG_28
              refine lv_aload_n hx hb dX14_holds_123 rfl (lv_at hl 2 rfl) ?_
              refine lv_iload_n hx hb dX14_holds_124 rfl (lv_at hl 5 rfl) ?_
              refine lv_iload hx hb dX14_holds_125 (lv_at hl 6 rfl) ?_
              refine lv_iload_n hx hb dX14_holds_127 rfl (lv_at hl 4 rfl) ?_
              refine lv_iload hx hb dX14_holds_128 (lv_at hl 7 rfl) ?_
              have go_ := g
              refine g_callv (va_runV (As := [.int x3_, .int x4_, .int x2_, .int x5_]) (rest := []) ⟨hx, hb, hml, hown, hts⟩ (r_X14_tells l dC dI L kd tys f H.size g.2.2.2.1 a0_ ma0_ ka0_ x3_ x4_ x2_ x5_) (cwV 4 hts (gV_ t_2680 t_2682 t_157 t_198 t_2683) rfl rfl rfl (by decide +kernel) ⟨(Nat.le_of_ble_eq_true rfl), (Nat.le_of_ble_eq_true rfl)⟩) (pre3V g hK ma0_ ka0_ (by decide) (q := (RX14, TX14, 67)) rfl) rfl rfl hl.1 rfl (lv_room (Nat.le_of_ble_eq_true rfl)) dX14_holds_130 ⟨(Nat.le_of_ble_eq_true rfl), (Nat.le_of_ble_eq_true rfl)⟩) g hK (by decide) (by decide) (fx' := [(14, 55, a0_, .int 5), (14, 31, a0_, .int x_29), (14, 37, a0_, .int 0), (14, 36, a0_, .int 1), (14, 43, a0_, .ref a_7), (14, 1, a0_, .ref q0_)]) rfl (fun fr_47 H locs hp hMr_47 g => ?_)
              have hG_48 := OA.frame hMr_47 go_.2.2.2.1 ma0_ ka0_ (by decide) (by decide) hG_45
              have hG_49 := isV.frame hMr_47 go_.2.2.2.1 mq0_ kq0_ (by decide) (by decide) hG_46
              refine lv_aload_n hx hb dX14_holds_133 rfl (lv_at hl 2 rfl) ?_
              refine lv_iconst (v := 0) hx hb dX14_holds_134 (by decide) ?_
              have go_ := g
              refine g_put (C := RX14) (T := TX14) (N := 67) hx hb hts (mc_ inX14) tyX14 tyX14_ok nmX14 hown hK g ma0_ ka0_ (by decide) rfl 36 (by decide) (hts _ (List.mem_cons_of_mem _ t_2182)) (fun _ h9 => h9) rfl rfl (okV_i (bd_sub kb_0 (by decide))) rfl rfl (by decide) (Or.inr (Or.inl (by decide))) (fx' := [(14, 55, a0_, .int 5), (14, 31, a0_, .int x_29), (14, 37, a0_, .int 0), (14, 43, a0_, .ref a_7), (14, 1, a0_, .ref q0_)]) rfl dX14_holds_135 (fun f H locs hM_50 g => ?_)
              have hG_51 := OA.frame hM_50 go_.2.2.2.1 ma0_ ka0_ (by decide) (by decide) hG_48
              have hG_52 := isV.frame hM_50 go_.2.2.2.1 mq0_ kq0_ (by decide) (by decide) hG_49
              refine lv_aload_n hx hb dX14_holds_138 rfl (lv_at hl 2 rfl) ?_
              refine lv_iconst (v := 0) hx hb dX14_holds_139 (by decide) ?_
              have go_ := g
              refine g_put (C := RX14) (T := TX14) (N := 67) hx hb hts (mc_ inX14) tyX14 tyX14_ok nmX14 hown hK g ma0_ ka0_ (by decide) rfl 37 (by decide) (hts _ (List.mem_cons_of_mem _ t_2183)) (fun _ h9 => h9) rfl rfl (okV_i (bd_sub kb_0 (by decide))) rfl rfl (by decide) (Or.inr (Or.inl (by decide))) (fx' := [(14, 36, a0_, .int 0), (14, 55, a0_, .int 5), (14, 31, a0_, .int x_29), (14, 43, a0_, .ref a_7), (14, 1, a0_, .ref q0_)]) rfl dX14_holds_140 (fun f H locs hM_53 g => ?_)
              have hG_54 := OA.frame hM_53 go_.2.2.2.1 ma0_ ka0_ (by decide) (by decide) hG_51
              have hG_55 := isV.frame hM_53 go_.2.2.2.1 mq0_ kq0_ (by decide) (by decide) hG_52
              refine lv_iload hx hb dX14_holds_143 (lv_at hl 0 rfl) ?_
              have kb_m1 : bd (-1) (-1) ((-1) : Int32) := ⟨by decide, by decide⟩
              subst hQ
              exact W.iret (v := (-1)) hx hb hr (fun t ht hW => ⟨⟨_, _, rfl, ⟨(bd_sub kb_m1 (by decide)), (g.fcts [0, 1] rfl)⟩, q3_of g hK ht hW⟩, g.2.2.1.F ht⟩) g.2.2.1.2.2 dX14_holds_145
          · obtain ⟨hG_56, x_57, ⟨h_58, rh_58⟩, hF_59⟩ := hp
            have hG_60 := OA.frame hMr_26 go_.2.2.2.1 ma0_ ka0_ (by decide) (by decide) hG_23
            have hG_61 := isV.frame hMr_26 go_.2.2.2.1 mq0_ kq0_ (by decide) (by decide) hG_24
            have g := g.more hF_59
            refine lv_if_eq (tgt := 94) hx hb dX14_holds_87 (by decide) (fun c_62 => ?_) (fun c_62 => ?_)
            · have fc_62 := eq_f c_62
              have b_63 : bd 0 0 r_26 := eqX fc_62 (bdT r_26) kb_0 (by decide)
              refine lv_iconst (v := 0) hx hb dX14_holds_94 (by decide) ?_
              refine lv_istore (lv' := [(7, .int 0), (0, .ref a0_), (1, .int x1_), (2, .int x2_), (3, .int x3_), (4, .int x4_), (5, .int x5_), (6, .int x6_)]) hx hb dX14_holds_95 hl (by decide) rfl (fun ls hl => ?_)
              refine lv_goto (tgt := 133) hx hb dX14_holds_97 (by decide) ?_
              refine lv_aload_n hx hb dX14_holds_133 rfl (lv_at hl 1 rfl) ?_
              refine lv_iconst (v := 0) hx hb dX14_holds_134 (by decide) ?_
              have go_ := g
              refine g_put (C := RX14) (T := TX14) (N := 67) hx hb hts (mc_ inX14) tyX14 tyX14_ok nmX14 hown hK g ma0_ ka0_ (by decide) rfl 36 (by decide) (hts _ (List.mem_cons_of_mem _ t_2182)) (fun _ h9 => h9) rfl rfl (okV_i (bd_sub kb_0 (by decide))) rfl rfl (by decide) (Or.inr (Or.inl (by decide))) (fx' := [(14, 35, a0_, .int 0), (14, 34, a0_, .int x_57), (14, 37, a0_, .int 0), (14, 43, a0_, .ref a_7), (14, 1, a0_, .ref q0_)]) rfl dX14_holds_135 (fun f H locs hM_64 g => ?_)
              have hG_65 := OA.frame hM_64 go_.2.2.2.1 ma0_ ka0_ (by decide) (by decide) hG_60
              have hG_66 := isV.frame hM_64 go_.2.2.2.1 mq0_ kq0_ (by decide) (by decide) hG_61
              have hG_67 := RA.frame hM_64 go_.2.2.2.1 ma0_ ka0_ (by decide) (by decide) hG_56
              refine lv_aload_n hx hb dX14_holds_138 rfl (lv_at hl 1 rfl) ?_
              refine lv_iconst (v := 0) hx hb dX14_holds_139 (by decide) ?_
              have go_ := g
              refine g_put (C := RX14) (T := TX14) (N := 67) hx hb hts (mc_ inX14) tyX14 tyX14_ok nmX14 hown hK g ma0_ ka0_ (by decide) rfl 37 (by decide) (hts _ (List.mem_cons_of_mem _ t_2183)) (fun _ h9 => h9) rfl rfl (okV_i (bd_sub kb_0 (by decide))) rfl rfl (by decide) (Or.inr (Or.inl (by decide))) (fx' := [(14, 36, a0_, .int 0), (14, 35, a0_, .int 0), (14, 34, a0_, .int x_57), (14, 43, a0_, .ref a_7), (14, 1, a0_, .ref q0_)]) rfl dX14_holds_140 (fun f H locs hM_68 g => ?_)
              have hG_69 := OA.frame hM_68 go_.2.2.2.1 ma0_ ka0_ (by decide) (by decide) hG_65
              have hG_70 := isV.frame hM_68 go_.2.2.2.1 mq0_ kq0_ (by decide) (by decide) hG_66
              have hG_71 := RA.frame hM_68 go_.2.2.2.1 ma0_ ka0_ (by decide) (by decide) hG_67
              refine lv_iload hx hb dX14_holds_143 (lv_at hl 0 rfl) ?_
              subst hQ
              exact W.iret (v := 0) hx hb hr (fun t ht hW => ⟨⟨_, _, rfl, ⟨(bd_sub kb_0 (by decide)), (g.fcts [0, 1] rfl)⟩, q3_of g hK ht hW⟩, g.2.2.1.F ht⟩) g.2.2.1.2.2 dX14_holds_145
            · have fc_62 := neq_f c_62
              refine lv_iconst (v := 1) hx hb dX14_holds_90 (by decide) ?_
              refine lv_goto (tgt := 95) hx hb dX14_holds_91 (by decide) ?_
              refine lv_istore (lv' := [(7, .int 1), (0, .ref a0_), (1, .int x1_), (2, .int x2_), (3, .int x3_), (4, .int x4_), (5, .int x5_), (6, .int x6_)]) hx hb dX14_holds_95 hl (by decide) rfl (fun ls hl => ?_)
              refine lv_goto (tgt := 133) hx hb dX14_holds_97 (by decide) ?_
              refine lv_aload_n hx hb dX14_holds_133 rfl (lv_at hl 1 rfl) ?_
              refine lv_iconst (v := 0) hx hb dX14_holds_134 (by decide) ?_
              have go_ := g
              refine g_put (C := RX14) (T := TX14) (N := 67) hx hb hts (mc_ inX14) tyX14 tyX14_ok nmX14 hown hK g ma0_ ka0_ (by decide) rfl 36 (by decide) (hts _ (List.mem_cons_of_mem _ t_2182)) (fun _ h9 => h9) rfl rfl (okV_i (bd_sub kb_0 (by decide))) rfl rfl (by decide) (Or.inr (Or.inl (by decide))) (fx' := [(14, 35, a0_, .int 0), (14, 34, a0_, .int x_57), (14, 37, a0_, .int 0), (14, 43, a0_, .ref a_7), (14, 1, a0_, .ref q0_)]) rfl dX14_holds_135 (fun f H locs hM_72 g => ?_)
              have hG_73 := OA.frame hM_72 go_.2.2.2.1 ma0_ ka0_ (by decide) (by decide) hG_60
              have hG_74 := isV.frame hM_72 go_.2.2.2.1 mq0_ kq0_ (by decide) (by decide) hG_61
              have hG_75 := RA.frame hM_72 go_.2.2.2.1 ma0_ ka0_ (by decide) (by decide) hG_56
              refine lv_aload_n hx hb dX14_holds_138 rfl (lv_at hl 1 rfl) ?_
              refine lv_iconst (v := 0) hx hb dX14_holds_139 (by decide) ?_
              have go_ := g
              refine g_put (C := RX14) (T := TX14) (N := 67) hx hb hts (mc_ inX14) tyX14 tyX14_ok nmX14 hown hK g ma0_ ka0_ (by decide) rfl 37 (by decide) (hts _ (List.mem_cons_of_mem _ t_2183)) (fun _ h9 => h9) rfl rfl (okV_i (bd_sub kb_0 (by decide))) rfl rfl (by decide) (Or.inr (Or.inl (by decide))) (fx' := [(14, 36, a0_, .int 0), (14, 35, a0_, .int 0), (14, 34, a0_, .int x_57), (14, 43, a0_, .ref a_7), (14, 1, a0_, .ref q0_)]) rfl dX14_holds_140 (fun f H locs hM_76 g => ?_)
              have hG_77 := OA.frame hM_76 go_.2.2.2.1 ma0_ ka0_ (by decide) (by decide) hG_73
              have hG_78 := isV.frame hM_76 go_.2.2.2.1 mq0_ kq0_ (by decide) (by decide) hG_74
              have hG_79 := RA.frame hM_76 go_.2.2.2.1 ma0_ ka0_ (by decide) (by decide) hG_75
              refine lv_iload hx hb dX14_holds_143 (lv_at hl 0 rfl) ?_
              subst hQ
              exact W.iret (v := 1) hx hb hr (fun t ht hW => ⟨⟨_, _, rfl, ⟨(bd_sub kb_1 (by decide)), (g.fcts [0, 1] rfl)⟩, q3_of g hK ht hW⟩, g.2.2.1.F ht⟩) g.2.2.1.2.2 dX14_holds_145
        · have fc_21 := eq_f c_21
          have b_80 : bd 4 4 x5_ := eqX fc_21 (bdT x5_) kb_4 (by decide)
          refine lv_iconst (v := 1) hx hb dX14_holds_74 (by decide) ?_
          refine lv_goto (tgt := 79) hx hb dX14_holds_75 (by decide) ?_
          have go_ := g
          refine g_put (C := RX14) (T := TX14) (N := 67) hx hb hts (mc_ inX14) tyX14 tyX14_ok nmX14 hown hK g ma0_ ka0_ (by decide) rfl 37 (by decide) (hts _ (List.mem_cons_of_mem _ t_2183)) (fun _ h9 => h9) rfl rfl (okV_i (bd_sub kb_1 (by decide))) rfl rfl (by decide) (Or.inr (Or.inl (by decide))) (fx' := [(14, 36, a0_, .int 1), (14, 43, a0_, .ref a_7), (14, 35, a0_, .int 0), (14, 34, a0_, .int 0), (14, 1, a0_, .ref q0_)]) rfl dX14_holds_79 (fun f H locs hM_81 g => ?_)
          have hG_82 := OA.frame hM_81 go_.2.2.2.1 ma0_ ka0_ (by decide) (by decide) hG_18
          have hG_83 := isV.frame hM_81 go_.2.2.2.1 mq0_ kq0_ (by decide) (by decide) hG_19
          have hG_84 := RA.frame hM_81 go_.2.2.2.1 ma0_ ka0_ (by decide) (by decide) hG_20
          refine lv_aload_n hx hb dX14_holds_82 rfl (lv_at hl 1 rfl) ?_
          refine lv_iload_n hx hb dX14_holds_83 rfl (lv_at hl 2 rfl) ?_
          have go_ := g
          refine g_callEi (As := [.int x1_]) (rest := []) ⟨hx, hb, hml, hown, hts⟩ ((recAll 967).1 l dC dI L kd tys f H.size g.2.2.2.1 a0_ ma0_ ka0_ x1_ q0_ mq0_ kq0_ V_ δ_ hW (0 : Int32) (bd_sub kb_0 (by decide)) (0 : Int32) (bd_sub kb_0 (by decide)) (fun _ => x4_) O_ hG_83 hG_84 d_ hcl 13 hE (by decide) (g.fcts [5, 3, 4] rfl)) (cwV 1 hts (gV_ t_2634 t_2636 t_146 t_198 t_2637) rfl rfl rfl (by decide +kernel) ⟨(Nat.le_of_ble_eq_true rfl), (Nat.le_of_ble_eq_true rfl)⟩) (pre3V g hK ma0_ ka0_ (by decide) (q := (RX14, TX14, 67)) rfl) rfl hl.1 rfl (lv_room (Nat.le_of_ble_eq_true rfl)) dX14_holds_84 ⟨(Nat.le_of_ble_eq_true rfl), (Nat.le_of_ble_eq_true rfl)⟩ g hK (by decide) (by decide) (fx' := [(14, 37, a0_, .int 1), (14, 36, a0_, .int 1), (14, 43, a0_, .ref a_7), (14, 1, a0_, .ref q0_)]) rfl (fun xr_85 fr_85 H locs mxr_85 kxr_85 hp hMr_85 g => ?_) (fun r_85 fr_85 H locs hp hMr_85 g => ?_)
          · have hG_86 := OA.frame hMr_85 go_.2.2.2.1 ma0_ ka0_ (by decide) (by decide) hG_82
            have hG_87 := isV.frame hMr_85 go_.2.2.2.1 mq0_ kq0_ (by decide) (by decide) hG_83
            refine WX.caught (sp := 82) (ep := 97) (hp := 100) (ct := 7) (name := RX13) hown htab (by decide) (by decide) (by decide) (hts _ (List.mem_cons_of_mem _ t_1836)) (g_recv g hK mxr_85 kxr_85 (by decide) rfl) hAm.1.2.2 ?_
            refine lv_astore (lv' := [(8, .ref xr_85), (7, .int v21_7), (0, .ref a0_), (1, .int x1_), (2, .int x2_), (3, .int x3_), (4, .int x4_), (5, .int x5_), (6, .int x6_)]) hx hb dX14_holds_100 hl (by decide) rfl (fun ls hl => ?_)
            refine lv_iconst (v := (-1)) hx hb dX14_holds_102 (by decide) ?_
            refine lv_istore (lv' := [(7, .int (-1)), (8, .ref xr_85), (0, .ref a0_), (1, .int x1_), (2, .int x2_), (3, .int x3_), (4, .int x4_), (5, .int x5_), (6, .int x6_)]) hx hb dX14_holds_103 hl (by decide) rfl (fun ls hl => ?_)
            refine lv_aload_n hx hb dX14_holds_105 rfl (lv_at hl 2 rfl) ?_
            refine lv_aload_n hx hb dX14_holds_106 rfl (lv_at hl 2 rfl) ?_
            refine g_geti (C := RX14) (T := TX14) (N := 67) hx hb hts (mc_ inX14) hown hK g ma0_ ka0_ (by decide) rfl 31 (by decide) rfl (hts _ (List.mem_cons_of_mem _ t_2177)) (fun _ h9 => h9) rfl dX14_holds_107 (fun x_88 bx_88 g => ?_)
            refine lv_iconst (v := 3) hx hb dX14_holds_110 (by decide) ?_
            refine lv_icmp_ne (tgt := 118) hx hb dX14_holds_111 (by decide) (fun c_89 => ?_) (fun c_89 => ?_)
            · have fc_89 := neq_f c_89
              refine lv_bipush (v := 7) hx hb dX14_holds_118 (by decide) ?_
              have kb_7 : bd 7 7 (7 : Int32) := ⟨by decide, by decide⟩
              have go_ := g
              refine g_put (C := RX14) (T := TX14) (N := 67) hx hb hts (mc_ inX14) tyX14 tyX14_ok nmX14 hown hK g ma0_ ka0_ (by decide) rfl 55 (by decide) (hts _ (List.mem_cons_of_mem _ t_2201)) (fun _ h9 => h9) rfl rfl (okV_i (bd_sub kb_7 (by decide))) rfl rfl (by decide) (Or.inr (Or.inl (by decide))) (fx' := [(14, 31, a0_, .int x_88), (14, 37, a0_, .int 1), (14, 36, a0_, .int 1), (14, 43, a0_, .ref a_7), (14, 1, a0_, .ref q0_)]) rfl dX14_holds_120 (fun f H locs hM_90 g => ?_)
              have hG_91 := OA.frame hM_90 go_.2.2.2.1 ma0_ ka0_ (by decide) (by decide) hG_86
              have hG_92 := isV.frame hM_90 go_.2.2.2.1 mq0_ kq0_ (by decide) (by decide) hG_87
              refine lv_aload_n hx hb dX14_holds_123 rfl (lv_at hl 2 rfl) ?_
              refine lv_iload_n hx hb dX14_holds_124 rfl (lv_at hl 5 rfl) ?_
              refine lv_iload hx hb dX14_holds_125 (lv_at hl 6 rfl) ?_
              refine lv_iload_n hx hb dX14_holds_127 rfl (lv_at hl 4 rfl) ?_
              refine lv_iload hx hb dX14_holds_128 (lv_at hl 7 rfl) ?_
              have go_ := g
              refine g_callv (va_runV (As := [.int x3_, .int x4_, .int x2_, .int x5_]) (rest := []) ⟨hx, hb, hml, hown, hts⟩ (r_X14_tells l dC dI L kd tys f H.size g.2.2.2.1 a0_ ma0_ ka0_ x3_ x4_ x2_ x5_) (cwV 4 hts (gV_ t_2680 t_2682 t_157 t_198 t_2683) rfl rfl rfl (by decide +kernel) ⟨(Nat.le_of_ble_eq_true rfl), (Nat.le_of_ble_eq_true rfl)⟩) (pre3V g hK ma0_ ka0_ (by decide) (q := (RX14, TX14, 67)) rfl) rfl rfl hl.1 rfl (lv_room (Nat.le_of_ble_eq_true rfl)) dX14_holds_130 ⟨(Nat.le_of_ble_eq_true rfl), (Nat.le_of_ble_eq_true rfl)⟩) g hK (by decide) (by decide) (fx' := [(14, 55, a0_, .int 7), (14, 31, a0_, .int x_88), (14, 37, a0_, .int 1), (14, 36, a0_, .int 1), (14, 43, a0_, .ref a_7), (14, 1, a0_, .ref q0_)]) rfl (fun fr_93 H locs hp hMr_93 g => ?_)
              have hG_94 := OA.frame hMr_93 go_.2.2.2.1 ma0_ ka0_ (by decide) (by decide) hG_91
              have hG_95 := isV.frame hMr_93 go_.2.2.2.1 mq0_ kq0_ (by decide) (by decide) hG_92
              refine lv_aload_n hx hb dX14_holds_133 rfl (lv_at hl 2 rfl) ?_
              refine lv_iconst (v := 0) hx hb dX14_holds_134 (by decide) ?_
              have go_ := g
              refine g_put (C := RX14) (T := TX14) (N := 67) hx hb hts (mc_ inX14) tyX14 tyX14_ok nmX14 hown hK g ma0_ ka0_ (by decide) rfl 36 (by decide) (hts _ (List.mem_cons_of_mem _ t_2182)) (fun _ h9 => h9) rfl rfl (okV_i (bd_sub kb_0 (by decide))) rfl rfl (by decide) (Or.inr (Or.inl (by decide))) (fx' := [(14, 55, a0_, .int 7), (14, 31, a0_, .int x_88), (14, 37, a0_, .int 1), (14, 43, a0_, .ref a_7), (14, 1, a0_, .ref q0_)]) rfl dX14_holds_135 (fun f H locs hM_96 g => ?_)
              have hG_97 := OA.frame hM_96 go_.2.2.2.1 ma0_ ka0_ (by decide) (by decide) hG_94
              have hG_98 := isV.frame hM_96 go_.2.2.2.1 mq0_ kq0_ (by decide) (by decide) hG_95
              refine lv_aload_n hx hb dX14_holds_138 rfl (lv_at hl 2 rfl) ?_
              refine lv_iconst (v := 0) hx hb dX14_holds_139 (by decide) ?_
              have go_ := g
              refine g_put (C := RX14) (T := TX14) (N := 67) hx hb hts (mc_ inX14) tyX14 tyX14_ok nmX14 hown hK g ma0_ ka0_ (by decide) rfl 37 (by decide) (hts _ (List.mem_cons_of_mem _ t_2183)) (fun _ h9 => h9) rfl rfl (okV_i (bd_sub kb_0 (by decide))) rfl rfl (by decide) (Or.inr (Or.inl (by decide))) (fx' := [(14, 36, a0_, .int 0), (14, 55, a0_, .int 7), (14, 31, a0_, .int x_88), (14, 43, a0_, .ref a_7), (14, 1, a0_, .ref q0_)]) rfl dX14_holds_140 (fun f H locs hM_99 g => ?_)
              have hG_100 := OA.frame hM_99 go_.2.2.2.1 ma0_ ka0_ (by decide) (by decide) hG_97
              have hG_101 := isV.frame hM_99 go_.2.2.2.1 mq0_ kq0_ (by decide) (by decide) hG_98
              refine lv_iload hx hb dX14_holds_143 (lv_at hl 0 rfl) ?_
              have kb_m1 : bd (-1) (-1) ((-1) : Int32) := ⟨by decide, by decide⟩
              subst hQ
              exact W.iret (v := (-1)) hx hb hr (fun t ht hW => ⟨⟨_, _, rfl, ⟨(bd_sub kb_m1 (by decide)), (g.fcts [0, 1] rfl)⟩, q3_of g hK ht hW⟩, g.2.2.1.F ht⟩) g.2.2.1.2.2 dX14_holds_145
            · have fc_89 := eq_f c_89
              have b_102 : bd 3 3 x_88 := eqX fc_89 (bdT x_88) kb_3 (by decide)
              refine lv_iconst (v := 5) hx hb dX14_holds_114 (by decide) ?_
              refine lv_goto (tgt := 120) hx hb dX14_holds_115 (by decide) ?_
              have kb_5 : bd 5 5 (5 : Int32) := ⟨by decide, by decide⟩
              have go_ := g
              refine g_put (C := RX14) (T := TX14) (N := 67) hx hb hts (mc_ inX14) tyX14 tyX14_ok nmX14 hown hK g ma0_ ka0_ (by decide) rfl 55 (by decide) (hts _ (List.mem_cons_of_mem _ t_2201)) (fun _ h9 => h9) rfl rfl (okV_i (bd_sub kb_5 (by decide))) rfl rfl (by decide) (Or.inr (Or.inl (by decide))) (fx' := [(14, 31, a0_, .int x_88), (14, 37, a0_, .int 1), (14, 36, a0_, .int 1), (14, 43, a0_, .ref a_7), (14, 1, a0_, .ref q0_)]) rfl dX14_holds_120 (fun f H locs hM_103 g => ?_)
              have hG_104 := OA.frame hM_103 go_.2.2.2.1 ma0_ ka0_ (by decide) (by decide) hG_86
              have hG_105 := isV.frame hM_103 go_.2.2.2.1 mq0_ kq0_ (by decide) (by decide) hG_87
              refine lv_aload_n hx hb dX14_holds_123 rfl (lv_at hl 2 rfl) ?_
              refine lv_iload_n hx hb dX14_holds_124 rfl (lv_at hl 5 rfl) ?_
              refine lv_iload hx hb dX14_holds_125 (lv_at hl 6 rfl) ?_
              refine lv_iload_n hx hb dX14_holds_127 rfl (lv_at hl 4 rfl) ?_
              refine lv_iload hx hb dX14_holds_128 (lv_at hl 7 rfl) ?_
              have go_ := g
              refine g_callv (va_runV (As := [.int x3_, .int x4_, .int x2_, .int x5_]) (rest := []) ⟨hx, hb, hml, hown, hts⟩ (r_X14_tells l dC dI L kd tys f H.size g.2.2.2.1 a0_ ma0_ ka0_ x3_ x4_ x2_ x5_) (cwV 4 hts (gV_ t_2680 t_2682 t_157 t_198 t_2683) rfl rfl rfl (by decide +kernel) ⟨(Nat.le_of_ble_eq_true rfl), (Nat.le_of_ble_eq_true rfl)⟩) (pre3V g hK ma0_ ka0_ (by decide) (q := (RX14, TX14, 67)) rfl) rfl rfl hl.1 rfl (lv_room (Nat.le_of_ble_eq_true rfl)) dX14_holds_130 ⟨(Nat.le_of_ble_eq_true rfl), (Nat.le_of_ble_eq_true rfl)⟩) g hK (by decide) (by decide) (fx' := [(14, 55, a0_, .int 5), (14, 31, a0_, .int x_88), (14, 37, a0_, .int 1), (14, 36, a0_, .int 1), (14, 43, a0_, .ref a_7), (14, 1, a0_, .ref q0_)]) rfl (fun fr_106 H locs hp hMr_106 g => ?_)
              have hG_107 := OA.frame hMr_106 go_.2.2.2.1 ma0_ ka0_ (by decide) (by decide) hG_104
              have hG_108 := isV.frame hMr_106 go_.2.2.2.1 mq0_ kq0_ (by decide) (by decide) hG_105
              refine lv_aload_n hx hb dX14_holds_133 rfl (lv_at hl 2 rfl) ?_
              refine lv_iconst (v := 0) hx hb dX14_holds_134 (by decide) ?_
              have go_ := g
              refine g_put (C := RX14) (T := TX14) (N := 67) hx hb hts (mc_ inX14) tyX14 tyX14_ok nmX14 hown hK g ma0_ ka0_ (by decide) rfl 36 (by decide) (hts _ (List.mem_cons_of_mem _ t_2182)) (fun _ h9 => h9) rfl rfl (okV_i (bd_sub kb_0 (by decide))) rfl rfl (by decide) (Or.inr (Or.inl (by decide))) (fx' := [(14, 55, a0_, .int 5), (14, 31, a0_, .int x_88), (14, 37, a0_, .int 1), (14, 43, a0_, .ref a_7), (14, 1, a0_, .ref q0_)]) rfl dX14_holds_135 (fun f H locs hM_109 g => ?_)
              have hG_110 := OA.frame hM_109 go_.2.2.2.1 ma0_ ka0_ (by decide) (by decide) hG_107
              have hG_111 := isV.frame hM_109 go_.2.2.2.1 mq0_ kq0_ (by decide) (by decide) hG_108
              refine lv_aload_n hx hb dX14_holds_138 rfl (lv_at hl 2 rfl) ?_
              refine lv_iconst (v := 0) hx hb dX14_holds_139 (by decide) ?_
              have go_ := g
              refine g_put (C := RX14) (T := TX14) (N := 67) hx hb hts (mc_ inX14) tyX14 tyX14_ok nmX14 hown hK g ma0_ ka0_ (by decide) rfl 37 (by decide) (hts _ (List.mem_cons_of_mem _ t_2183)) (fun _ h9 => h9) rfl rfl (okV_i (bd_sub kb_0 (by decide))) rfl rfl (by decide) (Or.inr (Or.inl (by decide))) (fx' := [(14, 36, a0_, .int 0), (14, 55, a0_, .int 5), (14, 31, a0_, .int x_88), (14, 43, a0_, .ref a_7), (14, 1, a0_, .ref q0_)]) rfl dX14_holds_140 (fun f H locs hM_112 g => ?_)
              have hG_113 := OA.frame hM_112 go_.2.2.2.1 ma0_ ka0_ (by decide) (by decide) hG_110
              have hG_114 := isV.frame hM_112 go_.2.2.2.1 mq0_ kq0_ (by decide) (by decide) hG_111
              refine lv_iload hx hb dX14_holds_143 (lv_at hl 0 rfl) ?_
              have kb_m1 : bd (-1) (-1) ((-1) : Int32) := ⟨by decide, by decide⟩
              subst hQ
              exact W.iret (v := (-1)) hx hb hr (fun t ht hW => ⟨⟨_, _, rfl, ⟨(bd_sub kb_m1 (by decide)), (g.fcts [0, 1] rfl)⟩, q3_of g hK ht hW⟩, g.2.2.1.F ht⟩) g.2.2.1.2.2 dX14_holds_145
          · obtain ⟨hG_115, x_116, ⟨h_117, rh_117⟩, hF_118⟩ := hp
            have hG_119 := OA.frame hMr_85 go_.2.2.2.1 ma0_ ka0_ (by decide) (by decide) hG_82
            have hG_120 := isV.frame hMr_85 go_.2.2.2.1 mq0_ kq0_ (by decide) (by decide) hG_83
            have g := g.more hF_118
            refine lv_if_eq (tgt := 94) hx hb dX14_holds_87 (by decide) (fun c_121 => ?_) (fun c_121 => ?_)
            · have fc_121 := eq_f c_121
              have b_122 : bd 0 0 r_85 := eqX fc_121 (bdT r_85) kb_0 (by decide)
              refine lv_iconst (v := 0) hx hb dX14_holds_94 (by decide) ?_
              refine lv_istore (lv' := [(7, .int 0), (0, .ref a0_), (1, .int x1_), (2, .int x2_), (3, .int x3_), (4, .int x4_), (5, .int x5_), (6, .int x6_)]) hx hb dX14_holds_95 hl (by decide) rfl (fun ls hl => ?_)
              refine lv_goto (tgt := 133) hx hb dX14_holds_97 (by decide) ?_
              refine lv_aload_n hx hb dX14_holds_133 rfl (lv_at hl 1 rfl) ?_
              refine lv_iconst (v := 0) hx hb dX14_holds_134 (by decide) ?_
              have go_ := g
              refine g_put (C := RX14) (T := TX14) (N := 67) hx hb hts (mc_ inX14) tyX14 tyX14_ok nmX14 hown hK g ma0_ ka0_ (by decide) rfl 36 (by decide) (hts _ (List.mem_cons_of_mem _ t_2182)) (fun _ h9 => h9) rfl rfl (okV_i (bd_sub kb_0 (by decide))) rfl rfl (by decide) (Or.inr (Or.inl (by decide))) (fx' := [(14, 35, a0_, .int 0), (14, 34, a0_, .int x_116), (14, 37, a0_, .int 1), (14, 43, a0_, .ref a_7), (14, 1, a0_, .ref q0_)]) rfl dX14_holds_135 (fun f H locs hM_123 g => ?_)
              have hG_124 := OA.frame hM_123 go_.2.2.2.1 ma0_ ka0_ (by decide) (by decide) hG_119
              have hG_125 := isV.frame hM_123 go_.2.2.2.1 mq0_ kq0_ (by decide) (by decide) hG_120
              have hG_126 := RA.frame hM_123 go_.2.2.2.1 ma0_ ka0_ (by decide) (by decide) hG_115
              refine lv_aload_n hx hb dX14_holds_138 rfl (lv_at hl 1 rfl) ?_
              refine lv_iconst (v := 0) hx hb dX14_holds_139 (by decide) ?_
              have go_ := g
              refine g_put (C := RX14) (T := TX14) (N := 67) hx hb hts (mc_ inX14) tyX14 tyX14_ok nmX14 hown hK g ma0_ ka0_ (by decide) rfl 37 (by decide) (hts _ (List.mem_cons_of_mem _ t_2183)) (fun _ h9 => h9) rfl rfl (okV_i (bd_sub kb_0 (by decide))) rfl rfl (by decide) (Or.inr (Or.inl (by decide))) (fx' := [(14, 36, a0_, .int 0), (14, 35, a0_, .int 0), (14, 34, a0_, .int x_116), (14, 43, a0_, .ref a_7), (14, 1, a0_, .ref q0_)]) rfl dX14_holds_140 (fun f H locs hM_127 g => ?_)
              have hG_128 := OA.frame hM_127 go_.2.2.2.1 ma0_ ka0_ (by decide) (by decide) hG_124
              have hG_129 := isV.frame hM_127 go_.2.2.2.1 mq0_ kq0_ (by decide) (by decide) hG_125
              have hG_130 := RA.frame hM_127 go_.2.2.2.1 ma0_ ka0_ (by decide) (by decide) hG_126
              refine lv_iload hx hb dX14_holds_143 (lv_at hl 0 rfl) ?_
              subst hQ
              exact W.iret (v := 0) hx hb hr (fun t ht hW => ⟨⟨_, _, rfl, ⟨(bd_sub kb_0 (by decide)), (g.fcts [0, 1] rfl)⟩, q3_of g hK ht hW⟩, g.2.2.1.F ht⟩) g.2.2.1.2.2 dX14_holds_145
            · have fc_121 := neq_f c_121
              refine lv_iconst (v := 1) hx hb dX14_holds_90 (by decide) ?_
              refine lv_goto (tgt := 95) hx hb dX14_holds_91 (by decide) ?_
              refine lv_istore (lv' := [(7, .int 1), (0, .ref a0_), (1, .int x1_), (2, .int x2_), (3, .int x3_), (4, .int x4_), (5, .int x5_), (6, .int x6_)]) hx hb dX14_holds_95 hl (by decide) rfl (fun ls hl => ?_)
              refine lv_goto (tgt := 133) hx hb dX14_holds_97 (by decide) ?_
              refine lv_aload_n hx hb dX14_holds_133 rfl (lv_at hl 1 rfl) ?_
              refine lv_iconst (v := 0) hx hb dX14_holds_134 (by decide) ?_
              have go_ := g
              refine g_put (C := RX14) (T := TX14) (N := 67) hx hb hts (mc_ inX14) tyX14 tyX14_ok nmX14 hown hK g ma0_ ka0_ (by decide) rfl 36 (by decide) (hts _ (List.mem_cons_of_mem _ t_2182)) (fun _ h9 => h9) rfl rfl (okV_i (bd_sub kb_0 (by decide))) rfl rfl (by decide) (Or.inr (Or.inl (by decide))) (fx' := [(14, 35, a0_, .int 0), (14, 34, a0_, .int x_116), (14, 37, a0_, .int 1), (14, 43, a0_, .ref a_7), (14, 1, a0_, .ref q0_)]) rfl dX14_holds_135 (fun f H locs hM_131 g => ?_)
              have hG_132 := OA.frame hM_131 go_.2.2.2.1 ma0_ ka0_ (by decide) (by decide) hG_119
              have hG_133 := isV.frame hM_131 go_.2.2.2.1 mq0_ kq0_ (by decide) (by decide) hG_120
              have hG_134 := RA.frame hM_131 go_.2.2.2.1 ma0_ ka0_ (by decide) (by decide) hG_115
              refine lv_aload_n hx hb dX14_holds_138 rfl (lv_at hl 1 rfl) ?_
              refine lv_iconst (v := 0) hx hb dX14_holds_139 (by decide) ?_
              have go_ := g
              refine g_put (C := RX14) (T := TX14) (N := 67) hx hb hts (mc_ inX14) tyX14 tyX14_ok nmX14 hown hK g ma0_ ka0_ (by decide) rfl 37 (by decide) (hts _ (List.mem_cons_of_mem _ t_2183)) (fun _ h9 => h9) rfl rfl (okV_i (bd_sub kb_0 (by decide))) rfl rfl (by decide) (Or.inr (Or.inl (by decide))) (fx' := [(14, 36, a0_, .int 0), (14, 35, a0_, .int 0), (14, 34, a0_, .int x_116), (14, 43, a0_, .ref a_7), (14, 1, a0_, .ref q0_)]) rfl dX14_holds_140 (fun f H locs hM_135 g => ?_)
              have hG_136 := OA.frame hM_135 go_.2.2.2.1 ma0_ ka0_ (by decide) (by decide) hG_132
              have hG_137 := isV.frame hM_135 go_.2.2.2.1 mq0_ kq0_ (by decide) (by decide) hG_133
              have hG_138 := RA.frame hM_135 go_.2.2.2.1 ma0_ ka0_ (by decide) (by decide) hG_134
              refine lv_iload hx hb dX14_holds_143 (lv_at hl 0 rfl) ?_
              subst hQ
              exact W.iret (v := 1) hx hb hr (fun t ht hW => ⟨⟨_, _, rfl, ⟨(bd_sub kb_1 (by decide)), (g.fcts [0, 1] rfl)⟩, q3_of g hK ht hW⟩, g.2.2.1.F ht⟩) g.2.2.1.2.2 dX14_holds_145
      · have fc_15 := nle_f c_15
        have b_139 : bd 0 2 v21_7 := ltL fc_15 bv21_7 kb_3 (by decide)
        refine lv_aload_n hx hb dX14_holds_27 rfl (lv_at hl 1 rfl) ?_
        refine g_getr (K := 218) (C := RX14) (T := TX14) (N := 67) hx hb hts (mc_ inX14) hown hK g ma0_ ka0_ (by decide) rfl 41 (by decide) rfl (hts _ (List.mem_cons_of_mem _ t_2187)) (fun _ h9 => h9) rfl dX14_holds_28 (fun a_140 ma_140 ka_140 g => ?_)
        refine lv_iload hx hb dX14_holds_31 (lv_at hl 0 rfl) ?_
        refine lv_iload hx hb dX14_holds_33 (lv_at hl 7 rfl) ?_
        refine lv_iconst (v := (-1)) hx hb dX14_holds_35 (by decide) ?_
        have kb_m1 : bd (-1) (-1) ((-1) : Int32) := ⟨by decide, by decide⟩
        refine lv_icmp_ne (tgt := 43) hx hb dX14_holds_36 (by decide) (fun c_141 => ?_) (fun c_141 => ?_)
        · have fc_141 := neq_f c_141
          have b_142 : bd 0 9 x6_ := neX fc_141 bx6_ kb_m1 (by decide)
          refine lv_aload_n hx hb dX14_holds_43 rfl (lv_at hl 1 rfl) ?_
          refine g_getr (K := 224) (C := RX14) (T := TX14) (N := 67) hx hb hts (mc_ inX14) hown hK g ma0_ ka0_ (by decide) rfl 48 (by decide) rfl (hts _ (List.mem_cons_of_mem _ t_2194)) (fun _ h9 => h9) rfl dX14_holds_44 (fun a_143 ma_143 ka_143 g => ?_)
          refine lv_iconst (v := 3) hx hb dX14_holds_47 (by decide) ?_
          refine lv_iload hx hb dX14_holds_48 (lv_at hl 7 rfl) ?_
          refine lv_imul hx hb dX14_holds_50 ?_
          refine lv_topi (fun y_144 ey_144 => ?_)
          have ty_144 := cmul_bd ey_144 (c := 3) (by decide) b_142 (by decide)
          have b_145 : bd 0 27 y_144 := mulc_rg ty_144 b_142 (by decide)
          refine lv_iload hx hb dX14_holds_51 (lv_at hl 0 rfl) ?_
          refine lv_iadd hx hb dX14_holds_53 ?_
          refine lv_topi (fun y_146 ey_146 => ?_)
          have ty_146 := add_bd ey_146 b_145 b_139 (by decide)
          have b_147 : bd 0 29 y_146 := add_rg ty_146 b_145 b_139 (by decide)
          refine g_iald hx hb hK g ma_143 ka_143 (by decide) rfl (in_bd b_147 (by decide)) dX14_holds_54 (fun x_148 bx_148 cx_148 => ?_)
          have go_ := g
          refine g_iast hx hb hK g ma_140 ka_140 (by decide) rfl (in_bd b_139 (by decide)) (bdT x_148) (by decide) dX14_holds_55 (fun f H locs hM_149 g => ?_)
          have hG_150 := OA.frame hM_149 go_.2.2.2.1 ma0_ ka0_ (by decide) (by decide) hG21_O_a0_
          have hG_151 := isV.frame hM_149 go_.2.2.2.1 mq0_ kq0_ (by decide) (by decide) hG21_V_q0_
          have hG_152 := RA.frame hM_149 go_.2.2.2.1 ma0_ ka0_ (by decide) (by decide) hG21_R_a0_
          have kb_1 : bd 1 1 (1 : Int32) := ⟨by decide, by decide⟩
          obtain ⟨y_153, ey_153⟩ : ∃ z : Int32, z = v21_7 + 1 := ⟨_, rfl⟩
          refine lv_iinc (v := y_153) (lv' := [(7, .int y_153), (0, .ref a0_), (1, .int x1_), (2, .int x2_), (3, .int x3_), (4, .int x4_), (5, .int x5_), (6, .int x6_)]) hx hb dX14_holds_56 hl (k := 0) rfl (by rw [ey_153]; rfl) (by decide) rfl (fun ls hl => ?_)
          have ty_153 := add_bd ey_153 b_139 kb_1 (by decide)
          have b_154 : bd 1 3 y_153 := add_rg ty_153 b_139 kb_1 (by decide)
          refine lv_goto (tgt := 21) hx hb dX14_holds_59 (by decide) ?_
          have hl9 := lv_sub hl [0, 1, 2, 3, 4, 5, 6, 7] (by rfl : lv_pick [(7, .int y_153), (0, .ref a0_), (1, .int x1_), (2, .int x2_), (3, .int x3_), (4, .int x4_), (5, .int x5_), (6, .int x6_)] [0, 1, 2, 3, 4, 5, 6, 7] = [(7, .int y_153), (0, .ref a0_), (1, .int x1_), (2, .int x2_), (3, .int x3_), (4, .int x4_), (5, .int x5_), (6, .int x6_)])
          have g9 := g.sub (fx' := [(14, 43, a0_, .ref a_7), (14, 35, a0_, .int 0), (14, 34, a0_, .int 0), (14, 1, a0_, .ref q0_)]) [2, 3, 4, 5] rfl
          exact ih21  y_153 (bd_sub b_154 (by decide)) (by have h9_0 := b_154; unfold bd at h9_0; have h9_1 := bv21_7; unfold bd at h9_1; have h9_2 := kb_0; unfold bd at h9_2; have h9_3 := kb_1; unfold bd at h9_3; have h9_4 := kb_3; unfold bd at h9_4; have h9_5 := kb_m1; unfold bd at h9_5; omega) _ _ _ _ g9 hG_150 hG_151 hG_152 hl9
        · have fc_141 := eq_f c_141
          have b_155 : bd (-1) (-1) x6_ := eqX fc_141 bx6_ kb_m1 (by decide)
          refine lv_iconst (v := 0) hx hb dX14_holds_39 (by decide) ?_
          refine lv_goto (tgt := 55) hx hb dX14_holds_40 (by decide) ?_
          have go_ := g
          refine g_iast hx hb hK g ma_140 ka_140 (by decide) rfl (in_bd b_139 (by decide)) (bd_sub kb_0 (by decide)) (by decide) dX14_holds_55 (fun f H locs hM_156 g => ?_)
          have hG_157 := OA.frame hM_156 go_.2.2.2.1 ma0_ ka0_ (by decide) (by decide) hG21_O_a0_
          have hG_158 := isV.frame hM_156 go_.2.2.2.1 mq0_ kq0_ (by decide) (by decide) hG21_V_q0_
          have hG_159 := RA.frame hM_156 go_.2.2.2.1 ma0_ ka0_ (by decide) (by decide) hG21_R_a0_
          have kb_1 : bd 1 1 (1 : Int32) := ⟨by decide, by decide⟩
          obtain ⟨y_160, ey_160⟩ : ∃ z : Int32, z = v21_7 + 1 := ⟨_, rfl⟩
          refine lv_iinc (v := y_160) (lv' := [(7, .int y_160), (0, .ref a0_), (1, .int x1_), (2, .int x2_), (3, .int x3_), (4, .int x4_), (5, .int x5_), (6, .int x6_)]) hx hb dX14_holds_56 hl (k := 0) rfl (by rw [ey_160]; rfl) (by decide) rfl (fun ls hl => ?_)
          have ty_160 := add_bd ey_160 b_139 kb_1 (by decide)
          have b_161 : bd 1 3 y_160 := add_rg ty_160 b_139 kb_1 (by decide)
          refine lv_goto (tgt := 21) hx hb dX14_holds_59 (by decide) ?_
          have hl9 := lv_sub hl [0, 1, 2, 3, 4, 5, 6, 7] (by rfl : lv_pick [(7, .int y_160), (0, .ref a0_), (1, .int x1_), (2, .int x2_), (3, .int x3_), (4, .int x4_), (5, .int x5_), (6, .int x6_)] [0, 1, 2, 3, 4, 5, 6, 7] = [(7, .int y_160), (0, .ref a0_), (1, .int x1_), (2, .int x2_), (3, .int x3_), (4, .int x4_), (5, .int x5_), (6, .int x6_)])
          have g9 := g.sub (fx' := [(14, 43, a0_, .ref a_7), (14, 35, a0_, .int 0), (14, 34, a0_, .int 0), (14, 1, a0_, .ref q0_)]) [1, 2, 3, 4] rfl
          exact ih21  y_160 (bd_sub b_161 (by decide)) (by have h9_0 := b_161; unfold bd at h9_0; have h9_1 := bv21_7; unfold bd at h9_1; have h9_2 := kb_0; unfold bd at h9_2; have h9_3 := kb_1; unfold bd at h9_3; have h9_4 := kb_3; unfold bd at h9_4; have h9_5 := kb_m1; unfold bd at h9_5; omega) _ _ _ _ g9 hG_157 hG_158 hG_159 hl9
  have hl9 := lv_sub hl [0, 1, 2, 3, 4, 5, 6, 7] (by rfl : lv_pick [(7, .int 0), (0, .ref a0_), (1, .int x1_), (2, .int x2_), (3, .int x3_), (4, .int x4_), (5, .int x5_), (6, .int x6_)] [0, 1, 2, 3, 4, 5, 6, 7] = [(7, .int 0), (0, .ref a0_), (1, .int x1_), (2, .int x2_), (3, .int x3_), (4, .int x4_), (5, .int x5_), (6, .int x6_)])
  have g9 := g.sub (fx' := [(14, 43, a0_, .ref a_7), (14, 35, a0_, .int 0), (14, 34, a0_, .int 0), (14, 1, a0_, .ref q0_)]) [0, 1, 2, 3] rfl
  exact loop_14 (9) 0 (bd_sub kb_0 (by decide)) (by have h9_0 := kb_0; unfold bd at h9_0; omega) _ _ _ _ g9 hG_10 hG_11 hG_13 hl9
set_option maxHeartbeats 4000000 in
set_option maxRecDepth 100000 in
theorem r_X14_isNeeded (l : Launch) (dC : Nat → ClassId) (dI : Nat → Nat → Nat) (L : List Nat) (kd : Nat → Nat) (tys : List (ClassId × FieldType)) (f0 : Nat → va_E) (sz : Nat) (hWT : WT L kd tys f0) (adK adV : Nat → Nat) (a0_ : Nat) (ma0_ : a0_ ∈ L) (ka0_ : kd a0_ = 14) (x1_ : Int32) (bx1_ : bd 0 109 x1_) (x2_ : Int32) (bx2_ : bd 0 2 x2_) (x3_ : Int32) (bx3_ : bd 0 9 x3_) (q0_ : Nat) (mq0_ : q0_ ∈ L) (kq0_ : kd q0_ = 12) (V_ : PV) (δ_ : Nat → Nat) (hW : wfP V_ δ_) (O_ : Nat → Int32) (hGOa0_ : OA f0 a0_ O_) (hGVq0_ : isV f0 q0_ V_) (ho : okc V_ (O_ x2_.toNatClampNeg)) (hfx : Fs L kd f0 [(14, 1, a0_, .ref q0_)]) : Met l yX14_isNeeded (.code yX14_isNeeded cX14_isNeeded 8 (some .int) :: lw_g) ({ frames := 974, cells := 0, slots := 0, locals := 39032 }) (va_Pc [.ref a0_, .int x1_, .int x2_, .int x3_] (P3A (dC, dI) L tys f0 sz adK adV)) (va_Qi (fun (r : Int32) (f : Nat → va_E) => (bd (-1) 1 r ∧ True)) (Q3 (dC, dI) L kd tys [(14, 31), (14, 32), (14, 33), (14, 34), (14, 35), (14, 36), (14, 37), (14, 39), (14, 40), (14, 45), (14, 55)] [200, 216, 218, 219, 220, 221, 228] f0 sz) (pA L sz)) 0 0 (pA L sz) := by
  refine Met.ofW (cc := cX14_isNeeded) (maxL := 8) (ret := (some .int)) (by decide) rfl ?_
  intro p e s m args below meth c s₁ B hml hv
  obtain ⟨rfl, ⟨hsz, hP, hK, hD0⟩, hAm⟩ := hv
  have hx := B.exec
  have hb := B.bytes
  have hr := B.returns
  have hts := atoms_spec (ws := (.code yX14_isNeeded cX14_isNeeded 8 (some .int) :: lw_g)) B.pre
  have hown : s.vm.findClass RX14 = some m.cls := findClass_of_methodNamed B.named
  have hlocks := B.notSynchronized
  subst hsz
  have g : G3 (dC, dI) L kd tys s f0 [(14, 31), (14, 32), (14, 33), (14, 34), (14, 35), (14, 36), (14, 37), (14, 39), (14, 40), (14, 45), (14, 55)] [200, 216, 218, 219, 220, 221, 228] f0 s.heap [] [(14, 1, a0_, .ref q0_)] := G3.start hP hD0 hWT hfx
  have hl := lv_entry ([.ref a0_, .int x1_, .int x2_, .int x3_]) (n := 8) (Nat.le_of_ble_eq_true rfl)
  rw [lg_entry_eq]
  generalize (lg_sl ([.ref a0_, .int x1_, .int x2_, .int x3_]) ++ List.replicate (8 - (lg_sl ([.ref a0_, .int x1_, .int x2_, .int x3_])).length) Slot.unset).toArray = ls at hl ⊢
  have hl : lv_has ls 8 [(0, .ref a0_), (1, .int x1_), (2, .int x2_), (3, .int x3_)] := hl
  refine W_q (fun Q hQ => ?_)
  refine lv_aload_n hx hb dX14_isNeeded_0 rfl (lv_at hl 0 rfl) ?_
  refine g_getr (K := 215) (C := RX14) (T := TX14) (N := 67) hx hb hts (mc_ inX14) hown hK g ma0_ ka0_ (by decide) rfl 27 (by decide) rfl (hts _ (List.mem_cons_of_mem _ t_2173)) (fun _ h9 => h9) rfl dX14_isNeeded_1 (fun a_1 ma_1 ka_1 g => ?_)
  refine lv_iload_n hx hb dX14_isNeeded_4 rfl (lv_at hl 2 rfl) ?_
  refine g_iald hx hb hK g ma_1 ka_1 (by decide) rfl (in_bd bx2_ (by decide)) dX14_isNeeded_5 (fun x_2 bx_2 cx_2 => ?_)
  have vx_2 := hGOa0_.cls g 0 rfl cx_2
  refine lv_istore (lv' := [(4, .int x_2), (0, .ref a0_), (1, .int x1_), (2, .int x2_), (3, .int x3_)]) hx hb dX14_isNeeded_6 hl (by decide) rfl (fun ls hl => ?_)
  have loop_3 : ∀ (n : Nat) (v8_4 : Int32), bd (-1) 7 v8_4 → (v8_4.toInt + 1 < (n : Int)) → ∀ (f : Nat → va_E) (H : Heap) (locs : List Loc) (ls : Array Slot), G3 (dC, dI) L kd tys s f0 [(14, 31), (14, 32), (14, 33), (14, 34), (14, 35), (14, 36), (14, 37), (14, 39), (14, 40), (14, 45), (14, 55)] [200, 216, 218, 219, 220, 221, 228] f H locs [(14, 27, a0_, .ref a_1), (14, 1, a0_, .ref q0_)] → OA f a0_ O_ → isV f q0_ V_ → (cN V_ (O_ x2_.toNatClampNeg) v8_4) → lv_has ls 8 [(4, .int v8_4), (0, .ref a0_), (1, .int x1_), (2, .int x2_), (3, .int x3_)] → W p l e ({ frames := 974, cells := 0, slots := 0, locals := 39032 } : Room) s m [.ref a0_, .int x1_, .int x2_, .int x3_].toArray below meth c H locs 0 0 Q (F0 m 8 ls []) := by
    intro n8
    induction n8 with
    | zero =>
      intro v8_4 bv8_4 hm8 f H locs ls g hG8_O_a0_ hG8_V_q0_ hI8 hl
      exact absurd hm8 (by have h9_v8_4 := bv8_4; unfold bd at h9_v8_4; omega)
    | succ n8 ih8 =>
      intro v8_4 bv8_4 hm8 f H locs ls g hG8_O_a0_ hG8_V_q0_ hI8 hl
      refine lv_iload hx hb dX14_isNeeded_8 (lv_at hl 0 rfl) ?_
      refine lv_iconst (v := (-1)) hx hb dX14_isNeeded_10 (by decide) ?_
      have kb_m1 : bd (-1) (-1) ((-1) : Int32) := ⟨by decide, by decide⟩
      refine lv_icmp_eq (tgt := 143) hx hb dX14_isNeeded_11 (by decide) (fun c_4 => ?_) (fun c_4 => ?_)
      · have fc_4 := eq_f c_4
        have b_5 : bd (-1) (-1) v8_4 := eqX fc_4 bv8_4 kb_m1 (by decide)
        refine lv_iconst (v := 0) hx hb dX14_isNeeded_143 (by decide) ?_
        have kb_0 : bd 0 0 (0 : Int32) := ⟨by decide, by decide⟩
        subst hQ
        exact W.iret (v := 0) hx hb hr (fun t ht hW => ⟨⟨_, _, rfl, ⟨(bd_sub kb_0 (by decide)), trivial⟩, q3_of g hK ht hW⟩, g.2.2.1.F ht⟩) g.2.2.1.2.2 dX14_isNeeded_144
      · have fc_4 := neq_f c_4
        have b_6 : bd 0 7 v8_4 := neX fc_4 bv8_4 kb_m1 (by decide)
        refine lv_aload_n hx hb dX14_isNeeded_14 rfl (lv_at hl 1 rfl) ?_
        refine lv_iload hx hb dX14_isNeeded_15 (lv_at hl 0 rfl) ?_
        refine lv_iload_n hx hb dX14_isNeeded_17 rfl (lv_at hl 2 rfl) ?_
        have go_ := g
        refine g_calli (va_runV (As := [.int v8_4, .int x1_]) (rest := []) ⟨hx, hb, hml, hown, hts⟩ (r_X14_toldBy l dC dI L kd tys f H.size g.2.2.2.1 a0_ ma0_ ka0_ v8_4 (bd_sub b_6 (by decide)) x1_ bx1_ q0_ mq0_ kq0_ V_ δ_ hW hG8_V_q0_ (g.fcts [1] rfl)) (cwV 2 hts (gV_ t_2692 t_2694 t_160 t_198 t_2695) rfl rfl rfl (by decide +kernel) ⟨(Nat.le_of_ble_eq_true rfl), (Nat.le_of_ble_eq_true rfl)⟩) (pre3V g hK ma0_ ka0_ (by decide) (q := (RX14, TX14, 67)) rfl) rfl rfl hl.1 rfl (lv_room (Nat.le_of_ble_eq_true rfl)) dX14_isNeeded_18 ⟨(Nat.le_of_ble_eq_true rfl), (Nat.le_of_ble_eq_true rfl)⟩) g hK (by decide) (by decide) (fx' := [(14, 27, a0_, .ref a_1), (14, 1, a0_, .ref q0_)]) rfl (fun r_7 fr_7 H locs hp hMr_7 g => ?_)
        rcases hp with ⟨h_8, -⟩ | ⟨hx_9, h_10, h_11, x_12, h_13, hF_14⟩
        · have hG_15 := OA.frame hMr_7 go_.2.2.2.1 ma0_ ka0_ (by decide) (by decide) hG8_O_a0_
          have hG_16 := isV.frame hMr_7 go_.2.2.2.1 mq0_ kq0_ (by decide) (by decide) hG8_V_q0_
          obtain rfl : r_7 = (-1) := h_8
          refine lv_istore (lv' := [(5, .int (-1)), (4, .int v8_4), (0, .ref a0_), (1, .int x1_), (2, .int x2_), (3, .int x3_)]) hx hb dX14_isNeeded_21 hl (by decide) rfl (fun ls hl => ?_)
          refine lv_iload hx hb dX14_isNeeded_23 (lv_at hl 0 rfl) ?_
          refine lv_iconst (v := (-1)) hx hb dX14_isNeeded_25 (by decide) ?_
          refine lv_icmp_ne (tgt := 32) hx hb dX14_isNeeded_26 (by decide) (fun c_ => absurd c_ (by decide)) (fun c_ => ?_)
          refine lv_goto (tgt := 128) hx hb dX14_isNeeded_29 (by decide) ?_
          refine lv_aload_n hx hb dX14_isNeeded_128 rfl (lv_at hl 2 rfl) ?_
          refine g_getk (C := RX14) (T := TX14) (N := 67) hx hb hts (mc_ inX14) hown hK g rfl 1 (by decide) rfl (hts _ (List.mem_cons_of_mem _ t_2147)) (fun _ h9 => h9) 1 rfl dX14_isNeeded_129 ?_
          refine g_getr (K := 159) (C := RX12) (T := TX12) (N := 60) hx hb hts (mc_ inX12) hown hK g mq0_ kq0_ (by decide) rfl 3 (by decide) rfl (hts _ (List.mem_cons_of_mem _ t_1912)) (fun _ h9 => h9) rfl dX14_isNeeded_132 (fun a_17 ma_17 ka_17 g => ?_)
          refine lv_iload hx hb dX14_isNeeded_135 (lv_at hl 1 rfl) ?_
          refine g_iald hx hb hK g ma_17 ka_17 (by decide) rfl (in_bd b_6 (by decide)) dX14_isNeeded_137 (fun x_18 bx_18 cx_18 => ?_)
          have vx_18 : x_18 = V_.i 3 v8_4.toNatClampNeg := hG_16.at g 0 rfl rfl cx_18
          have hltx_18 := (cN.above (x := x_18) hW (hI8.is fc_4).1 vx_18).2
          refine lv_istore (lv' := [(4, .int x_18), (5, .int (-1)), (0, .ref a0_), (1, .int x1_), (2, .int x2_), (3, .int x3_)]) hx hb dX14_isNeeded_138 hl (by decide) rfl (fun ls hl => ?_)
          refine lv_goto (tgt := 8) hx hb dX14_isNeeded_140 (by decide) ?_
          have hl9 := lv_sub hl [0, 2, 3, 4, 5] (by rfl : lv_pick [(4, .int x_18), (5, .int (-1)), (0, .ref a0_), (1, .int x1_), (2, .int x2_), (3, .int x3_)] [0, 2, 3, 4, 5] = [(4, .int x_18), (0, .ref a0_), (1, .int x1_), (2, .int x2_), (3, .int x3_)])
          have g9 := g.sub (fx' := [(14, 27, a0_, .ref a_1), (14, 1, a0_, .ref q0_)]) [1, 2] rfl
          exact ih8  x_18 bx_18 (by have h9_0 := bv8_4; unfold bd at h9_0; have h9_1 := bx_18; unfold bd at h9_1; have h9_2 := kb_m1; unfold bd at h9_2; omega) _ _ _ _ g9 hG_15 hG_16 (cN.step hW hI8 fc_4 vx_18) hl9
        · have hG_19 := OA.frame hMr_7 go_.2.2.2.1 ma0_ ka0_ (by decide) (by decide) hG8_O_a0_
          have hG_20 := isV.frame hMr_7 go_.2.2.2.1 mq0_ kq0_ (by decide) (by decide) hG8_V_q0_
          have g := g.more hF_14
          refine lv_istore (lv' := [(5, .int r_7), (4, .int v8_4), (0, .ref a0_), (1, .int x1_), (2, .int x2_), (3, .int x3_)]) hx hb dX14_isNeeded_21 hl (by decide) rfl (fun ls hl => ?_)
          refine lv_iload hx hb dX14_isNeeded_23 (lv_at hl 0 rfl) ?_
          refine lv_iconst (v := (-1)) hx hb dX14_isNeeded_25 (by decide) ?_
          refine lv_icmp_ne (tgt := 32) hx hb dX14_isNeeded_26 (by decide) (fun c_21 => ?_) (fun c_21 => ?_)
          · have fc_21 := neq_f c_21
            refine lv_iconst (v := 1) hx hb dX14_isNeeded_32 (by decide) ?_
            refine lv_istore (lv' := [(6, .int 1), (5, .int r_7), (4, .int v8_4), (0, .ref a0_), (1, .int x1_), (2, .int x2_), (3, .int x3_)]) hx hb dX14_isNeeded_33 hl (by decide) rfl (fun ls hl => ?_)
            refine lv_bipush (v := 8) hx hb dX14_isNeeded_35 (by decide) ?_
            refine lv_iload hx hb dX14_isNeeded_37 (lv_at hl 1 rfl) ?_
            refine lv_imul hx hb dX14_isNeeded_39 ?_
            refine lv_topi (fun y_22 ey_22 => ?_)
            have ty_22 := cmul_bd ey_22 (c := 8) (by decide) h_10 (by decide)
            have b_23 : bd 0 872 y_22 := mulc_rg ty_22 h_10 (by decide)
            refine lv_istore (lv' := [(7, .int y_22), (6, .int 1), (5, .int r_7), (4, .int v8_4), (0, .ref a0_), (1, .int x1_), (2, .int x2_), (3, .int x3_)]) hx hb dX14_isNeeded_40 hl (by decide) rfl (fun ls hl => ?_)
            have loop_24 : ∀ (n : Nat) (v42_7 : Int32) (v42_6 : Int32), bd 0 880 v42_7 → bd (-1) 1 v42_6 → (880 - v42_7.toInt < (n : Int)) → ∀ (f : Nat → va_E) (H : Heap) (locs : List Loc) (ls : Array Slot), G3 (dC, dI) L kd tys s f0 [(14, 31), (14, 32), (14, 33), (14, 34), (14, 35), (14, 36), (14, 37), (14, 39), (14, 40), (14, 45), (14, 55)] [200, 216, 218, 219, 220, 221, 228] f H locs [(12, 27, q0_, .int x_12), (14, 27, a0_, .ref a_1), (14, 1, a0_, .ref q0_)] → OA f a0_ O_ → isV f q0_ V_ → (8 * r_7.toInt ≤ v42_7.toInt) → lv_has ls 8 [(7, .int v42_7), (6, .int v42_6), (5, .int r_7), (4, .int v8_4), (0, .ref a0_), (1, .int x1_), (2, .int x2_), (3, .int x3_)] → W p l e ({ frames := 974, cells := 0, slots := 0, locals := 39032 } : Room) s m [.ref a0_, .int x1_, .int x2_, .int x3_].toArray below meth c H locs 0 0 Q (F0 m 42 ls []) := by
              intro n42
              induction n42 with
              | zero =>
                intro v42_7 v42_6 bv42_7 bv42_6 hm42 f H locs ls g hG42_O_a0_ hG42_V_q0_ hI42 hl
                exact absurd hm42 (by have h9_v42_7 := bv42_7; unfold bd at h9_v42_7; have h9_v42_6 := bv42_6; unfold bd at h9_v42_6; omega)
              | succ n42 ih42 =>
                intro v42_7 v42_6 bv42_7 bv42_6 hm42 f H locs ls g hG42_O_a0_ hG42_V_q0_ hI42 hl
                refine lv_iload hx hb dX14_isNeeded_42 (lv_at hl 0 rfl) ?_
                refine lv_bipush (v := 8) hx hb dX14_isNeeded_44 (by decide) ?_
                refine lv_iload hx hb dX14_isNeeded_46 (lv_at hl 2 rfl) ?_
                refine lv_imul hx hb dX14_isNeeded_48 ?_
                refine lv_topi (fun y_25 ey_25 => ?_)
                obtain rfl : y_22 = y_25 := ey_22.trans ey_25.symm
                refine lv_aload_n hx hb dX14_isNeeded_49 rfl (lv_at hl 4 rfl) ?_
                refine g_getk (C := RX14) (T := TX14) (N := 67) hx hb hts (mc_ inX14) hown hK g rfl 1 (by decide) rfl (hts _ (List.mem_cons_of_mem _ t_2147)) (fun _ h9 => h9) 2 rfl dX14_isNeeded_50 ?_
                refine g_getr (K := 178) (C := RX12) (T := TX12) (N := 60) hx hb hts (mc_ inX12) hown hK g mq0_ kq0_ (by decide) rfl 22 (by decide) rfl (hts _ (List.mem_cons_of_mem _ t_1950)) (fun _ h9 => h9) rfl dX14_isNeeded_53 (fun a_26 ma_26 ka_26 g => ?_)
                refine lv_iload hx hb dX14_isNeeded_56 (lv_at hl 2 rfl) ?_
                refine g_iald hx hb hK g ma_26 ka_26 (by decide) rfl (in_bd h_10 (by decide)) dX14_isNeeded_58 (fun x_27 bx_27 cx_27 => ?_)
                have vx_27 : x_27 = V_.i 22 r_7.toNatClampNeg := hG42_V_q0_.at g 0 rfl rfl cx_27
                refine lv_iadd hx hb dX14_isNeeded_59 ?_
                refine lv_topi (fun y_28 ey_28 => ?_)
                have ty_28 := add_bd ey_28 b_23 bx_27 (by decide)
                have b_29 : bd 0 880 y_28 := add_rg ty_28 b_23 bx_27 (by decide)
                refine lv_icmp_ge (tgt := 120) hx hb dX14_isNeeded_60 (by decide) (fun c_30 => ?_) (fun c_30 => ?_)
                · have fc_30 := le_f c_30
                  refine lv_iload hx hb dX14_isNeeded_120 (lv_at hl 1 rfl) ?_
                  have kb_0 : bd 0 0 (0 : Int32) := ⟨by decide, by decide⟩
                  refine lv_if_eq (tgt := 128) hx hb dX14_isNeeded_122 (by decide) (fun c_31 => ?_) (fun c_31 => ?_)
                  · have fc_31 := eq_f c_31
                    have b_32 : bd 0 0 v42_6 := eqX fc_31 bv42_6 kb_0 (by decide)
                    refine lv_aload_n hx hb dX14_isNeeded_128 rfl (lv_at hl 4 rfl) ?_
                    refine g_getk (C := RX14) (T := TX14) (N := 67) hx hb hts (mc_ inX14) hown hK g rfl 1 (by decide) rfl (hts _ (List.mem_cons_of_mem _ t_2147)) (fun _ h9 => h9) 3 rfl dX14_isNeeded_129 ?_
                    refine g_getr (K := 159) (C := RX12) (T := TX12) (N := 60) hx hb hts (mc_ inX12) hown hK g mq0_ kq0_ (by decide) rfl 3 (by decide) rfl (hts _ (List.mem_cons_of_mem _ t_1912)) (fun _ h9 => h9) rfl dX14_isNeeded_132 (fun a_33 ma_33 ka_33 g => ?_)
                    refine lv_iload hx hb dX14_isNeeded_135 (lv_at hl 3 rfl) ?_
                    refine g_iald hx hb hK g ma_33 ka_33 (by decide) rfl (in_bd b_6 (by decide)) dX14_isNeeded_137 (fun x_34 bx_34 cx_34 => ?_)
                    have vx_34 : x_34 = V_.i 3 v8_4.toNatClampNeg := hG42_V_q0_.at g 0 rfl rfl cx_34
                    have hltx_34 := (cN.above (x := x_34) hW (hI8.is fc_4).1 vx_34).2
                    refine lv_istore (lv' := [(4, .int x_34), (7, .int v42_7), (6, .int v42_6), (5, .int r_7), (0, .ref a0_), (1, .int x1_), (2, .int x2_), (3, .int x3_)]) hx hb dX14_isNeeded_138 hl (by decide) rfl (fun ls hl => ?_)
                    refine lv_goto (tgt := 8) hx hb dX14_isNeeded_140 (by decide) ?_
                    have hl9 := lv_sub hl [0, 4, 5, 6, 7] (by rfl : lv_pick [(4, .int x_34), (7, .int v42_7), (6, .int v42_6), (5, .int r_7), (0, .ref a0_), (1, .int x1_), (2, .int x2_), (3, .int x3_)] [0, 4, 5, 6, 7] = [(4, .int x_34), (0, .ref a0_), (1, .int x1_), (2, .int x2_), (3, .int x3_)])
                    have g9 := g.sub (fx' := [(14, 27, a0_, .ref a_1), (14, 1, a0_, .ref q0_)]) [3, 4] rfl
                    exact ih8  x_34 bx_34 (by have h9_0 := bv8_4; unfold bd at h9_0; have h9_1 := bx_34; unfold bd at h9_1; have h9_2 := kb_0; unfold bd at h9_2; have h9_3 := kb_m1; unfold bd at h9_3; omega) _ _ _ _ g9 hG42_O_a0_ hG42_V_q0_ (cN.step hW hI8 fc_4 vx_34) hl9
                  · have fc_31 := neq_f c_31
                    refine lv_iload hx hb dX14_isNeeded_125 (lv_at hl 1 rfl) ?_
                    subst hQ
                    exact W.iret (v := v42_6) hx hb hr (fun t ht hW => ⟨⟨_, _, rfl, ⟨bv42_6, trivial⟩, q3_of g hK ht hW⟩, g.2.2.1.F ht⟩) g.2.2.1.2.2 dX14_isNeeded_127
                · have fc_30 := nle_f c_30
                  have b_35 : bd 0 879 v42_7 := ltL fc_30 bv42_7 b_29 (by decide)
                  have b_36 : bd 1 880 y_28 := ltR fc_30 bv42_7 b_29 (by decide)
                  refine lv_iload hx hb dX14_isNeeded_63 (lv_at hl 1 rfl) ?_
                  refine lv_iconst (v := 1) hx hb dX14_isNeeded_65 (by decide) ?_
                  have kb_1 : bd 1 1 (1 : Int32) := ⟨by decide, by decide⟩
                  refine lv_icmp_ne (tgt := 120) hx hb dX14_isNeeded_66 (by decide) (fun c_37 => ?_) (fun c_37 => ?_)
                  · have fc_37 := neq_f c_37
                    have b_38 : bd (-1) 0 v42_6 := neX fc_37 bv42_6 kb_1 (by decide)
                    refine lv_iload hx hb dX14_isNeeded_120 (lv_at hl 1 rfl) ?_
                    have kb_0 : bd 0 0 (0 : Int32) := ⟨by decide, by decide⟩
                    refine lv_if_eq (tgt := 128) hx hb dX14_isNeeded_122 (by decide) (fun c_39 => ?_) (fun c_39 => ?_)
                    · have fc_39 := eq_f c_39
                      have b_40 : bd 0 0 v42_6 := eqX fc_39 b_38 kb_0 (by decide)
                      refine lv_aload_n hx hb dX14_isNeeded_128 rfl (lv_at hl 4 rfl) ?_
                      refine g_getk (C := RX14) (T := TX14) (N := 67) hx hb hts (mc_ inX14) hown hK g rfl 1 (by decide) rfl (hts _ (List.mem_cons_of_mem _ t_2147)) (fun _ h9 => h9) 3 rfl dX14_isNeeded_129 ?_
                      refine g_getr (K := 159) (C := RX12) (T := TX12) (N := 60) hx hb hts (mc_ inX12) hown hK g mq0_ kq0_ (by decide) rfl 3 (by decide) rfl (hts _ (List.mem_cons_of_mem _ t_1912)) (fun _ h9 => h9) rfl dX14_isNeeded_132 (fun a_41 ma_41 ka_41 g => ?_)
                      refine lv_iload hx hb dX14_isNeeded_135 (lv_at hl 3 rfl) ?_
                      refine g_iald hx hb hK g ma_41 ka_41 (by decide) rfl (in_bd b_6 (by decide)) dX14_isNeeded_137 (fun x_42 bx_42 cx_42 => ?_)
                      have vx_42 : x_42 = V_.i 3 v8_4.toNatClampNeg := hG42_V_q0_.at g 0 rfl rfl cx_42
                      have hltx_42 := (cN.above (x := x_42) hW (hI8.is fc_4).1 vx_42).2
                      refine lv_istore (lv' := [(4, .int x_42), (7, .int v42_7), (6, .int v42_6), (5, .int r_7), (0, .ref a0_), (1, .int x1_), (2, .int x2_), (3, .int x3_)]) hx hb dX14_isNeeded_138 hl (by decide) rfl (fun ls hl => ?_)
                      refine lv_goto (tgt := 8) hx hb dX14_isNeeded_140 (by decide) ?_
                      have hl9 := lv_sub hl [0, 4, 5, 6, 7] (by rfl : lv_pick [(4, .int x_42), (7, .int v42_7), (6, .int v42_6), (5, .int r_7), (0, .ref a0_), (1, .int x1_), (2, .int x2_), (3, .int x3_)] [0, 4, 5, 6, 7] = [(4, .int x_42), (0, .ref a0_), (1, .int x1_), (2, .int x2_), (3, .int x3_)])
                      have g9 := g.sub (fx' := [(14, 27, a0_, .ref a_1), (14, 1, a0_, .ref q0_)]) [3, 4] rfl
                      exact ih8  x_42 bx_42 (by have h9_0 := bv8_4; unfold bd at h9_0; have h9_1 := bx_42; unfold bd at h9_1; have h9_2 := kb_0; unfold bd at h9_2; have h9_3 := kb_1; unfold bd at h9_3; have h9_4 := kb_m1; unfold bd at h9_4; omega) _ _ _ _ g9 hG42_O_a0_ hG42_V_q0_ (cN.step hW hI8 fc_4 vx_42) hl9
                    · have fc_39 := neq_f c_39
                      have b_43 : bd (-1) (-1) v42_6 := neX fc_39 b_38 kb_0 (by decide)
                      refine lv_iload hx hb dX14_isNeeded_125 (lv_at hl 1 rfl) ?_
                      subst hQ
                      exact W.iret (v := v42_6) hx hb hr (fun t ht hW => ⟨⟨_, _, rfl, ⟨(bd_sub b_43 (by decide)), trivial⟩, q3_of g hK ht hW⟩, g.2.2.1.F ht⟩) g.2.2.1.2.2 dX14_isNeeded_127
                  · have fc_37 := eq_f c_37
                    have b_44 : bd 1 1 v42_6 := eqX fc_37 bv42_6 kb_1 (by decide)
                    refine lv_aload_n hx hb dX14_isNeeded_69 rfl (lv_at hl 4 rfl) ?_
                    refine g_getk (C := RX14) (T := TX14) (N := 67) hx hb hts (mc_ inX14) hown hK g rfl 1 (by decide) rfl (hts _ (List.mem_cons_of_mem _ t_2147)) (fun _ h9 => h9) 3 rfl dX14_isNeeded_70 ?_
                    refine g_getr (K := 183) (C := RX12) (T := TX12) (N := 60) hx hb hts (mc_ inX12) hown hK g mq0_ kq0_ (by decide) rfl 28 (by decide) rfl (hts _ (List.mem_cons_of_mem _ t_1961)) (fun _ h9 => h9) rfl dX14_isNeeded_73 (fun a_45 ma_45 ka_45 g => ?_)
                    refine lv_iload hx hb dX14_isNeeded_76 (lv_at hl 0 rfl) ?_
                    refine g_iald hx hb hK g ma_45 ka_45 (by decide) rfl (in_bd b_35 (by decide)) dX14_isNeeded_78 (fun x_46 bx_46 cx_46 => ?_)
                    have vx_46 : x_46 = V_.i 28 v42_7.toNatClampNeg := hG42_V_q0_.at g 0 rfl rfl cx_46
                    refine lv_iconst (v := 1) hx hb dX14_isNeeded_79 (by decide) ?_
                    refine lv_icmp_ne (tgt := 114) hx hb dX14_isNeeded_80 (by decide) (fun c_47 => ?_) (fun c_47 => ?_)
                    · have fc_47 := neq_f c_47
                      obtain ⟨y_48, ey_48⟩ : ∃ z : Int32, z = v42_7 + 1 := ⟨_, rfl⟩
                      refine lv_iinc (v := y_48) (lv' := [(7, .int y_48), (6, .int v42_6), (5, .int r_7), (4, .int v8_4), (0, .ref a0_), (1, .int x1_), (2, .int x2_), (3, .int x3_)]) hx hb dX14_isNeeded_114 hl (k := 0) rfl (by rw [ey_48]; rfl) (by decide) rfl (fun ls hl => ?_)
                      have ty_48 := add_bd ey_48 b_35 kb_1 (by decide)
                      have b_49 : bd 1 880 y_48 := add_rg ty_48 b_35 kb_1 (by decide)
                      refine lv_goto (tgt := 42) hx hb dX14_isNeeded_117 (by decide) ?_
                      have hl9 := lv_sub hl [0, 1, 2, 3, 4, 5, 6, 7] (by rfl : lv_pick [(7, .int y_48), (6, .int v42_6), (5, .int r_7), (4, .int v8_4), (0, .ref a0_), (1, .int x1_), (2, .int x2_), (3, .int x3_)] [0, 1, 2, 3, 4, 5, 6, 7] = [(7, .int y_48), (6, .int v42_6), (5, .int r_7), (4, .int v8_4), (0, .ref a0_), (1, .int x1_), (2, .int x2_), (3, .int x3_)])
                      have g9 := g.sub (fx' := [(12, 27, q0_, .int x_12), (14, 27, a0_, .ref a_1), (14, 1, a0_, .ref q0_)]) [2, 3, 4] rfl
                      exact ih42  y_48 v42_6 (bd_sub b_49 (by decide)) (bd_sub b_44 (by decide)) (by have h9_0 := b_44; unfold bd at h9_0; have h9_1 := b_49; unfold bd at h9_1; have h9_2 := bv42_6; unfold bd at h9_2; have h9_3 := bv42_7; unfold bd at h9_3; have h9_4 := kb_1; unfold bd at h9_4; have h9_5 := kb_m1; unfold bd at h9_5; omega) _ _ _ _ g9 hG42_O_a0_ hG42_V_q0_ (by have h9_0 := h_10; unfold bd at h9_0; have h9_1 := b_44; unfold bd at h9_1; have h9_2 := b_35; unfold bd at h9_2; have h9_3 := b_6; unfold bd at h9_3; have h9_4 := bx1_; unfold bd at h9_4; have h9_5 := bx2_; unfold bd at h9_5; have h9_6 := bx3_; unfold bd at h9_6; have h9_7 := h_13; unfold bd at h9_7; have h9_8 := bx_2; unfold bd at h9_8; have h9_9 := bx_27; unfold bd at h9_9; have h9_10 := b_23; unfold bd at h9_10; have h9_11 := b_36; unfold bd at h9_11; have h9_12 := b_49; unfold bd at h9_12; have h8_0 := kb_1; unfold bd at h8_0; have h8_1 := kb_m1; unfold bd at h8_1; omega) hl9
                    · have fc_47 := eq_f c_47
                      have b_50 : bd 1 1 x_46 := eqX fc_47 (bdT x_46) kb_1 (by decide)
                      refine lv_aload_n hx hb dX14_isNeeded_83 rfl (lv_at hl 4 rfl) ?_
                      refine lv_aload_n hx hb dX14_isNeeded_84 rfl (lv_at hl 4 rfl) ?_
                      refine g_getk (C := RX14) (T := TX14) (N := 67) hx hb hts (mc_ inX14) hown hK g rfl 1 (by decide) rfl (hts _ (List.mem_cons_of_mem _ t_2147)) (fun _ h9 => h9) 4 rfl dX14_isNeeded_85 ?_
                      refine g_getr (K := 184) (C := RX12) (T := TX12) (N := 60) hx hb hts (mc_ inX12) hown hK g mq0_ kq0_ (by decide) rfl 29 (by decide) rfl (hts _ (List.mem_cons_of_mem _ t_1963)) (fun _ h9 => h9) rfl dX14_isNeeded_88 (fun a_51 ma_51 ka_51 g => ?_)
                      refine lv_iload hx hb dX14_isNeeded_91 (lv_at hl 0 rfl) ?_
                      refine g_iald hx hb hK g ma_51 ka_51 (by decide) rfl (in_bd b_35 (by decide)) dX14_isNeeded_93 (fun x_52 bx_52 cx_52 => ?_)
                      have vx_52 : x_52 = V_.i 29 v42_7.toNatClampNeg := hG42_V_q0_.at g 0 rfl rfl cx_52
                      refine lv_aload_n hx hb dX14_isNeeded_94 rfl (lv_at hl 4 rfl) ?_
                      refine g_getk (C := RX14) (T := TX14) (N := 67) hx hb hts (mc_ inX14) hown hK g rfl 1 (by decide) rfl (hts _ (List.mem_cons_of_mem _ t_2147)) (fun _ h9 => h9) 5 rfl dX14_isNeeded_95 ?_
                      refine g_getr (K := 185) (C := RX12) (T := TX12) (N := 60) hx hb hts (mc_ inX12) hown hK g mq0_ kq0_ (by decide) rfl 30 (by decide) rfl (hts _ (List.mem_cons_of_mem _ t_1965)) (fun _ h9 => h9) rfl dX14_isNeeded_98 (fun a_53 ma_53 ka_53 g => ?_)
                      refine lv_iload hx hb dX14_isNeeded_101 (lv_at hl 0 rfl) ?_
                      refine g_iald hx hb hK g ma_53 ka_53 (by decide) rfl (in_bd b_35 (by decide)) dX14_isNeeded_103 (fun x_54 bx_54 cx_54 => ?_)
                      have vx_54 : x_54 = V_.i 30 v42_7.toNatClampNeg := hG42_V_q0_.at g 0 rfl rfl cx_54
                      refine lv_iload hx hb dX14_isNeeded_104 (lv_at hl 3 rfl) ?_
                      refine lv_iload_n hx hb dX14_isNeeded_106 rfl (lv_at hl 6 rfl) ?_
                      refine lv_iconst (v := 1) hx hb dX14_isNeeded_107 (by decide) ?_
                      refine lv_iload_n hx hb dX14_isNeeded_108 rfl (lv_at hl 7 rfl) ?_
                      have go_ := g
                      refine g_calli (va_runVH (n := 6) (As := [.int x_52, .int x_54, .int v8_4, .int x2_, .int 1, .int x3_]) (rest := []) ⟨hx, hb, hml, hown, hts⟩ (r_X14_holds l dC dI L kd tys f H.size g.2.2.2.1 adK adV a0_ ma0_ ka0_ x_52 x_54 v8_4 x2_ (bd_sub bx2_ (by decide)) 1 x3_ (bd_sub bx3_ (by decide)) q0_ mq0_ kq0_ V_ δ_ hW O_ hG42_O_a0_ hG42_V_q0_ v8_4.toNatClampNeg (mark_ok hW hx_9 vx_27 hI42 (by have h9_0 := h_10; unfold bd at h9_0; have h9_1 := b_44; unfold bd at h9_1; have h9_2 := b_35; unfold bd at h9_2; have h9_3 := b_6; unfold bd at h9_3; have h9_4 := bx1_; unfold bd at h9_4; have h9_5 := bx2_; unfold bd at h9_5; have h9_6 := bx3_; unfold bd at h9_6; have h9_7 := h_13; unfold bd at h9_7; have h9_8 := bx_2; unfold bd at h9_8; have h9_9 := bx_27; unfold bd at h9_9; have h9_10 := b_50; unfold bd at h9_10; have h9_11 := b_23; unfold bd at h9_11; have h9_12 := b_36; unfold bd at h9_12; have h8_0 := kb_1; unfold bd at h8_0; have h8_1 := kb_m1; unfold bd at h8_1; omega) vx_46 (by have h9 := b_50; unfold bd at h9; omega) vx_52) (hI8.is fc_4).2 (g.fcts [6] rfl)) (gI_ t_2633) List.mem_cons_self rfl rfl (Nat.le_of_ble_eq_true rfl) (Nat.le_of_ble_eq_true rfl) (hts _ (List.mem_cons_of_mem _ t_198)) (hts _ (List.mem_cons_of_mem _ t_2630)) (hts _ (List.mem_cons_of_mem _ t_2632)) (hts _ (List.mem_cons_of_mem _ t_145)) (by decide +kernel) (pre3VA g hK hAm ma0_ ka0_ (by decide) (q := (RX14, TX14, 67)) rfl) rfl rfl hl.1 rfl (lv_room (Nat.le_of_ble_eq_true rfl)) dX14_isNeeded_109 ⟨(Nat.le_of_ble_eq_true rfl), (Nat.le_of_ble_eq_true rfl)⟩) g hK (by decide) (by decide) (fx' := [(12, 30, q0_, .ref a_53), (12, 29, q0_, .ref a_51), (12, 28, q0_, .ref a_45), (12, 22, q0_, .ref a_26), (12, 27, q0_, .int x_12), (14, 27, a0_, .ref a_1), (14, 1, a0_, .ref q0_)]) rfl (fun r_55 fr_55 H locs hp hMr_55 g => ?_)
                      obtain ⟨h_56, hF_57⟩ := hp
                      have hG_58 := OA.frame hMr_55 go_.2.2.2.1 ma0_ ka0_ (by decide) (by decide) hG42_O_a0_
                      have hG_59 := isV.frame hMr_55 go_.2.2.2.1 mq0_ kq0_ (by decide) (by decide) hG42_V_q0_
                      have g := g.more hF_57
                      refine lv_istore (lv' := [(6, .int r_55), (7, .int v42_7), (5, .int r_7), (4, .int v8_4), (0, .ref a0_), (1, .int x1_), (2, .int x2_), (3, .int x3_)]) hx hb dX14_isNeeded_112 hl (by decide) rfl (fun ls hl => ?_)
                      obtain ⟨y_60, ey_60⟩ : ∃ z : Int32, z = v42_7 + 1 := ⟨_, rfl⟩
                      refine lv_iinc (v := y_60) (lv' := [(7, .int y_60), (6, .int r_55), (5, .int r_7), (4, .int v8_4), (0, .ref a0_), (1, .int x1_), (2, .int x2_), (3, .int x3_)]) hx hb dX14_isNeeded_114 hl (k := 1) rfl (by rw [ey_60]; rfl) (by decide) rfl (fun ls hl => ?_)
                      have ty_60 := add_bd ey_60 b_35 kb_1 (by decide)
                      have b_61 : bd 1 880 y_60 := add_rg ty_60 b_35 kb_1 (by decide)
                      refine lv_goto (tgt := 42) hx hb dX14_isNeeded_117 (by decide) ?_
                      have hl9 := lv_sub hl [0, 1, 2, 3, 4, 5, 6, 7] (by rfl : lv_pick [(7, .int y_60), (6, .int r_55), (5, .int r_7), (4, .int v8_4), (0, .ref a0_), (1, .int x1_), (2, .int x2_), (3, .int x3_)] [0, 1, 2, 3, 4, 5, 6, 7] = [(7, .int y_60), (6, .int r_55), (5, .int r_7), (4, .int v8_4), (0, .ref a0_), (1, .int x1_), (2, .int x2_), (3, .int x3_)])
                      have g9 := g.sub (fx' := [(12, 27, q0_, .int x_12), (14, 27, a0_, .ref a_1), (14, 1, a0_, .ref q0_)]) [6, 7, 8] rfl
                      exact ih42  y_60 r_55 (bd_sub b_61 (by decide)) h_56 (by have h9_0 := b_61; unfold bd at h9_0; have h9_1 := bv42_6; unfold bd at h9_1; have h9_2 := bv42_7; unfold bd at h9_2; have h9_3 := h_56; unfold bd at h9_3; have h9_4 := kb_1; unfold bd at h9_4; have h9_5 := kb_m1; unfold bd at h9_5; omega) _ _ _ _ g9 hG_58 hG_59 (by have h9_0 := h_56; unfold bd at h9_0; have h9_1 := h_10; unfold bd at h9_1; have h9_2 := b_44; unfold bd at h9_2; have h9_3 := b_35; unfold bd at h9_3; have h9_4 := b_6; unfold bd at h9_4; have h9_5 := bx1_; unfold bd at h9_5; have h9_6 := bx2_; unfold bd at h9_6; have h9_7 := bx3_; unfold bd at h9_7; have h9_8 := h_13; unfold bd at h9_8; have h9_9 := bx_2; unfold bd at h9_9; have h9_10 := bx_27; unfold bd at h9_10; have h9_11 := b_50; unfold bd at h9_11; have h9_12 := b_23; unfold bd at h9_12; have h9_13 := b_36; unfold bd at h9_13; have h9_14 := b_61; unfold bd at h9_14; have h8_0 := kb_1; unfold bd at h8_0; have h8_1 := kb_m1; unfold bd at h8_1; omega) hl9
            have kb_1 : bd 1 1 (1 : Int32) := ⟨by decide, by decide⟩
            have hl9 := lv_sub hl [0, 1, 2, 3, 4, 5, 6, 7] (by rfl : lv_pick [(7, .int y_22), (6, .int 1), (5, .int r_7), (4, .int v8_4), (0, .ref a0_), (1, .int x1_), (2, .int x2_), (3, .int x3_)] [0, 1, 2, 3, 4, 5, 6, 7] = [(7, .int y_22), (6, .int 1), (5, .int r_7), (4, .int v8_4), (0, .ref a0_), (1, .int x1_), (2, .int x2_), (3, .int x3_)])
            have g9 := g.sub (fx' := [(12, 27, q0_, .int x_12), (14, 27, a0_, .ref a_1), (14, 1, a0_, .ref q0_)]) [0, 1, 2] rfl
            exact loop_24 (1763) y_22 1 (bd_sub b_23 (by decide)) (bd_sub kb_1 (by decide)) (by have h9_0 := b_23; unfold bd at h9_0; have h9_1 := kb_1; unfold bd at h9_1; have h9_2 := kb_m1; unfold bd at h9_2; omega) _ _ _ _ g9 hG_19 hG_20 (by have h9_0 := h_10; unfold bd at h9_0; have h9_1 := b_6; unfold bd at h9_1; have h9_2 := bx1_; unfold bd at h9_2; have h9_3 := bx2_; unfold bd at h9_3; have h9_4 := bx3_; unfold bd at h9_4; have h9_5 := h_13; unfold bd at h9_5; have h9_6 := bx_2; unfold bd at h9_6; have h9_7 := b_23; unfold bd at h9_7; have h8_0 := kb_1; unfold bd at h8_0; have h8_1 := kb_m1; unfold bd at h8_1; omega) hl9
          · have fc_21 := eq_f c_21
            have b_62 : bd 0 (-1) r_7 := eqX fc_21 h_10 kb_m1 (by decide)
            exact bd_no b_62 (by decide)
  have hl9 := lv_sub hl [0, 1, 2, 3, 4] (by rfl : lv_pick [(4, .int x_2), (0, .ref a0_), (1, .int x1_), (2, .int x2_), (3, .int x3_)] [0, 1, 2, 3, 4] = [(4, .int x_2), (0, .ref a0_), (1, .int x1_), (2, .int x2_), (3, .int x3_)])
  have g9 := g.sub (fx' := [(14, 27, a0_, .ref a_1), (14, 1, a0_, .ref q0_)]) [0, 1] rfl
  exact loop_3 (20) x_2 bx_2 (by have h9_0 := bx_2; unfold bd at h9_0; omega) _ _ _ _ g9 hGOa0_ hGVq0_ (cN.of ho vx_2) hl9
set_option maxHeartbeats 4000000 in
set_option maxRecDepth 100000 in
theorem r_X14_calls (l : Launch) (dC : Nat → ClassId) (dI : Nat → Nat → Nat) (L : List Nat) (kd : Nat → Nat) (tys : List (ClassId × FieldType)) (f0 : Nat → va_E) (sz : Nat) (hWT : WT L kd tys f0) (adK adV : Nat → Nat) (a0_ : Nat) (ma0_ : a0_ ∈ L) (ka0_ : kd a0_ = 14) (x1_ : Int32) (bx1_ : bd 0 109 x1_) (x2_ : Int32) (bx2_ : bd 0 5 x2_) (x3_ : Int32) (bx3_ : bd 0 9 x3_) (q0_ : Nat) (mq0_ : q0_ ∈ L) (kq0_ : kd q0_ = 12) (V_ : PV) (δ_ : Nat → Nat) (hW : wfP V_ δ_) (O_ : Nat → Int32) (hGOa0_ : OA f0 a0_ O_) (hGVq0_ : isV f0 q0_ V_) (hm : ((x1_.toNatClampNeg : Nat) : Int) < (V_.n 27).toInt) (hc : cAt V_ (O_ x2_.toNatClampNeg) (V_.i 18 x1_.toNatClampNeg).toNatClampNeg) (hfx : Fs L kd f0 [(14, 1, a0_, .ref q0_)]) : Met l yX14_calls (.codeWith yX14_calls cX14_calls 5 (some .int) [(45, 56, 57, 7)] :: lw_g) ({ frames := 973, cells := 0, slots := 0, locals := 39003 }) (va_Pc [.ref a0_, .int x1_, .int x2_, .int x3_] (P3A (dC, dI) L tys f0 sz adK adV)) (va_Qi (fun (r : Int32) (f : Nat → va_E) => (bd 1 3 r ∧ True)) (Q3 (dC, dI) L kd tys [(14, 31), (14, 32), (14, 33), (14, 34), (14, 35), (14, 38), (14, 39), (14, 40), (14, 45)] [200, 216, 218, 219, 220, 221] f0 sz) (pA L sz)) 0 0 (pA L sz) := by
  refine Met.ofWH (cc := cX14_calls) (maxL := 5) (ret := (some .int)) (by decide) rfl ?_
  intro p e s m args below meth c s₁ B hml htab hv
  obtain ⟨rfl, ⟨hsz, hP, hK, hD0⟩, hAm⟩ := hv
  have hx := B.exec
  have hb := B.bytes
  have hr := B.returns
  have hts := atoms_spec (ws := (.codeWith yX14_calls cX14_calls 5 (some .int) [(45, 56, 57, 7)] :: lw_g)) B.pre
  have hown : s.vm.findClass RX14 = some m.cls := findClass_of_methodNamed B.named
  have hlocks := B.notSynchronized
  subst hsz
  have g : G3 (dC, dI) L kd tys s f0 [(14, 31), (14, 32), (14, 33), (14, 34), (14, 35), (14, 38), (14, 39), (14, 40), (14, 45)] [200, 216, 218, 219, 220, 221] f0 s.heap [] [(14, 1, a0_, .ref q0_)] := G3.start hP hD0 hWT hfx
  have hl := lv_entry ([.ref a0_, .int x1_, .int x2_, .int x3_]) (n := 5) (Nat.le_of_ble_eq_true rfl)
  rw [lg_entry_eq]
  generalize (lg_sl ([.ref a0_, .int x1_, .int x2_, .int x3_]) ++ List.replicate (5 - (lg_sl ([.ref a0_, .int x1_, .int x2_, .int x3_])).length) Slot.unset).toArray = ls at hl ⊢
  have hl : lv_has ls 5 [(0, .ref a0_), (1, .int x1_), (2, .int x2_), (3, .int x3_)] := hl
  refine W_q (fun Q hQ => ?_)
  refine lv_aload_n hx hb dX14_calls_0 rfl (lv_at hl 0 rfl) ?_
  refine lv_iconst (v := 0) hx hb dX14_calls_1 (by decide) ?_
  have kb_0 : bd 0 0 (0 : Int32) := ⟨by decide, by decide⟩
  have go_ := g
  refine g_put (C := RX14) (T := TX14) (N := 67) hx hb hts (mc_ inX14) tyX14 tyX14_ok nmX14 hown hK g ma0_ ka0_ (by decide) rfl 34 (by decide) (hts _ (List.mem_cons_of_mem _ t_2180)) (fun _ h9 => h9) rfl rfl (okV_i (bd_sub kb_0 (by decide))) rfl rfl (by decide) (Or.inr (Or.inl (by decide))) (fx' := [(14, 1, a0_, .ref q0_)]) rfl dX14_calls_2 (fun f H locs hM_1 g => ?_)
  have hG_2 := OA.frame hM_1 go_.2.2.2.1 ma0_ ka0_ (by decide) (by decide) hGOa0_
  have hG_3 := isV.frame hM_1 go_.2.2.2.1 mq0_ kq0_ (by decide) (by decide) hGVq0_
  refine lv_aload_n hx hb dX14_calls_5 rfl (lv_at hl 0 rfl) ?_
  refine lv_iconst (v := 0) hx hb dX14_calls_6 (by decide) ?_
  have go_ := g
  refine g_put (C := RX14) (T := TX14) (N := 67) hx hb hts (mc_ inX14) tyX14 tyX14_ok nmX14 hown hK g ma0_ ka0_ (by decide) rfl 35 (by decide) (hts _ (List.mem_cons_of_mem _ t_2181)) (fun _ h9 => h9) rfl rfl (okV_i (bd_sub kb_0 (by decide))) rfl rfl (by decide) (Or.inr (Or.inl (by decide))) (fx' := [(14, 34, a0_, .int 0), (14, 1, a0_, .ref q0_)]) rfl dX14_calls_7 (fun f H locs hM_4 g => ?_)
  have hG_5 := OA.frame hM_4 go_.2.2.2.1 ma0_ ka0_ (by decide) (by decide) hG_2
  have hG_6 := isV.frame hM_4 go_.2.2.2.1 mq0_ kq0_ (by decide) (by decide) hG_3
  refine lv_iconst (v := 0) hx hb dX14_calls_10 (by decide) ?_
  refine lv_istore (lv' := [(4, .int 0), (0, .ref a0_), (1, .int x1_), (2, .int x2_), (3, .int x3_)]) hx hb dX14_calls_11 hl (by decide) rfl (fun ls hl => ?_)
  have loop_7 : ∀ (n : Nat) (v13_4 : Int32), bd 0 3 v13_4 → (3 - v13_4.toInt < (n : Int)) → ∀ (f : Nat → va_E) (H : Heap) (locs : List Loc) (ls : Array Slot), G3 (dC, dI) L kd tys s f0 [(14, 31), (14, 32), (14, 33), (14, 34), (14, 35), (14, 38), (14, 39), (14, 40), (14, 45)] [200, 216, 218, 219, 220, 221] f H locs [(14, 35, a0_, .int 0), (14, 34, a0_, .int 0), (14, 1, a0_, .ref q0_)] → OA f a0_ O_ → isV f q0_ V_ → lv_has ls 5 [(4, .int v13_4), (0, .ref a0_), (1, .int x1_), (2, .int x2_), (3, .int x3_)] → W p l e ({ frames := 973, cells := 0, slots := 0, locals := 39003 } : Room) s m [.ref a0_, .int x1_, .int x2_, .int x3_].toArray below meth c H locs 0 0 Q (F0 m 13 ls []) := by
    intro n13
    induction n13 with
    | zero =>
      intro v13_4 bv13_4 hm13 f H locs ls g hG13_O_a0_ hG13_V_q0_ hl
      exact absurd hm13 (by have h9_v13_4 := bv13_4; unfold bd at h9_v13_4; omega)
    | succ n13 ih13 =>
      intro v13_4 bv13_4 hm13 f H locs ls g hG13_O_a0_ hG13_V_q0_ hl
      refine lv_iload hx hb dX14_calls_13 (lv_at hl 0 rfl) ?_
      refine lv_iconst (v := 3) hx hb dX14_calls_15 (by decide) ?_
      have kb_3 : bd 3 3 (3 : Int32) := ⟨by decide, by decide⟩
      refine lv_icmp_ge (tgt := 45) hx hb dX14_calls_16 (by decide) (fun c_8 => ?_) (fun c_8 => ?_)
      · have fc_8 := le_f c_8
        have b_9 : bd 3 3 v13_4 := leR fc_8 kb_3 bv13_4 (by decide)
        refine lv_aload_n hx hb dX14_calls_45 rfl (lv_at hl 1 rfl) ?_
        refine lv_aload_n hx hb dX14_calls_46 rfl (lv_at hl 1 rfl) ?_
        refine lv_iload_n hx hb dX14_calls_47 rfl (lv_at hl 2 rfl) ?_
        refine lv_iload_n hx hb dX14_calls_48 rfl (lv_at hl 3 rfl) ?_
        have go_ := g
        refine g_callEi (As := [.int x1_, .int x2_]) (rest := [.ref a0_]) ⟨hx, hb, hml, hown, hts⟩ ((recAll 967).2.2.2.1 l dC dI L kd tys f H.size g.2.2.2.1 a0_ ma0_ ka0_ x1_ x2_ q0_ mq0_ kq0_ V_ δ_ hW (0 : Int32) (bd_sub kb_0 (by decide)) (0 : Int32) (bd_sub kb_0 (by decide)) (fun j => aI f (rf f a0_ 43) j) O_ hG13_V_q0_ (OA.ra hG13_O_a0_) bx1_ bx2_ hm hc (by decide) (g.fcts [2, 0, 1] rfl)) (cwV 2 hts (gV_ t_2663 t_2665 t_153 t_198 t_2666) rfl rfl rfl (by decide +kernel) ⟨(Nat.le_of_ble_eq_true rfl), (Nat.le_of_ble_eq_true rfl)⟩) (pre3V g hK ma0_ ka0_ (by decide) (q := (RX14, TX14, 67)) rfl) rfl hl.1 rfl (lv_room (Nat.le_of_ble_eq_true rfl)) dX14_calls_49 ⟨(Nat.le_of_ble_eq_true rfl), (Nat.le_of_ble_eq_true rfl)⟩ g hK (by decide) (by decide) (fx' := [(14, 1, a0_, .ref q0_)]) rfl (fun xr_10 fr_10 H locs mxr_10 kxr_10 hp hMr_10 g => ?_) (fun r_10 fr_10 H locs hp hMr_10 g => ?_)
        · have hG_11 := OA.frame hMr_10 go_.2.2.2.1 ma0_ ka0_ (by decide) (by decide) hG13_O_a0_
          have hG_12 := isV.frame hMr_10 go_.2.2.2.1 mq0_ kq0_ (by decide) (by decide) hG13_V_q0_
          refine WX.caught (sp := 45) (ep := 56) (hp := 57) (ct := 7) (name := RX13) hown htab (by decide) (by decide) (by decide) (hts _ (List.mem_cons_of_mem _ t_1836)) (g_recv g hK mxr_10 kxr_10 (by decide) rfl) hAm.1.2.2 ?_
          refine lv_astore (lv' := [(4, .ref xr_10), (0, .ref a0_), (1, .int x1_), (2, .int x2_), (3, .int x3_)]) hx hb dX14_calls_57 hl (by decide) rfl (fun ls hl => ?_)
          refine lv_aload_n hx hb dX14_calls_59 rfl (lv_at hl 1 rfl) ?_
          refine lv_iconst (v := 0) hx hb dX14_calls_60 (by decide) ?_
          have go_ := g
          refine g_put (C := RX14) (T := TX14) (N := 67) hx hb hts (mc_ inX14) tyX14 tyX14_ok nmX14 hown hK g ma0_ ka0_ (by decide) rfl 38 (by decide) (hts _ (List.mem_cons_of_mem _ t_2184)) (fun _ h9 => h9) rfl rfl (okV_i (bd_sub kb_0 (by decide))) rfl rfl (by decide) (Or.inr (Or.inl (by decide))) (fx' := [(14, 1, a0_, .ref q0_)]) rfl dX14_calls_61 (fun f H locs hM_13 g => ?_)
          have hG_14 := OA.frame hM_13 go_.2.2.2.1 ma0_ ka0_ (by decide) (by decide) hG_11
          have hG_15 := isV.frame hM_13 go_.2.2.2.1 mq0_ kq0_ (by decide) (by decide) hG_12
          refine lv_aload_n hx hb dX14_calls_64 rfl (lv_at hl 1 rfl) ?_
          refine g_geti (C := RX14) (T := TX14) (N := 67) hx hb hts (mc_ inX14) hown hK g ma0_ ka0_ (by decide) rfl 31 (by decide) rfl (hts _ (List.mem_cons_of_mem _ t_2177)) (fun _ h9 => h9) rfl dX14_calls_65 (fun x_16 bx_16 g => ?_)
          refine lv_iconst (v := 2) hx hb dX14_calls_68 (by decide) ?_
          have kb_2 : bd 2 2 (2 : Int32) := ⟨by decide, by decide⟩
          refine lv_icmp_ne (tgt := 76) hx hb dX14_calls_69 (by decide) (fun c_17 => ?_) (fun c_17 => ?_)
          · have fc_17 := neq_f c_17
            refine lv_iconst (v := 2) hx hb dX14_calls_76 (by decide) ?_
            subst hQ
            exact W.iret (v := 2) hx hb hr (fun t ht hW => ⟨⟨_, _, rfl, ⟨(bd_sub kb_2 (by decide)), trivial⟩, q3_of g hK ht hW⟩, g.2.2.1.F ht⟩) g.2.2.1.2.2 dX14_calls_77
          · have fc_17 := eq_f c_17
            have b_18 : bd 2 2 x_16 := eqX fc_17 (bdT x_16) kb_2 (by decide)
            refine lv_iconst (v := 3) hx hb dX14_calls_72 (by decide) ?_
            refine lv_goto (tgt := 77) hx hb dX14_calls_73 (by decide) ?_
            subst hQ
            exact W.iret (v := 3) hx hb hr (fun t ht hW => ⟨⟨_, _, rfl, ⟨(bd_sub kb_3 (by decide)), trivial⟩, q3_of g hK ht hW⟩, g.2.2.1.F ht⟩) g.2.2.1.2.2 dX14_calls_77
        · obtain ⟨hG_19, x_20, ⟨h_21, rh_21⟩, hF_22⟩ := hp
          have hG_23 := OA.frame hMr_10 go_.2.2.2.1 ma0_ ka0_ (by decide) (by decide) hG13_O_a0_
          have hG_24 := isV.frame hMr_10 go_.2.2.2.1 mq0_ kq0_ (by decide) (by decide) hG13_V_q0_
          have g := g.more hF_22
          have go_ := g
          refine g_put (C := RX14) (T := TX14) (N := 67) hx hb hts (mc_ inX14) tyX14 tyX14_ok nmX14 hown hK g ma0_ ka0_ (by decide) rfl 38 (by decide) (hts _ (List.mem_cons_of_mem _ t_2184)) (fun _ h9 => h9) rfl rfl (okV_i (bdT r_10)) rfl rfl (by decide) (Or.inr (Or.inl (by decide))) (fx' := [(14, 35, a0_, .int 0), (14, 34, a0_, .int x_20), (14, 1, a0_, .ref q0_)]) rfl dX14_calls_52 (fun f H locs hM_25 g => ?_)
          have hG_26 := OA.frame hM_25 go_.2.2.2.1 ma0_ ka0_ (by decide) (by decide) hG_23
          have hG_27 := isV.frame hM_25 go_.2.2.2.1 mq0_ kq0_ (by decide) (by decide) hG_24
          have hG_28 := RA.frame hM_25 go_.2.2.2.1 ma0_ ka0_ (by decide) (by decide) hG_19
          refine lv_iconst (v := 1) hx hb dX14_calls_55 (by decide) ?_
          have kb_1 : bd 1 1 (1 : Int32) := ⟨by decide, by decide⟩
          subst hQ
          exact W.iret (v := 1) hx hb hr (fun t ht hW => ⟨⟨_, _, rfl, ⟨(bd_sub kb_1 (by decide)), trivial⟩, q3_of g hK ht hW⟩, g.2.2.1.F ht⟩) g.2.2.1.2.2 dX14_calls_56
      · have fc_8 := nle_f c_8
        have b_29 : bd 0 2 v13_4 := ltL fc_8 bv13_4 kb_3 (by decide)
        refine lv_aload_n hx hb dX14_calls_19 rfl (lv_at hl 1 rfl) ?_
        refine g_getr (K := 218) (C := RX14) (T := TX14) (N := 67) hx hb hts (mc_ inX14) hown hK g ma0_ ka0_ (by decide) rfl 41 (by decide) rfl (hts _ (List.mem_cons_of_mem _ t_2187)) (fun _ h9 => h9) rfl dX14_calls_20 (fun a_30 ma_30 ka_30 g => ?_)
        refine lv_iconst (v := 3) hx hb dX14_calls_23 (by decide) ?_
        refine lv_iload hx hb dX14_calls_24 (lv_at hl 0 rfl) ?_
        refine lv_iadd hx hb dX14_calls_26 ?_
        refine lv_topi (fun y_31 ey_31 => ?_)
        have ty_31 := add_bd ey_31 kb_3 b_29 (by decide)
        have b_32 : bd 3 5 y_31 := add_rg ty_31 kb_3 b_29 (by decide)
        refine lv_aload_n hx hb dX14_calls_27 rfl (lv_at hl 1 rfl) ?_
        refine g_getr (K := 224) (C := RX14) (T := TX14) (N := 67) hx hb hts (mc_ inX14) hown hK g ma0_ ka0_ (by decide) rfl 48 (by decide) rfl (hts _ (List.mem_cons_of_mem _ t_2194)) (fun _ h9 => h9) rfl dX14_calls_28 (fun a_33 ma_33 ka_33 g => ?_)
        refine lv_iconst (v := 3) hx hb dX14_calls_31 (by decide) ?_
        refine lv_iload_n hx hb dX14_calls_32 rfl (lv_at hl 4 rfl) ?_
        refine lv_imul hx hb dX14_calls_33 ?_
        refine lv_topi (fun y_34 ey_34 => ?_)
        have ty_34 := cmul_bd ey_34 (c := 3) (by decide) bx3_ (by decide)
        have b_35 : bd 0 27 y_34 := mulc_rg ty_34 bx3_ (by decide)
        refine lv_iload hx hb dX14_calls_34 (lv_at hl 0 rfl) ?_
        refine lv_iadd hx hb dX14_calls_36 ?_
        refine lv_topi (fun y_36 ey_36 => ?_)
        have ty_36 := add_bd ey_36 b_35 b_29 (by decide)
        have b_37 : bd 0 29 y_36 := add_rg ty_36 b_35 b_29 (by decide)
        refine g_iald hx hb hK g ma_33 ka_33 (by decide) rfl (in_bd b_37 (by decide)) dX14_calls_37 (fun x_38 bx_38 cx_38 => ?_)
        have go_ := g
        refine g_iast hx hb hK g ma_30 ka_30 (by decide) rfl (in_bd b_32 (by decide)) (bdT x_38) (by decide) dX14_calls_38 (fun f H locs hM_39 g => ?_)
        have hG_40 := OA.frame hM_39 go_.2.2.2.1 ma0_ ka0_ (by decide) (by decide) hG13_O_a0_
        have hG_41 := isV.frame hM_39 go_.2.2.2.1 mq0_ kq0_ (by decide) (by decide) hG13_V_q0_
        have kb_1 : bd 1 1 (1 : Int32) := ⟨by decide, by decide⟩
        obtain ⟨y_42, ey_42⟩ : ∃ z : Int32, z = v13_4 + 1 := ⟨_, rfl⟩
        refine lv_iinc (v := y_42) (lv' := [(4, .int y_42), (0, .ref a0_), (1, .int x1_), (2, .int x2_), (3, .int x3_)]) hx hb dX14_calls_39 hl (k := 0) rfl (by rw [ey_42]; rfl) (by decide) rfl (fun ls hl => ?_)
        have ty_42 := add_bd ey_42 b_29 kb_1 (by decide)
        have b_43 : bd 1 3 y_42 := add_rg ty_42 b_29 kb_1 (by decide)
        refine lv_goto (tgt := 13) hx hb dX14_calls_42 (by decide) ?_
        have hl9 := lv_sub hl [0, 1, 2, 3, 4] (by rfl : lv_pick [(4, .int y_42), (0, .ref a0_), (1, .int x1_), (2, .int x2_), (3, .int x3_)] [0, 1, 2, 3, 4] = [(4, .int y_42), (0, .ref a0_), (1, .int x1_), (2, .int x2_), (3, .int x3_)])
        have g9 := g.sub (fx' := [(14, 35, a0_, .int 0), (14, 34, a0_, .int 0), (14, 1, a0_, .ref q0_)]) [2, 3, 4] rfl
        exact ih13  y_42 (bd_sub b_43 (by decide)) (by have h9_0 := b_43; unfold bd at h9_0; have h9_1 := bv13_4; unfold bd at h9_1; have h9_2 := kb_0; unfold bd at h9_2; have h9_3 := kb_1; unfold bd at h9_3; have h9_4 := kb_3; unfold bd at h9_4; omega) _ _ _ _ g9 hG_40 hG_41 hl9
  have hl9 := lv_sub hl [0, 1, 2, 3, 4] (by rfl : lv_pick [(4, .int 0), (0, .ref a0_), (1, .int x1_), (2, .int x2_), (3, .int x3_)] [0, 1, 2, 3, 4] = [(4, .int 0), (0, .ref a0_), (1, .int x1_), (2, .int x2_), (3, .int x3_)])
  have g9 := g.sub (fx' := [(14, 35, a0_, .int 0), (14, 34, a0_, .int 0), (14, 1, a0_, .ref q0_)]) [0, 1, 2] rfl
  exact loop_7 (9) 0 (bd_sub kb_0 (by decide)) (by have h9_0 := kb_0; unfold bd at h9_0; omega) _ _ _ _ g9 hG_5 hG_6 hl9
