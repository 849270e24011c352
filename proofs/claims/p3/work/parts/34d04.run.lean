set_option maxHeartbeats 4000000 in
set_option maxRecDepth 100000 in
theorem r_X14_does (l : Launch) (dC : Nat → ClassId) (dI : Nat → Nat → Nat) (L : List Nat) (kd : Nat → Nat) (tys : List (ClassId × FieldType)) (f0 : Nat → va_E) (sz : Nat) (hWT : WT L kd tys f0) (adK adV : Nat → Nat) (a0_ : Nat) (ma0_ : a0_ ∈ L) (ka0_ : kd a0_ = 14) (x1_ : Int32) (bx1_ : bd 0 9 x1_) (q0_ : Nat) (mq0_ : q0_ ∈ L) (kq0_ : kd q0_ = 12) (n_ : Int32) (bn_ : bd 0 3 n_) (V_ : PV) (δ_ : Nat → Nat) (hW : wfP V_ δ_) (O_ : Nat → Int32) (RW_ : RW) (hGOa0_ : OA f0 a0_ O_) (hGWa0_ : isW f0 a0_ RW_) (hGVq0_ : isV f0 q0_ V_) (hob : objOK V_ O_ n_) (hdo : doOK V_ RW_ O_ x1_ n_) (hfx : Fs L kd f0 [(14, 1, a0_, .ref q0_), (14, 30, a0_, .int n_)]) : Met l yX14_does (.code yX14_does cX14_does 13 (some .boolean) :: lw_g) ({ frames := 975, cells := 0, slots := 0, locals := 39063 }) (va_Pc [.ref a0_, .int x1_] (P3A (dC, dI) L tys f0 sz adK adV)) (va_Qi (fun (r : Int32) (f : Nat → va_E) => (r = 0 ∧ True) ∨ (r = 1 ∧ True)) (Q3 (dC, dI) L kd tys [(14, 31), (14, 32), (14, 33), (14, 34), (14, 35), (14, 36), (14, 37), (14, 38), (14, 39), (14, 40), (14, 45), (14, 55)] [200, 216, 217, 218, 219, 220, 221, 225, 226, 228, 229] f0 sz) (pA L sz)) 0 0 (pA L sz) := by
  refine Met.ofW (cc := cX14_does) (maxL := 13) (ret := (some .boolean)) (by decide) rfl ?_
  intro p e s m args below meth c s₁ B hml hv
  obtain ⟨rfl, ⟨hsz, hP, hK, hD0⟩, hAm⟩ := hv
  have hx := B.exec
  have hb := B.bytes
  have hr := B.returns
  have hts := atoms_spec (ws := (.code yX14_does cX14_does 13 (some .boolean) :: lw_g)) B.pre
  have hown : s.vm.findClass RX14 = some m.cls := findClass_of_methodNamed B.named
  have hlocks := B.notSynchronized
  subst hsz
  have g : G3 (dC, dI) L kd tys s f0 [(14, 31), (14, 32), (14, 33), (14, 34), (14, 35), (14, 36), (14, 37), (14, 38), (14, 39), (14, 40), (14, 45), (14, 55)] [200, 216, 217, 218, 219, 220, 221, 225, 226, 228, 229] f0 s.heap [] [(14, 1, a0_, .ref q0_), (14, 30, a0_, .int n_)] := G3.start hP hD0 hWT hfx
  have hl := lv_entry ([.ref a0_, .int x1_]) (n := 13) (Nat.le_of_ble_eq_true rfl)
  rw [lg_entry_eq]
  generalize (lg_sl ([.ref a0_, .int x1_]) ++ List.replicate (13 - (lg_sl ([.ref a0_, .int x1_])).length) Slot.unset).toArray = ls at hl ⊢
  have hl : lv_has ls 13 [(0, .ref a0_), (1, .int x1_)] := hl
  refine W_q (fun Q hQ => ?_)
  refine lv_aload_n hx hb dX14_does_0 rfl (lv_at hl 0 rfl) ?_
  refine g_getr (K := 222) (C := RX14) (T := TX14) (N := 67) hx hb hts (mc_ inX14) hown hK g ma0_ ka0_ (by decide) rfl 46 (by decide) rfl (hts _ (List.mem_cons_of_mem _ t_2192)) (fun _ h9 => h9) rfl dX14_does_1 (fun a_1 ma_1 ka_1 g => ?_)
  refine lv_iload_n hx hb dX14_does_4 rfl (lv_at hl 1 rfl) ?_
  refine g_iald hx hb hK g ma_1 ka_1 (by decide) rfl (in_bd bx1_ (by decide)) dX14_does_5 (fun x_2 bx_2 cx_2 => ?_)
  have vx_2 := hGWa0_.at46 g 0 rfl cx_2
  refine lv_istore_n (lv' := [(2, .int x_2), (0, .ref a0_), (1, .int x1_)]) hx hb dX14_does_6 rfl hl (by decide) rfl (fun ls hl => ?_)
  refine lv_aload_n hx hb dX14_does_7 rfl (lv_at hl 1 rfl) ?_
  refine g_getk (C := RX14) (T := TX14) (N := 67) hx hb hts (mc_ inX14) hown hK g rfl 1 (by decide) rfl (hts _ (List.mem_cons_of_mem _ t_2147)) (fun _ h9 => h9) 1 rfl dX14_does_8 ?_
  refine g_getr (K := 170) (C := RX12) (T := TX12) (N := 60) hx hb hts (mc_ inX12) hown hK g mq0_ kq0_ (by decide) rfl 14 (by decide) rfl (hts _ (List.mem_cons_of_mem _ t_1934)) (fun _ h9 => h9) rfl dX14_does_11 (fun a_3 ma_3 ka_3 g => ?_)
  refine lv_bipush (v := 12) hx hb dX14_does_14 (by decide) ?_
  refine lv_aload_n hx hb dX14_does_16 rfl (lv_at hl 1 rfl) ?_
  refine g_getr (K := 215) (C := RX14) (T := TX14) (N := 67) hx hb hts (mc_ inX14) hown hK g ma0_ ka0_ (by decide) rfl 27 (by decide) rfl (hts _ (List.mem_cons_of_mem _ t_2173)) (fun _ h9 => h9) rfl dX14_does_17 (fun a_4 ma_4 ka_4 g => ?_)
  refine lv_iload_n hx hb dX14_does_20 rfl (lv_at hl 0 rfl) ?_
  refine g_iald hx hb hK g ma_4 ka_4 (by decide) rfl (in_bd bx_2 (by decide)) dX14_does_21 (fun x_5 bx_5 cx_5 => ?_)
  have vx_5 := hGOa0_.cls g 0 rfl cx_5
  have hk_6 := do_ix hdo hob vx_2 bx_2.1 vx_5
  have b_7 : bd 0 7 x_5 := ⟨hk_6.1, bx_5.2⟩
  refine lv_imul hx hb dX14_does_22 ?_
  refine lv_topi (fun y_8 ey_8 => ?_)
  have ty_8 := cmul_bd ey_8 (c := 12) (by decide) b_7 (by decide)
  have b_9 : bd 0 84 y_8 := mulc_rg ty_8 b_7 (by decide)
  refine lv_aload_n hx hb dX14_does_23 rfl (lv_at hl 1 rfl) ?_
  refine g_getr (K := 223) (C := RX14) (T := TX14) (N := 67) hx hb hts (mc_ inX14) hown hK g ma0_ ka0_ (by decide) rfl 47 (by decide) rfl (hts _ (List.mem_cons_of_mem _ t_2193)) (fun _ h9 => h9) rfl dX14_does_24 (fun a_10 ma_10 ka_10 g => ?_)
  refine lv_iload_n hx hb dX14_does_27 rfl (lv_at hl 2 rfl) ?_
  refine g_iald hx hb hK g ma_10 ka_10 (by decide) rfl (in_bd bx1_ (by decide)) dX14_does_28 (fun x_11 bx_11 cx_11 => ?_)
  have vx_11 := hGWa0_.at47 g 0 rfl cx_11
  have b_12 : bd 0 11 x_11 := ⟨(by rw [vx_11]; exact hdo.2.1), bx_11.2⟩
  refine lv_iadd hx hb dX14_does_29 ?_
  refine lv_topi (fun y_13 ey_13 => ?_)
  have ty_13 := add_bd ey_13 b_9 b_12 (by decide)
  have b_14 : bd 0 95 y_13 := add_rg ty_13 b_9 b_12 (by decide)
  refine g_iald hx hb hK g ma_3 ka_3 (by decide) rfl (in_bd b_14 (by decide)) dX14_does_30 (fun x_15 bx_15 cx_15 => ?_)
  have vx_15 : x_15 = V_.i 14 y_13.toNatClampNeg := hGVq0_.at g 2 rfl rfl cx_15
  have hm_16 := do_mem hW hdo hob vx_2 bx_2.1 vx_5 vx_11 (by have h9_0 := bn_; unfold bd at h9_0; have h9_1 := bx1_; unfold bd at h9_1; have h9_2 := b_12; unfold bd at h9_2; have h9_3 := bx_15; unfold bd at h9_3; have h9_4 := bx_2; unfold bd at h9_4; have h9_5 := b_7; unfold bd at h9_5; have h9_6 := b_14; unfold bd at h9_6; have h9_7 := b_9; unfold bd at h9_7; omega) vx_15
  refine lv_istore_n (lv' := [(3, .int x_15), (2, .int x_2), (0, .ref a0_), (1, .int x1_)]) hx hb dX14_does_31 rfl hl (by decide) rfl (fun ls hl => ?_)
  refine lv_iconst (v := 0) hx hb dX14_does_32 (by decide) ?_
  refine lv_istore (lv' := [(4, .int 0), (3, .int x_15), (2, .int x_2), (0, .ref a0_), (1, .int x1_)]) hx hb dX14_does_33 hl (by decide) rfl (fun ls hl => ?_)
  have loop_17 : ∀ (n : Nat) (v35_4 : Int32), bd 0 24 v35_4 → (24 - v35_4.toInt < (n : Int)) → ∀ (f : Nat → va_E) (H : Heap) (locs : List Loc) (ls : Array Slot), G3 (dC, dI) L kd tys s f0 [(14, 31), (14, 32), (14, 33), (14, 34), (14, 35), (14, 36), (14, 37), (14, 38), (14, 39), (14, 40), (14, 45), (14, 55)] [200, 216, 217, 218, 219, 220, 221, 225, 226, 228, 229] f H locs [(14, 47, a0_, .ref a_10), (14, 27, a0_, .ref a_4), (12, 14, q0_, .ref a_3), (14, 46, a0_, .ref a_1), (14, 1, a0_, .ref q0_), (14, 30, a0_, .int n_)] → OA f a0_ O_ → isW f a0_ RW_ → isV f q0_ V_ → lv_has ls 13 [(4, .int v35_4), (3, .int x_15), (2, .int x_2), (0, .ref a0_), (1, .int x1_)] → W p l e ({ frames := 975, cells := 0, slots := 0, locals := 39063 } : Room) s m [.ref a0_, .int x1_].toArray below meth c H locs 0 0 Q (F0 m 35 ls []) := by
    intro n35
    induction n35 with
    | zero =>
      intro v35_4 bv35_4 hm35 f H locs ls g hG35_O_a0_ hG35_W_a0_ hG35_V_q0_ hl
      exact absurd hm35 (by have h9_v35_4 := bv35_4; unfold bd at h9_v35_4; omega)
    | succ n35 ih35 =>
      intro v35_4 bv35_4 hm35 f H locs ls g hG35_O_a0_ hG35_W_a0_ hG35_V_q0_ hl
      refine lv_iload hx hb dX14_does_35 (lv_at hl 0 rfl) ?_
      refine lv_bipush (v := 24) hx hb dX14_does_37 (by decide) ?_
      have kb_24 : bd 24 24 (24 : Int32) := ⟨by decide, by decide⟩
      refine lv_icmp_ge (tgt := 67) hx hb dX14_does_39 (by decide) (fun c_18 => ?_) (fun c_18 => ?_)
      · have fc_18 := le_f c_18
        have b_19 : bd 24 24 v35_4 := leR fc_18 kb_24 bv35_4 (by decide)
        refine lv_aload_n hx hb dX14_does_67 rfl (lv_at hl 3 rfl) ?_
        refine lv_iload_n hx hb dX14_does_68 rfl (lv_at hl 1 rfl) ?_
        refine lv_iload_n hx hb dX14_does_69 rfl (lv_at hl 2 rfl) ?_
        refine lv_iload_n hx hb dX14_does_70 rfl (lv_at hl 4 rfl) ?_
        have go_ := g
        refine g_calli (va_runV (As := [.int x_15, .int x_2, .int x1_]) (rest := []) ⟨hx, hb, hml, hown, hts⟩ (r_X14_isNeeded l dC dI L kd tys f H.size g.2.2.2.1 adK adV a0_ ma0_ ka0_ x_15 bx_15 x_2 bx_2 x1_ bx1_ q0_ mq0_ kq0_ V_ δ_ hW O_ hG35_O_a0_ hG35_V_q0_ (hob.at bx_2.1 (by rw [vx_2]; exact hdo.1)) (g.fcts [4] rfl)) (cwV 3 hts (gV_ t_2688 t_2690 t_159 t_198 t_2691) rfl rfl rfl (by decide +kernel) ⟨(Nat.le_of_ble_eq_true rfl), (Nat.le_of_ble_eq_true rfl)⟩) (pre3VA g hK hAm ma0_ ka0_ (by decide) (q := (RX14, TX14, 67)) rfl) rfl rfl hl.1 rfl (lv_room (Nat.le_of_ble_eq_true rfl)) dX14_does_71 ⟨(Nat.le_of_ble_eq_true rfl), (Nat.le_of_ble_eq_true rfl)⟩) g hK (by decide) (by decide) (fx' := [(14, 47, a0_, .ref a_10), (14, 27, a0_, .ref a_4), (12, 14, q0_, .ref a_3), (14, 46, a0_, .ref a_1), (14, 1, a0_, .ref q0_), (14, 30, a0_, .int n_)]) rfl (fun r_20 fr_20 H locs hp hMr_20 g => ?_)
        obtain ⟨h_21, -⟩ := hp
        have hG_22 := OA.frame hMr_20 go_.2.2.2.1 ma0_ ka0_ (by decide) (by decide) hG35_O_a0_
        have hG_23 := isW.frame hMr_20 go_.2.2.2.1 ma0_ ka0_ (by decide) (by decide) hG35_W_a0_
        have hG_24 := isV.frame hMr_20 go_.2.2.2.1 mq0_ kq0_ (by decide) (by decide) hG35_V_q0_
        refine lv_istore (lv' := [(4, .int r_20), (3, .int x_15), (2, .int x_2), (0, .ref a0_), (1, .int x1_)]) hx hb dX14_does_74 hl (by decide) rfl (fun ls hl => ?_)
        refine lv_iload hx hb dX14_does_76 (lv_at hl 0 rfl) ?_
        refine lv_iconst (v := 1) hx hb dX14_does_78 (by decide) ?_
        have kb_1 : bd 1 1 (1 : Int32) := ⟨by decide, by decide⟩
        refine lv_icmp_eq (tgt := 94) hx hb dX14_does_79 (by decide) (fun c_25 => ?_) (fun c_25 => ?_)
        · have fc_25 := eq_f c_25
          have b_26 : bd 1 1 r_20 := eqX fc_25 h_21 kb_1 (by decide)
          refine lv_aload_n hx hb dX14_does_94 rfl (lv_at hl 3 rfl) ?_
          refine lv_iload_n hx hb dX14_does_95 rfl (lv_at hl 1 rfl) ?_
          refine lv_iload_n hx hb dX14_does_96 rfl (lv_at hl 2 rfl) ?_
          refine lv_iload_n hx hb dX14_does_97 rfl (lv_at hl 4 rfl) ?_
          have go_ := g
          refine g_calli (va_runVH (n := 3) (As := [.int x_15, .int x_2, .int x1_]) (rest := []) ⟨hx, hb, hml, hown, hts⟩ (r_X14_calls l dC dI L kd tys fr_20 H.size g.2.2.2.1 adK adV a0_ ma0_ ka0_ x_15 bx_15 x_2 (bd_sub bx_2 (by decide)) x1_ bx1_ q0_ mq0_ kq0_ V_ δ_ hW O_ hG_22 hG_24 hm_16.1 hm_16.2 (g.fcts [4] rfl)) (gI_ t_2699) List.mem_cons_self rfl rfl (Nat.le_of_ble_eq_true rfl) (Nat.le_of_ble_eq_true rfl) (hts _ (List.mem_cons_of_mem _ t_198)) (hts _ (List.mem_cons_of_mem _ t_2696)) (hts _ (List.mem_cons_of_mem _ t_2698)) (hts _ (List.mem_cons_of_mem _ t_161)) (by decide +kernel) (pre3VA g hK hAm ma0_ ka0_ (by decide) (q := (RX14, TX14, 67)) rfl) rfl rfl hl.1 rfl (lv_room (Nat.le_of_ble_eq_true rfl)) dX14_does_98 ⟨(Nat.le_of_ble_eq_true rfl), (Nat.le_of_ble_eq_true rfl)⟩) g hK (by decide) (by decide) (fx' := [(14, 47, a0_, .ref a_10), (14, 27, a0_, .ref a_4), (12, 14, q0_, .ref a_3), (14, 46, a0_, .ref a_1), (14, 1, a0_, .ref q0_), (14, 30, a0_, .int n_)]) rfl (fun r_27 fr_27 H locs hp hMr_27 g => ?_)
          obtain ⟨h_28, -⟩ := hp
          have hG_29 := OA.frame hMr_27 go_.2.2.2.1 ma0_ ka0_ (by decide) (by decide) hG_22
          have hG_30 := isW.frame hMr_27 go_.2.2.2.1 ma0_ ka0_ (by decide) (by decide) hG_23
          have hG_31 := isV.frame hMr_27 go_.2.2.2.1 mq0_ kq0_ (by decide) (by decide) hG_24
          refine lv_istore (lv' := [(5, .int r_27), (4, .int r_20), (3, .int x_15), (2, .int x_2), (0, .ref a0_), (1, .int x1_)]) hx hb dX14_does_101 hl (by decide) rfl (fun ls hl => ?_)
          refine lv_aload_n hx hb dX14_does_103 rfl (lv_at hl 4 rfl) ?_
          refine g_getr (K := 226) (C := RX14) (T := TX14) (N := 67) hx hb hts (mc_ inX14) hown hK g ma0_ ka0_ (by decide) rfl 50 (by decide) rfl (hts _ (List.mem_cons_of_mem _ t_2196)) (fun _ h9 => h9) rfl dX14_does_104 (fun a_32 ma_32 ka_32 g => ?_)
          refine lv_iload_n hx hb dX14_does_107 rfl (lv_at hl 5 rfl) ?_
          refine lv_iload hx hb dX14_does_108 (lv_at hl 0 rfl) ?_
          refine lv_iconst (v := 1) hx hb dX14_does_110 (by decide) ?_
          refine lv_icmp_ne (tgt := 118) hx hb dX14_does_111 (by decide) (fun c_33 => ?_) (fun c_33 => ?_)
          · have fc_33 := neq_f c_33
            have b_34 : bd 2 3 r_27 := neX fc_33 h_28 kb_1 (by decide)
            refine lv_iconst (v := 2) hx hb dX14_does_118 (by decide) ?_
            have kb_2 : bd 2 2 (2 : Int32) := ⟨by decide, by decide⟩
            have go_ := g
            refine g_iast hx hb hK g ma_32 ka_32 (by decide) rfl (in_bd bx1_ (by decide)) (bd_sub kb_2 (by decide)) (by decide) dX14_does_119 (fun f H locs hM_35 g => ?_)
            have hG_36 := OA.frame hM_35 go_.2.2.2.1 ma0_ ka0_ (by decide) (by decide) hG_29
            have hG_37 := isW.frame hM_35 go_.2.2.2.1 ma0_ ka0_ (by decide) (by decide) hG_30
            have hG_38 := isV.frame hM_35 go_.2.2.2.1 mq0_ kq0_ (by decide) (by decide) hG_31
            refine lv_aload_n hx hb dX14_does_120 rfl (lv_at hl 4 rfl) ?_
            refine g_getr (K := 225) (C := RX14) (T := TX14) (N := 67) hx hb hts (mc_ inX14) hown hK g ma0_ ka0_ (by decide) rfl 49 (by decide) rfl (hts _ (List.mem_cons_of_mem _ t_2195)) (fun _ h9 => h9) rfl dX14_does_121 (fun a_39 ma_39 ka_39 g => ?_)
            refine lv_iload_n hx hb dX14_does_124 rfl (lv_at hl 5 rfl) ?_
            refine lv_iload hx hb dX14_does_125 (lv_at hl 0 rfl) ?_
            refine lv_iconst (v := 1) hx hb dX14_does_127 (by decide) ?_
            refine lv_icmp_ne (tgt := 138) hx hb dX14_does_128 (by decide) (fun c_40 => ?_) (fun c_40 => ?_)
            · have fc_40 := neq_f c_40
              refine lv_iconst (v := 0) hx hb dX14_does_138 (by decide) ?_
              have kb_0 : bd 0 0 (0 : Int32) := ⟨by decide, by decide⟩
              have go_ := g
              refine g_iast hx hb hK g ma_39 ka_39 (by decide) rfl (in_bd bx1_ (by decide)) (bd_sub kb_0 (by decide)) (by decide) dX14_does_139 (fun f H locs hM_41 g => ?_)
              have hG_42 := OA.frame hM_41 go_.2.2.2.1 ma0_ ka0_ (by decide) (by decide) hG_36
              have hG_43 := isW.frame hM_41 go_.2.2.2.1 ma0_ ka0_ (by decide) (by decide) hG_37
              have hG_44 := isV.frame hM_41 go_.2.2.2.1 mq0_ kq0_ (by decide) (by decide) hG_38
              refine lv_aload_n hx hb dX14_does_140 rfl (lv_at hl 4 rfl) ?_
              refine g_getk (C := RX14) (T := TX14) (N := 67) hx hb hts (mc_ inX14) hown hK g rfl 49 (by decide) rfl (hts _ (List.mem_cons_of_mem _ t_2195)) (fun _ h9 => h9) 0 rfl dX14_does_141 ?_
              refine lv_iload_n hx hb dX14_does_144 rfl (lv_at hl 5 rfl) ?_
              refine g_iald hx hb hK g ma_39 ka_39 (by decide) rfl (in_bd bx1_ (by decide)) dX14_does_145 (fun x_45 bx_45 cx_45 => ?_)
              refine lv_istore (lv' := [(6, .int x_45), (5, .int r_27), (4, .int r_20), (3, .int x_15), (2, .int x_2), (0, .ref a0_), (1, .int x1_)]) hx hb dX14_does_146 hl (by decide) rfl (fun ls hl => ?_)
              refine lv_aload_n hx hb dX14_does_148 rfl (lv_at hl 5 rfl) ?_
              refine g_getl (C := RX14) (T := TX14) (N := 67) hx hb hts (mc_ inX14) hown hK g ma0_ ka0_ (by decide) rfl 32 (by decide) rfl (hts _ (List.mem_cons_of_mem _ t_2178)) (fun _ h9 => h9) rfl dX14_does_149 (fun x_46 g => ?_)
              refine lv_lstore (lv' := [(7, .long x_46), (6, .int x_45), (5, .int r_27), (4, .int r_20), (3, .int x_15), (2, .int x_2), (0, .ref a0_), (1, .int x1_)]) hx hb dX14_does_152 hl (by decide) rfl (fun ls hl => ?_)
              refine lv_aload_n hx hb dX14_does_154 rfl (lv_at hl 6 rfl) ?_
              refine g_getl (C := RX14) (T := TX14) (N := 67) hx hb hts (mc_ inX14) hown hK g ma0_ ka0_ (by decide) rfl 33 (by decide) rfl (hts _ (List.mem_cons_of_mem _ t_2179)) (fun _ h9 => h9) rfl dX14_does_155 (fun x_47 g => ?_)
              refine lv_lstore (lv' := [(9, .long x_47), (7, .long x_46), (6, .int x_45), (5, .int r_27), (4, .int r_20), (3, .int x_15), (2, .int x_2), (0, .ref a0_), (1, .int x1_)]) hx hb dX14_does_158 hl (by decide) rfl (fun ls hl => ?_)
              refine lv_iload hx hb dX14_does_160 (lv_at hl 3 rfl) ?_
              refine lv_iconst (v := 3) hx hb dX14_does_162 (by decide) ?_
              have kb_3 : bd 3 3 (3 : Int32) := ⟨by decide, by decide⟩
              refine lv_icmp_ne (tgt := 174) hx hb dX14_does_163 (by decide) (fun c_48 => ?_) (fun c_48 => ?_)
              · have fc_48 := neq_f c_48
                have b_49 : bd 2 2 r_27 := neX fc_48 b_34 kb_3 (by decide)
                refine lv_iload hx hb dX14_does_174 (lv_at hl 3 rfl) ?_
                refine lv_iconst (v := 2) hx hb dX14_does_176 (by decide) ?_
                refine lv_icmp_ne (tgt := 211) hx hb dX14_does_177 (by decide) (fun c_50 => ?_) (fun c_50 => ?_)
                · have fc_50 := neq_f c_50
                  have b_51 : bd 3 1 r_27 := neX fc_50 b_49 kb_2 (by decide)
                  exact bd_no b_51 (by decide)
                · have fc_50 := eq_f c_50
                  refine lv_aload_n hx hb dX14_does_180 rfl (lv_at hl 7 rfl) ?_
                  refine lv_iload_n hx hb dX14_does_181 rfl (lv_at hl 5 rfl) ?_
                  refine lv_iload_n hx hb dX14_does_182 rfl (lv_at hl 6 rfl) ?_
                  refine lv_iload_n hx hb dX14_does_183 rfl (lv_at hl 8 rfl) ?_
                  refine lv_lload hx hb dX14_does_184 (lv_at hl 1 rfl) ?_
                  refine lv_lload hx hb dX14_does_186 (lv_at hl 0 rfl) ?_
                  have go_ := g
                  refine g_calli (va_runV (As := [.int x_15, .int x_2, .int x1_, .long x_46, .long x_47]) (rest := []) ⟨hx, hb, hml, hown, hts⟩ (r_X14_mayThrow l dC dI L kd tys f H.size g.2.2.2.1 adK adV a0_ ma0_ ka0_ x_15 bx_15 x_2 bx_2 x1_ bx1_ x_46 x_47 q0_ mq0_ kq0_ V_ δ_ hW O_ hG_42 hG_44 (hob.at bx_2.1 (by rw [vx_2]; exact hdo.1)) (g.fcts [8] rfl)) (cwV 5 hts (gV_ t_2700 t_2702 t_162 t_198 t_2703) rfl rfl rfl (by decide +kernel) ⟨(Nat.le_of_ble_eq_true rfl), (Nat.le_of_ble_eq_true rfl)⟩) (pre3VA g hK hAm ma0_ ka0_ (by decide) (q := (RX14, TX14, 67)) rfl) rfl rfl hl.1 rfl (lv_room (Nat.le_of_ble_eq_true rfl)) dX14_does_188 ⟨(Nat.le_of_ble_eq_true rfl), (Nat.le_of_ble_eq_true rfl)⟩) g hK (by decide) (by decide) (fx' := [(14, 49, a0_, .ref a_39), (14, 50, a0_, .ref a_32), (14, 47, a0_, .ref a_10), (14, 27, a0_, .ref a_4), (12, 14, q0_, .ref a_3), (14, 46, a0_, .ref a_1), (14, 1, a0_, .ref q0_), (14, 30, a0_, .int n_)]) rfl (fun r_52 fr_52 H locs hp hMr_52 g => ?_)
                  obtain ⟨h_53, -⟩ := hp
                  have hG_54 := OA.frame hMr_52 go_.2.2.2.1 ma0_ ka0_ (by decide) (by decide) hG_42
                  have hG_55 := isW.frame hMr_52 go_.2.2.2.1 ma0_ ka0_ (by decide) (by decide) hG_43
                  have hG_56 := isV.frame hMr_52 go_.2.2.2.1 mq0_ kq0_ (by decide) (by decide) hG_44
                  refine lv_istore (lv' := [(11, .int r_52), (9, .long x_47), (7, .long x_46), (6, .int x_45), (5, .int r_27), (4, .int r_20), (3, .int x_15), (2, .int x_2), (0, .ref a0_), (1, .int x1_)]) hx hb dX14_does_191 hl (by decide) rfl (fun ls hl => ?_)
                  refine lv_iload hx hb dX14_does_193 (lv_at hl 0 rfl) ?_
                  refine lv_if_ne (tgt := 203) hx hb dX14_does_195 (by decide) (fun c_57 => ?_) (fun c_57 => ?_)
                  · have fc_57 := neq_f c_57
                    refine lv_iload hx hb dX14_does_203 (lv_at hl 0 rfl) ?_
                    refine lv_iconst (v := 1) hx hb dX14_does_205 (by decide) ?_
                    refine lv_icmp_eq (tgt := 211) hx hb dX14_does_206 (by decide) (fun c_58 => ?_) (fun c_58 => ?_)
                    · have fc_58 := eq_f c_58
                      have b_59 : bd 1 1 r_52 := eqX fc_58 h_53 kb_1 (by decide)
                      refine lv_aload_n hx hb dX14_does_211 rfl (lv_at hl 8 rfl) ?_
                      refine lv_iload_n hx hb dX14_does_212 rfl (lv_at hl 6 rfl) ?_
                      refine lv_iload_n hx hb dX14_does_213 rfl (lv_at hl 7 rfl) ?_
                      have go_ := g
                      refine g_calli (va_runV (As := [.int x_15, .int x_2]) (rest := []) ⟨hx, hb, hml, hown, hts⟩ (r_X14_changes l dC dI L kd tys fr_52 H.size g.2.2.2.1 a0_ ma0_ ka0_ x_15 bx_15 x_2 bx_2 q0_ mq0_ kq0_ V_ δ_ hW O_ hG_54 hG_56 (hob.at bx_2.1 (by rw [vx_2]; exact hdo.1)) (g.fcts [6] rfl)) (cwV 2 hts (gV_ t_2704 t_2706 t_163 t_198 t_2707) rfl rfl rfl (by decide +kernel) ⟨(Nat.le_of_ble_eq_true rfl), (Nat.le_of_ble_eq_true rfl)⟩) (pre3V g hK ma0_ ka0_ (by decide) (q := (RX14, TX14, 67)) rfl) rfl rfl hl.1 rfl (lv_room (Nat.le_of_ble_eq_true rfl)) dX14_does_214 ⟨(Nat.le_of_ble_eq_true rfl), (Nat.le_of_ble_eq_true rfl)⟩) g hK (by decide) (by decide) (fx' := [(14, 49, a0_, .ref a_39), (14, 50, a0_, .ref a_32), (14, 47, a0_, .ref a_10), (14, 27, a0_, .ref a_4), (12, 14, q0_, .ref a_3), (14, 46, a0_, .ref a_1), (14, 1, a0_, .ref q0_), (14, 30, a0_, .int n_)]) rfl (fun r_60 fr_60 H locs hp hMr_60 g => ?_)
                      obtain ⟨h_61, -⟩ := hp
                      have hG_62 := OA.frame hMr_60 go_.2.2.2.1 ma0_ ka0_ (by decide) (by decide) hG_54
                      have hG_63 := isW.frame hMr_60 go_.2.2.2.1 ma0_ ka0_ (by decide) (by decide) hG_55
                      have hG_64 := isV.frame hMr_60 go_.2.2.2.1 mq0_ kq0_ (by decide) (by decide) hG_56
                      refine lv_istore (lv' := [(11, .int r_60), (9, .long x_47), (7, .long x_46), (6, .int x_45), (5, .int r_27), (4, .int r_20), (3, .int x_15), (2, .int x_2), (0, .ref a0_), (1, .int x1_)]) hx hb dX14_does_217 hl (by decide) rfl (fun ls hl => ?_)
                      refine lv_iload hx hb dX14_does_219 (lv_at hl 0 rfl) ?_
                      refine lv_if_le (tgt := 232) hx hb dX14_does_221 (by decide) (fun c_65 => ?_) (fun c_65 => ?_)
                      · have fc_65 := le_f c_65
                        have b_66 : bd 0 0 r_60 := leL fc_65 h_61 kb_0 (by decide)
                        refine lv_aload_n hx hb dX14_does_232 rfl (lv_at hl 8 rfl) ?_
                        refine lv_iload hx hb dX14_does_233 (lv_at hl 3 rfl) ?_
                        have go_ := g
                        refine g_put (C := RX14) (T := TX14) (N := 67) hx hb hts (mc_ inX14) tyX14 tyX14_ok nmX14 hown hK g ma0_ ka0_ (by decide) rfl 38 (by decide) (hts _ (List.mem_cons_of_mem _ t_2184)) (fun _ h9 => h9) rfl rfl (okV_i (bdT x_45)) rfl rfl (by decide) (Or.inr (Or.inl (by decide))) (fx' := [(14, 49, a0_, .ref a_39), (14, 50, a0_, .ref a_32), (14, 47, a0_, .ref a_10), (14, 27, a0_, .ref a_4), (12, 14, q0_, .ref a_3), (14, 46, a0_, .ref a_1), (14, 1, a0_, .ref q0_), (14, 30, a0_, .int n_)]) rfl dX14_does_235 (fun f H locs hM_67 g => ?_)
                        have hG_68 := OA.frame hM_67 go_.2.2.2.1 ma0_ ka0_ (by decide) (by decide) hG_62
                        have hG_69 := isW.frame hM_67 go_.2.2.2.1 ma0_ ka0_ (by decide) (by decide) hG_63
                        have hG_70 := isV.frame hM_67 go_.2.2.2.1 mq0_ kq0_ (by decide) (by decide) hG_64
                        refine lv_iload hx hb dX14_does_238 (lv_at hl 4 rfl) ?_
                        refine lv_iconst (v := 1) hx hb dX14_does_240 (by decide) ?_
                        refine lv_icmp_ne (tgt := 256) hx hb dX14_does_241 (by decide) (fun c_71 => ?_) (fun c_71 => ?_)
                        · have fc_71 := neq_f c_71
                          refine lv_iconst (v := 0) hx hb dX14_does_256 (by decide) ?_
                          refine lv_istore (lv' := [(12, .int 0), (11, .int r_60), (9, .long x_47), (7, .long x_46), (6, .int x_45), (5, .int r_27), (4, .int r_20), (3, .int x_15), (2, .int x_2), (0, .ref a0_), (1, .int x1_)]) hx hb dX14_does_257 hl (by decide) rfl (fun ls hl => ?_)
                          have loop_72 : ∀ (n : Nat) (v259_12 : Int32), bd 0 3 v259_12 → (3 - v259_12.toInt < (n : Int)) → ∀ (f : Nat → va_E) (H : Heap) (locs : List Loc) (ls : Array Slot), G3 (dC, dI) L kd tys s f0 [(14, 31), (14, 32), (14, 33), (14, 34), (14, 35), (14, 36), (14, 37), (14, 38), (14, 39), (14, 40), (14, 45), (14, 55)] [200, 216, 217, 218, 219, 220, 221, 225, 226, 228, 229] f H locs [(14, 38, a0_, .int x_45), (14, 49, a0_, .ref a_39), (14, 50, a0_, .ref a_32), (14, 47, a0_, .ref a_10), (14, 27, a0_, .ref a_4), (12, 14, q0_, .ref a_3), (14, 46, a0_, .ref a_1), (14, 1, a0_, .ref q0_), (14, 30, a0_, .int n_)] → OA f a0_ O_ → isW f a0_ RW_ → isV f q0_ V_ → lv_has ls 13 [(12, .int v259_12), (11, .int r_60), (9, .long x_47), (7, .long x_46), (6, .int x_45), (5, .int r_27), (4, .int r_20), (3, .int x_15), (2, .int x_2), (0, .ref a0_), (1, .int x1_)] → W p l e ({ frames := 975, cells := 0, slots := 0, locals := 39063 } : Room) s m [.ref a0_, .int x1_].toArray below meth c H locs 0 0 Q (F0 m 259 ls []) := by
                            intro n259
                            induction n259 with
                            | zero =>
                              intro v259_12 bv259_12 hm259 f H locs ls g hG259_O_a0_ hG259_W_a0_ hG259_V_q0_ hl
                              exact absurd hm259 (by have h9_v259_12 := bv259_12; unfold bd at h9_v259_12; omega)
                            | succ n259 ih259 =>
                              intro v259_12 bv259_12 hm259 f H locs ls g hG259_O_a0_ hG259_W_a0_ hG259_V_q0_ hl
                              refine lv_iload hx hb dX14_does_259 (lv_at hl 0 rfl) ?_
                              refine lv_aload_n hx hb dX14_does_261 rfl (lv_at hl 9 rfl) ?_
                              refine g_getk (C := RX14) (T := TX14) (N := 67) hx hb hts (mc_ inX14) hown hK g rfl 30 (by decide) rfl (hts _ (List.mem_cons_of_mem _ t_2176)) (fun _ h9 => h9) 8 rfl dX14_does_262 ?_
                              refine lv_icmp_ge (tgt := 285) hx hb dX14_does_265 (by decide) (fun c_73 => ?_) (fun c_73 => ?_)
                              · have fc_73 := le_f c_73
                                refine lv_aload_n hx hb dX14_does_285 rfl (lv_at hl 9 rfl) ?_
                                refine lv_iload_n hx hb dX14_does_286 rfl (lv_at hl 7 rfl) ?_
                                refine lv_iload_n hx hb dX14_does_287 rfl (lv_at hl 8 rfl) ?_
                                refine lv_iload_n hx hb dX14_does_288 rfl (lv_at hl 10 rfl) ?_
                                refine lv_iload hx hb dX14_does_289 (lv_at hl 5 rfl) ?_
                                refine lv_iload hx hb dX14_does_291 (lv_at hl 4 rfl) ?_
                                refine lv_lload hx hb dX14_does_293 (lv_at hl 3 rfl) ?_
                                refine lv_lload hx hb dX14_does_295 (lv_at hl 2 rfl) ?_
                                have go_ := g
                                refine g_calli (va_runV (As := [.int x_15, .int x_2, .int x1_, .int r_27, .int x_45, .long x_46, .long x_47]) (rest := []) ⟨hx, hb, hml, hown, hts⟩ (r_X14_likeModel l dC dI L kd tys f H.size g.2.2.2.1 adK adV a0_ ma0_ ka0_ x_15 bx_15 x_2 bx_2 x1_ bx1_ r_27 x_45 x_46 x_47 q0_ mq0_ kq0_ V_ δ_ hW O_ hG259_O_a0_ hG259_V_q0_ (fun j hj => hob.bes bx_2.1 (by rw [vx_2]; exact hdo.1) hj) (g.fcts [7] rfl)) (cwV 7 hts (gV_ t_2720 t_2722 t_167 t_198 t_2723) rfl rfl rfl (by decide +kernel) ⟨(Nat.le_of_ble_eq_true rfl), (Nat.le_of_ble_eq_true rfl)⟩) (pre3VA g hK hAm ma0_ ka0_ (by decide) (q := (RX14, TX14, 67)) rfl) rfl rfl hl.1 rfl (lv_room (Nat.le_of_ble_eq_true rfl)) dX14_does_297 ⟨(Nat.le_of_ble_eq_true rfl), (Nat.le_of_ble_eq_true rfl)⟩) g hK (by decide) (by decide) (fx' := [(14, 49, a0_, .ref a_39), (14, 50, a0_, .ref a_32), (14, 47, a0_, .ref a_10), (14, 27, a0_, .ref a_4), (12, 14, q0_, .ref a_3), (14, 46, a0_, .ref a_1), (14, 1, a0_, .ref q0_), (14, 30, a0_, .int n_)]) rfl (fun r_74 fr_74 H locs hp hMr_74 g => ?_)
                                rcases hp with ⟨h_75, -⟩ | ⟨h_76, -⟩
                                · have hG_77 := OA.frame hMr_74 go_.2.2.2.1 ma0_ ka0_ (by decide) (by decide) hG259_O_a0_
                                  have hG_78 := isW.frame hMr_74 go_.2.2.2.1 ma0_ ka0_ (by decide) (by decide) hG259_W_a0_
                                  have hG_79 := isV.frame hMr_74 go_.2.2.2.1 mq0_ kq0_ (by decide) (by decide) hG259_V_q0_
                                  obtain rfl : r_74 = 0 := h_75
                                  refine lv_if_ne (tgt := 311) hx hb dX14_does_300 (by decide) (fun c_ => absurd c_ (by decide)) (fun c_ => ?_)
                                  refine lv_aload_n hx hb dX14_does_303 rfl (lv_at hl 9 rfl) ?_
                                  refine lv_bipush (v := 6) hx hb dX14_does_304 (by decide) ?_
                                  have kb_6 : bd 6 6 (6 : Int32) := ⟨by decide, by decide⟩
                                  have go_ := g
                                  refine g_put (C := RX14) (T := TX14) (N := 67) hx hb hts (mc_ inX14) tyX14 tyX14_ok nmX14 hown hK g ma0_ ka0_ (by decide) rfl 55 (by decide) (hts _ (List.mem_cons_of_mem _ t_2201)) (fun _ h9 => h9) rfl rfl (okV_i (bd_sub kb_6 (by decide))) rfl rfl (by decide) (Or.inr (Or.inl (by decide))) (fx' := [(14, 49, a0_, .ref a_39), (14, 50, a0_, .ref a_32), (14, 47, a0_, .ref a_10), (14, 27, a0_, .ref a_4), (12, 14, q0_, .ref a_3), (14, 46, a0_, .ref a_1), (14, 1, a0_, .ref q0_), (14, 30, a0_, .int n_)]) rfl dX14_does_306 (fun f H locs hM_80 g => ?_)
                                  have hG_81 := OA.frame hM_80 go_.2.2.2.1 ma0_ ka0_ (by decide) (by decide) hG_77
                                  have hG_82 := isW.frame hM_80 go_.2.2.2.1 ma0_ ka0_ (by decide) (by decide) hG_78
                                  have hG_83 := isV.frame hM_80 go_.2.2.2.1 mq0_ kq0_ (by decide) (by decide) hG_79
                                  refine lv_iconst (v := 0) hx hb dX14_does_309 (by decide) ?_
                                  subst hQ
                                  exact W.zret (v := 0) hx hb hr (nar_z (bd_sub kb_0 (by decide) : bd 0 1 _).1 (bd_sub kb_0 (by decide) : bd 0 1 _).2) (fun t ht hW => ⟨⟨_, _, rfl, Or.inl ⟨rfl, trivial⟩, q3_of g hK ht hW⟩, g.2.2.1.F ht⟩) g.2.2.1.2.2 dX14_does_310
                                · have hG_84 := OA.frame hMr_74 go_.2.2.2.1 ma0_ ka0_ (by decide) (by decide) hG259_O_a0_
                                  have hG_85 := isW.frame hMr_74 go_.2.2.2.1 ma0_ ka0_ (by decide) (by decide) hG259_W_a0_
                                  have hG_86 := isV.frame hMr_74 go_.2.2.2.1 mq0_ kq0_ (by decide) (by decide) hG259_V_q0_
                                  obtain rfl : r_74 = 1 := h_76
                                  refine lv_if_ne (tgt := 311) hx hb dX14_does_300 (by decide) (fun c_ => ?_) (fun c_ => absurd c_ (by decide))
                                  refine lv_iconst (v := 1) hx hb dX14_does_311 (by decide) ?_
                                  subst hQ
                                  exact W.zret (v := 1) hx hb hr (nar_z (bd_sub kb_1 (by decide) : bd 0 1 _).1 (bd_sub kb_1 (by decide) : bd 0 1 _).2) (fun t ht hW => ⟨⟨_, _, rfl, Or.inr (⟨rfl, trivial⟩), q3_of g hK ht hW⟩, g.2.2.1.F ht⟩) g.2.2.1.2.2 dX14_does_312
                              · have fc_73 := nle_f c_73
                                have b_87 : bd 0 2 v259_12 := ltL fc_73 bv259_12 bn_ (by decide)
                                have b_88 : bd 1 3 n_ := ltR fc_73 bv259_12 bn_ (by decide)
                                refine lv_aload_n hx hb dX14_does_268 rfl (lv_at hl 9 rfl) ?_
                                refine lv_iload hx hb dX14_does_269 (lv_at hl 0 rfl) ?_
                                have go_ := g
                                refine g_calli (va_runV (As := [.int v259_12]) (rest := []) ⟨hx, hb, hml, hown, hts⟩ (r_X14_keeps l dC dI L kd tys f H.size g.2.2.2.1 adK adV a0_ ma0_ ka0_ v259_12 b_87 q0_ mq0_ kq0_ V_ δ_ hW O_ hG259_O_a0_ hG259_V_q0_ (hob.at b_87.1 fc_73) (g.fcts [7] rfl)) (cwV 1 hts (gV_ t_2626 t_2628 t_144 t_198 t_2629) rfl rfl rfl (by decide +kernel) ⟨(Nat.le_of_ble_eq_true rfl), (Nat.le_of_ble_eq_true rfl)⟩) (pre3VA g hK hAm ma0_ ka0_ (by decide) (q := (RX14, TX14, 67)) rfl) rfl rfl hl.1 rfl (lv_room (Nat.le_of_ble_eq_true rfl)) dX14_does_271 ⟨(Nat.le_of_ble_eq_true rfl), (Nat.le_of_ble_eq_true rfl)⟩) g hK (by decide) (by decide) (fx' := [(14, 38, a0_, .int x_45), (14, 49, a0_, .ref a_39), (14, 50, a0_, .ref a_32), (14, 47, a0_, .ref a_10), (14, 27, a0_, .ref a_4), (12, 14, q0_, .ref a_3), (14, 46, a0_, .ref a_1), (14, 1, a0_, .ref q0_), (14, 30, a0_, .int n_)]) rfl (fun r_89 fr_89 H locs hp hMr_89 g => ?_)
                                rcases hp with ⟨h_90, hF_91⟩ | ⟨h_92, -⟩
                                · have hG_93 := OA.frame hMr_89 go_.2.2.2.1 ma0_ ka0_ (by decide) (by decide) hG259_O_a0_
                                  have hG_94 := isW.frame hMr_89 go_.2.2.2.1 ma0_ ka0_ (by decide) (by decide) hG259_W_a0_
                                  have hG_95 := isV.frame hMr_89 go_.2.2.2.1 mq0_ kq0_ (by decide) (by decide) hG259_V_q0_
                                  obtain rfl : r_89 = 0 := h_90
                                  have g := g.more hF_91
                                  refine lv_if_ne (tgt := 279) hx hb dX14_does_274 (by decide) (fun c_ => absurd c_ (by decide)) (fun c_ => ?_)
                                  refine lv_iconst (v := 0) hx hb dX14_does_277 (by decide) ?_
                                  subst hQ
                                  exact W.zret (v := 0) hx hb hr (nar_z (bd_sub kb_0 (by decide) : bd 0 1 _).1 (bd_sub kb_0 (by decide) : bd 0 1 _).2) (fun t ht hW => ⟨⟨_, _, rfl, Or.inl ⟨rfl, trivial⟩, q3_of g hK ht hW⟩, g.2.2.1.F ht⟩) g.2.2.1.2.2 dX14_does_278
                                · have hG_96 := OA.frame hMr_89 go_.2.2.2.1 ma0_ ka0_ (by decide) (by decide) hG259_O_a0_
                                  have hG_97 := isW.frame hMr_89 go_.2.2.2.1 ma0_ ka0_ (by decide) (by decide) hG259_W_a0_
                                  have hG_98 := isV.frame hMr_89 go_.2.2.2.1 mq0_ kq0_ (by decide) (by decide) hG259_V_q0_
                                  obtain rfl : r_89 = 1 := h_92
                                  refine lv_if_ne (tgt := 279) hx hb dX14_does_274 (by decide) (fun c_ => ?_) (fun c_ => absurd c_ (by decide))
                                  obtain ⟨y_99, ey_99⟩ : ∃ z : Int32, z = v259_12 + 1 := ⟨_, rfl⟩
                                  refine lv_iinc (v := y_99) (lv' := [(12, .int y_99), (11, .int r_60), (9, .long x_47), (7, .long x_46), (6, .int x_45), (5, .int r_27), (4, .int r_20), (3, .int x_15), (2, .int x_2), (0, .ref a0_), (1, .int x1_)]) hx hb dX14_does_279 hl (k := 0) rfl (by rw [ey_99]; rfl) (by decide) rfl (fun ls hl => ?_)
                                  have ty_99 := add_bd ey_99 b_87 kb_1 (by decide)
                                  have b_100 : bd 1 3 y_99 := add_rg ty_99 b_87 kb_1 (by decide)
                                  refine lv_goto (tgt := 259) hx hb dX14_does_282 (by decide) ?_
                                  have hl9 := lv_sub hl [0, 1, 2, 3, 4, 5, 6, 7, 8, 9, 10] (by rfl : lv_pick [(12, .int y_99), (11, .int r_60), (9, .long x_47), (7, .long x_46), (6, .int x_45), (5, .int r_27), (4, .int r_20), (3, .int x_15), (2, .int x_2), (0, .ref a0_), (1, .int x1_)] [0, 1, 2, 3, 4, 5, 6, 7, 8, 9, 10] = [(12, .int y_99), (11, .int r_60), (9, .long x_47), (7, .long x_46), (6, .int x_45), (5, .int r_27), (4, .int r_20), (3, .int x_15), (2, .int x_2), (0, .ref a0_), (1, .int x1_)])
                                  have g9 := g.sub (fx' := [(14, 38, a0_, .int x_45), (14, 49, a0_, .ref a_39), (14, 50, a0_, .ref a_32), (14, 47, a0_, .ref a_10), (14, 27, a0_, .ref a_4), (12, 14, q0_, .ref a_3), (14, 46, a0_, .ref a_1), (14, 1, a0_, .ref q0_), (14, 30, a0_, .int n_)]) [0, 1, 2, 3, 4, 5, 6, 7, 8] rfl
                                  exact ih259  y_99 (bd_sub b_100 (by decide)) (by have h9_0 := b_100; unfold bd at h9_0; have h9_1 := bv259_12; unfold bd at h9_1; have h9_2 := kb_0; unfold bd at h9_2; have h9_3 := kb_1; unfold bd at h9_3; have h9_4 := kb_2; unfold bd at h9_4; have h9_5 := kb_24; unfold bd at h9_5; have h9_6 := kb_3; unfold bd at h9_6; omega) _ _ _ _ g9 hG_96 hG_97 hG_98 hl9
                          have hl9 := lv_sub hl [0, 1, 2, 3, 4, 5, 6, 7, 8, 9, 10] (by rfl : lv_pick [(12, .int 0), (11, .int r_60), (9, .long x_47), (7, .long x_46), (6, .int x_45), (5, .int r_27), (4, .int r_20), (3, .int x_15), (2, .int x_2), (0, .ref a0_), (1, .int x1_)] [0, 1, 2, 3, 4, 5, 6, 7, 8, 9, 10] = [(12, .int 0), (11, .int r_60), (9, .long x_47), (7, .long x_46), (6, .int x_45), (5, .int r_27), (4, .int r_20), (3, .int x_15), (2, .int x_2), (0, .ref a0_), (1, .int x1_)])
                          have g9 := g.sub (fx' := [(14, 38, a0_, .int x_45), (14, 49, a0_, .ref a_39), (14, 50, a0_, .ref a_32), (14, 47, a0_, .ref a_10), (14, 27, a0_, .ref a_4), (12, 14, q0_, .ref a_3), (14, 46, a0_, .ref a_1), (14, 1, a0_, .ref q0_), (14, 30, a0_, .int n_)]) [0, 1, 2, 3, 4, 5, 6, 7, 8] rfl
                          exact loop_72 (9) 0 (bd_sub kb_0 (by decide)) (by have h9_0 := kb_0; unfold bd at h9_0; have h9_1 := kb_1; unfold bd at h9_1; have h9_2 := kb_2; unfold bd at h9_2; have h9_3 := kb_24; unfold bd at h9_3; have h9_4 := kb_3; unfold bd at h9_4; omega) _ _ _ _ g9 hG_68 hG_69 hG_70 hl9
                        · have fc_71 := eq_f c_71
                          exact absurd fc_71 fc_40
                      · have fc_65 := nle_f c_65
                        have b_101 : bd 1 5 r_60 := ltR fc_65 kb_0 h_61 (by decide)
                        refine lv_aload_n hx hb dX14_does_224 rfl (lv_at hl 8 rfl) ?_
                        refine lv_iload hx hb dX14_does_225 (lv_at hl 0 rfl) ?_
                        have go_ := g
                        refine g_put (C := RX14) (T := TX14) (N := 67) hx hb hts (mc_ inX14) tyX14 tyX14_ok nmX14 hown hK g ma0_ ka0_ (by decide) rfl 55 (by decide) (hts _ (List.mem_cons_of_mem _ t_2201)) (fun _ h9 => h9) rfl rfl (okV_i (bd_sub b_101 (by decide))) rfl rfl (by decide) (Or.inr (Or.inl (by decide))) (fx' := [(14, 49, a0_, .ref a_39), (14, 50, a0_, .ref a_32), (14, 47, a0_, .ref a_10), (14, 27, a0_, .ref a_4), (12, 14, q0_, .ref a_3), (14, 46, a0_, .ref a_1), (14, 1, a0_, .ref q0_), (14, 30, a0_, .int n_)]) rfl dX14_does_227 (fun f H locs hM_102 g => ?_)
                        have hG_103 := OA.frame hM_102 go_.2.2.2.1 ma0_ ka0_ (by decide) (by decide) hG_62
                        have hG_104 := isW.frame hM_102 go_.2.2.2.1 ma0_ ka0_ (by decide) (by decide) hG_63
                        have hG_105 := isV.frame hM_102 go_.2.2.2.1 mq0_ kq0_ (by decide) (by decide) hG_64
                        refine lv_iconst (v := 0) hx hb dX14_does_230 (by decide) ?_
                        subst hQ
                        exact W.zret (v := 0) hx hb hr (nar_z (bd_sub kb_0 (by decide) : bd 0 1 _).1 (bd_sub kb_0 (by decide) : bd 0 1 _).2) (fun t ht hW => ⟨⟨_, _, rfl, Or.inl ⟨rfl, trivial⟩, q3_of g hK ht hW⟩, g.2.2.1.F ht⟩) g.2.2.1.2.2 dX14_does_231
                    · have fc_58 := neq_f c_58
                      have b_106 : bd (-1) 0 r_52 := neX fc_58 h_53 kb_1 (by decide)
                      refine lv_iconst (v := 0) hx hb dX14_does_209 (by decide) ?_
                      subst hQ
                      exact W.zret (v := 0) hx hb hr (nar_z (bd_sub kb_0 (by decide) : bd 0 1 _).1 (bd_sub kb_0 (by decide) : bd 0 1 _).2) (fun t ht hW => ⟨⟨_, _, rfl, Or.inl ⟨rfl, trivial⟩, q3_of g hK ht hW⟩, g.2.2.1.F ht⟩) g.2.2.1.2.2 dX14_does_210
                  · have fc_57 := eq_f c_57
                    have b_107 : bd 0 0 r_52 := eqX fc_57 h_53 kb_0 (by decide)
                    refine lv_aload_n hx hb dX14_does_198 rfl (lv_at hl 8 rfl) ?_
                    refine lv_iconst (v := 3) hx hb dX14_does_199 (by decide) ?_
                    have go_ := g
                    refine g_put (C := RX14) (T := TX14) (N := 67) hx hb hts (mc_ inX14) tyX14 tyX14_ok nmX14 hown hK g ma0_ ka0_ (by decide) rfl 55 (by decide) (hts _ (List.mem_cons_of_mem _ t_2201)) (fun _ h9 => h9) rfl rfl (okV_i (bd_sub kb_3 (by decide))) rfl rfl (by decide) (Or.inr (Or.inl (by decide))) (fx' := [(14, 49, a0_, .ref a_39), (14, 50, a0_, .ref a_32), (14, 47, a0_, .ref a_10), (14, 27, a0_, .ref a_4), (12, 14, q0_, .ref a_3), (14, 46, a0_, .ref a_1), (14, 1, a0_, .ref q0_), (14, 30, a0_, .int n_)]) rfl dX14_does_200 (fun f H locs hM_108 g => ?_)
                    have hG_109 := OA.frame hM_108 go_.2.2.2.1 ma0_ ka0_ (by decide) (by decide) hG_54
                    have hG_110 := isW.frame hM_108 go_.2.2.2.1 ma0_ ka0_ (by decide) (by decide) hG_55
                    have hG_111 := isV.frame hM_108 go_.2.2.2.1 mq0_ kq0_ (by decide) (by decide) hG_56
                    refine lv_iload hx hb dX14_does_203 (lv_at hl 0 rfl) ?_
                    refine lv_iconst (v := 1) hx hb dX14_does_205 (by decide) ?_
                    refine lv_icmp_eq (tgt := 211) hx hb dX14_does_206 (by decide) (fun c_112 => ?_) (fun c_112 => ?_)
                    · have fc_112 := eq_f c_112
                      have b_113 : bd 1 0 r_52 := eqX fc_112 b_107 kb_1 (by decide)
                      exact bd_no b_113 (by decide)
                    · have fc_112 := neq_f c_112
                      refine lv_iconst (v := 0) hx hb dX14_does_209 (by decide) ?_
                      subst hQ
                      exact W.zret (v := 0) hx hb hr (nar_z (bd_sub kb_0 (by decide) : bd 0 1 _).1 (bd_sub kb_0 (by decide) : bd 0 1 _).2) (fun t ht hW => ⟨⟨_, _, rfl, Or.inl ⟨rfl, trivial⟩, q3_of g hK ht hW⟩, g.2.2.1.F ht⟩) g.2.2.1.2.2 dX14_does_210
              · have fc_48 := eq_f c_48
                have b_114 : bd 3 3 r_27 := eqX fc_48 b_34 kb_3 (by decide)
                refine lv_aload_n hx hb dX14_does_166 rfl (lv_at hl 7 rfl) ?_
                refine lv_bipush (v := 8) hx hb dX14_does_167 (by decide) ?_
                have kb_8 : bd 8 8 (8 : Int32) := ⟨by decide, by decide⟩
                have go_ := g
                refine g_put (C := RX14) (T := TX14) (N := 67) hx hb hts (mc_ inX14) tyX14 tyX14_ok nmX14 hown hK g ma0_ ka0_ (by decide) rfl 55 (by decide) (hts _ (List.mem_cons_of_mem _ t_2201)) (fun _ h9 => h9) rfl rfl (okV_i (bd_sub kb_8 (by decide))) rfl rfl (by decide) (Or.inr (Or.inl (by decide))) (fx' := [(14, 33, a0_, .long x_47), (14, 32, a0_, .long x_46), (14, 49, a0_, .ref a_39), (14, 50, a0_, .ref a_32), (14, 47, a0_, .ref a_10), (14, 27, a0_, .ref a_4), (12, 14, q0_, .ref a_3), (14, 46, a0_, .ref a_1), (14, 1, a0_, .ref q0_), (14, 30, a0_, .int n_)]) rfl dX14_does_169 (fun f H locs hM_115 g => ?_)
                have hG_116 := OA.frame hM_115 go_.2.2.2.1 ma0_ ka0_ (by decide) (by decide) hG_42
                have hG_117 := isW.frame hM_115 go_.2.2.2.1 ma0_ ka0_ (by decide) (by decide) hG_43
                have hG_118 := isV.frame hM_115 go_.2.2.2.1 mq0_ kq0_ (by decide) (by decide) hG_44
                refine lv_iconst (v := 0) hx hb dX14_does_172 (by decide) ?_
                subst hQ
                exact W.zret (v := 0) hx hb hr (nar_z (bd_sub kb_0 (by decide) : bd 0 1 _).1 (bd_sub kb_0 (by decide) : bd 0 1 _).2) (fun t ht hW => ⟨⟨_, _, rfl, Or.inl ⟨rfl, trivial⟩, q3_of g hK ht hW⟩, g.2.2.1.F ht⟩) g.2.2.1.2.2 dX14_does_173
            · have fc_40 := eq_f c_40
              exact absurd fc_40 fc_33
          · have fc_33 := eq_f c_33
            have b_119 : bd 1 1 r_27 := eqX fc_33 h_28 kb_1 (by decide)
            refine lv_iconst (v := 1) hx hb dX14_does_114 (by decide) ?_
            refine lv_goto (tgt := 119) hx hb dX14_does_115 (by decide) ?_
            have go_ := g
            refine g_iast hx hb hK g ma_32 ka_32 (by decide) rfl (in_bd bx1_ (by decide)) (bd_sub kb_1 (by decide)) (by decide) dX14_does_119 (fun f H locs hM_120 g => ?_)
            have hG_121 := OA.frame hM_120 go_.2.2.2.1 ma0_ ka0_ (by decide) (by decide) hG_29
            have hG_122 := isW.frame hM_120 go_.2.2.2.1 ma0_ ka0_ (by decide) (by decide) hG_30
            have hG_123 := isV.frame hM_120 go_.2.2.2.1 mq0_ kq0_ (by decide) (by decide) hG_31
            refine lv_aload_n hx hb dX14_does_120 rfl (lv_at hl 4 rfl) ?_
            refine g_getr (K := 225) (C := RX14) (T := TX14) (N := 67) hx hb hts (mc_ inX14) hown hK g ma0_ ka0_ (by decide) rfl 49 (by decide) rfl (hts _ (List.mem_cons_of_mem _ t_2195)) (fun _ h9 => h9) rfl dX14_does_121 (fun a_124 ma_124 ka_124 g => ?_)
            refine lv_iload_n hx hb dX14_does_124 rfl (lv_at hl 5 rfl) ?_
            refine lv_iload hx hb dX14_does_125 (lv_at hl 0 rfl) ?_
            refine lv_iconst (v := 1) hx hb dX14_does_127 (by decide) ?_
            refine lv_icmp_ne (tgt := 138) hx hb dX14_does_128 (by decide) (fun c_125 => ?_) (fun c_125 => ?_)
            · have fc_125 := neq_f c_125
              have b_126 : bd 2 0 r_27 := neX fc_125 b_119 kb_1 (by decide)
              exact bd_no b_126 (by decide)
            · have fc_125 := eq_f c_125
              refine lv_aload_n hx hb dX14_does_131 rfl (lv_at hl 4 rfl) ?_
              refine g_geti (C := RX14) (T := TX14) (N := 67) hx hb hts (mc_ inX14) hown hK g ma0_ ka0_ (by decide) rfl 38 (by decide) rfl (hts _ (List.mem_cons_of_mem _ t_2184)) (fun _ h9 => h9) rfl dX14_does_132 (fun x_127 bx_127 g => ?_)
              refine lv_goto (tgt := 139) hx hb dX14_does_135 (by decide) ?_
              have go_ := g
              refine g_iast hx hb hK g ma_124 ka_124 (by decide) rfl (in_bd bx1_ (by decide)) (bdT x_127) (by decide) dX14_does_139 (fun f H locs hM_128 g => ?_)
              have hG_129 := OA.frame hM_128 go_.2.2.2.1 ma0_ ka0_ (by decide) (by decide) hG_121
              have hG_130 := isW.frame hM_128 go_.2.2.2.1 ma0_ ka0_ (by decide) (by decide) hG_122
              have hG_131 := isV.frame hM_128 go_.2.2.2.1 mq0_ kq0_ (by decide) (by decide) hG_123
              refine lv_aload_n hx hb dX14_does_140 rfl (lv_at hl 4 rfl) ?_
              refine g_getk (C := RX14) (T := TX14) (N := 67) hx hb hts (mc_ inX14) hown hK g rfl 49 (by decide) rfl (hts _ (List.mem_cons_of_mem _ t_2195)) (fun _ h9 => h9) 1 rfl dX14_does_141 ?_
              refine lv_iload_n hx hb dX14_does_144 rfl (lv_at hl 5 rfl) ?_
              refine g_iald hx hb hK g ma_124 ka_124 (by decide) rfl (in_bd bx1_ (by decide)) dX14_does_145 (fun x_132 bx_132 cx_132 => ?_)
              refine lv_istore (lv' := [(6, .int x_132), (5, .int r_27), (4, .int r_20), (3, .int x_15), (2, .int x_2), (0, .ref a0_), (1, .int x1_)]) hx hb dX14_does_146 hl (by decide) rfl (fun ls hl => ?_)
              refine lv_aload_n hx hb dX14_does_148 rfl (lv_at hl 5 rfl) ?_
              refine g_getl (C := RX14) (T := TX14) (N := 67) hx hb hts (mc_ inX14) hown hK g ma0_ ka0_ (by decide) rfl 32 (by decide) rfl (hts _ (List.mem_cons_of_mem _ t_2178)) (fun _ h9 => h9) rfl dX14_does_149 (fun x_133 g => ?_)
              refine lv_lstore (lv' := [(7, .long x_133), (6, .int x_132), (5, .int r_27), (4, .int r_20), (3, .int x_15), (2, .int x_2), (0, .ref a0_), (1, .int x1_)]) hx hb dX14_does_152 hl (by decide) rfl (fun ls hl => ?_)
              refine lv_aload_n hx hb dX14_does_154 rfl (lv_at hl 6 rfl) ?_
              refine g_getl (C := RX14) (T := TX14) (N := 67) hx hb hts (mc_ inX14) hown hK g ma0_ ka0_ (by decide) rfl 33 (by decide) rfl (hts _ (List.mem_cons_of_mem _ t_2179)) (fun _ h9 => h9) rfl dX14_does_155 (fun x_134 g => ?_)
              refine lv_lstore (lv' := [(9, .long x_134), (7, .long x_133), (6, .int x_132), (5, .int r_27), (4, .int r_20), (3, .int x_15), (2, .int x_2), (0, .ref a0_), (1, .int x1_)]) hx hb dX14_does_158 hl (by decide) rfl (fun ls hl => ?_)
              refine lv_iload hx hb dX14_does_160 (lv_at hl 3 rfl) ?_
              refine lv_iconst (v := 3) hx hb dX14_does_162 (by decide) ?_
              have kb_3 : bd 3 3 (3 : Int32) := ⟨by decide, by decide⟩
              refine lv_icmp_ne (tgt := 174) hx hb dX14_does_163 (by decide) (fun c_135 => ?_) (fun c_135 => ?_)
              · have fc_135 := neq_f c_135
                refine lv_iload hx hb dX14_does_174 (lv_at hl 3 rfl) ?_
                refine lv_iconst (v := 2) hx hb dX14_does_176 (by decide) ?_
                have kb_2 : bd 2 2 (2 : Int32) := ⟨by decide, by decide⟩
                refine lv_icmp_ne (tgt := 211) hx hb dX14_does_177 (by decide) (fun c_136 => ?_) (fun c_136 => ?_)
                · have fc_136 := neq_f c_136
                  refine lv_aload_n hx hb dX14_does_211 rfl (lv_at hl 7 rfl) ?_
                  refine lv_iload_n hx hb dX14_does_212 rfl (lv_at hl 5 rfl) ?_
                  refine lv_iload_n hx hb dX14_does_213 rfl (lv_at hl 6 rfl) ?_
                  have go_ := g
                  refine g_calli (va_runV (As := [.int x_15, .int x_2]) (rest := []) ⟨hx, hb, hml, hown, hts⟩ (r_X14_changes l dC dI L kd tys f H.size g.2.2.2.1 a0_ ma0_ ka0_ x_15 bx_15 x_2 bx_2 q0_ mq0_ kq0_ V_ δ_ hW O_ hG_129 hG_131 (hob.at bx_2.1 (by rw [vx_2]; exact hdo.1)) (g.fcts [9] rfl)) (cwV 2 hts (gV_ t_2704 t_2706 t_163 t_198 t_2707) rfl rfl rfl (by decide +kernel) ⟨(Nat.le_of_ble_eq_true rfl), (Nat.le_of_ble_eq_true rfl)⟩) (pre3V g hK ma0_ ka0_ (by decide) (q := (RX14, TX14, 67)) rfl) rfl rfl hl.1 rfl (lv_room (Nat.le_of_ble_eq_true rfl)) dX14_does_214 ⟨(Nat.le_of_ble_eq_true rfl), (Nat.le_of_ble_eq_true rfl)⟩) g hK (by decide) (by decide) (fx' := [(14, 33, a0_, .long x_134), (14, 32, a0_, .long x_133), (14, 38, a0_, .int x_127), (14, 49, a0_, .ref a_124), (14, 50, a0_, .ref a_32), (14, 47, a0_, .ref a_10), (14, 27, a0_, .ref a_4), (12, 14, q0_, .ref a_3), (14, 46, a0_, .ref a_1), (14, 1, a0_, .ref q0_), (14, 30, a0_, .int n_)]) rfl (fun r_137 fr_137 H locs hp hMr_137 g => ?_)
                  obtain ⟨h_138, -⟩ := hp
                  have hG_139 := OA.frame hMr_137 go_.2.2.2.1 ma0_ ka0_ (by decide) (by decide) hG_129
                  have hG_140 := isW.frame hMr_137 go_.2.2.2.1 ma0_ ka0_ (by decide) (by decide) hG_130
                  have hG_141 := isV.frame hMr_137 go_.2.2.2.1 mq0_ kq0_ (by decide) (by decide) hG_131
                  refine lv_istore (lv' := [(11, .int r_137), (9, .long x_134), (7, .long x_133), (6, .int x_132), (5, .int r_27), (4, .int r_20), (3, .int x_15), (2, .int x_2), (0, .ref a0_), (1, .int x1_)]) hx hb dX14_does_217 hl (by decide) rfl (fun ls hl => ?_)
                  refine lv_iload hx hb dX14_does_219 (lv_at hl 0 rfl) ?_
                  have kb_0 : bd 0 0 (0 : Int32) := ⟨by decide, by decide⟩
                  refine lv_if_le (tgt := 232) hx hb dX14_does_221 (by decide) (fun c_142 => ?_) (fun c_142 => ?_)
                  · have fc_142 := le_f c_142
                    have b_143 : bd 0 0 r_137 := leL fc_142 h_138 kb_0 (by decide)
                    refine lv_aload_n hx hb dX14_does_232 rfl (lv_at hl 8 rfl) ?_
                    refine lv_iload hx hb dX14_does_233 (lv_at hl 3 rfl) ?_
                    have go_ := g
                    refine g_put (C := RX14) (T := TX14) (N := 67) hx hb hts (mc_ inX14) tyX14 tyX14_ok nmX14 hown hK g ma0_ ka0_ (by decide) rfl 38 (by decide) (hts _ (List.mem_cons_of_mem _ t_2184)) (fun _ h9 => h9) rfl rfl (okV_i (bdT x_132)) rfl rfl (by decide) (Or.inr (Or.inl (by decide))) (fx' := [(14, 33, a0_, .long x_134), (14, 32, a0_, .long x_133), (14, 49, a0_, .ref a_124), (14, 50, a0_, .ref a_32), (14, 47, a0_, .ref a_10), (14, 27, a0_, .ref a_4), (12, 14, q0_, .ref a_3), (14, 46, a0_, .ref a_1), (14, 1, a0_, .ref q0_), (14, 30, a0_, .int n_)]) rfl dX14_does_235 (fun f H locs hM_144 g => ?_)
                    have hG_145 := OA.frame hM_144 go_.2.2.2.1 ma0_ ka0_ (by decide) (by decide) hG_139
                    have hG_146 := isW.frame hM_144 go_.2.2.2.1 ma0_ ka0_ (by decide) (by decide) hG_140
                    have hG_147 := isV.frame hM_144 go_.2.2.2.1 mq0_ kq0_ (by decide) (by decide) hG_141
                    refine lv_iload hx hb dX14_does_238 (lv_at hl 4 rfl) ?_
                    refine lv_iconst (v := 1) hx hb dX14_does_240 (by decide) ?_
                    refine lv_icmp_ne (tgt := 256) hx hb dX14_does_241 (by decide) (fun c_148 => ?_) (fun c_148 => ?_)
                    · have fc_148 := neq_f c_148
                      have b_149 : bd 2 0 r_27 := neX fc_148 b_119 kb_1 (by decide)
                      exact bd_no b_149 (by decide)
                    · have fc_148 := eq_f c_148
                      refine lv_aload_n hx hb dX14_does_244 rfl (lv_at hl 8 rfl) ?_
                      refine lv_iload_n hx hb dX14_does_245 rfl (lv_at hl 6 rfl) ?_
                      refine lv_iload_n hx hb dX14_does_246 rfl (lv_at hl 7 rfl) ?_
                      refine lv_iload_n hx hb dX14_does_247 rfl (lv_at hl 9 rfl) ?_
                      have go_ := g
                      refine g_calli (va_runV (As := [.int x_15, .int x_2, .int x1_]) (rest := []) ⟨hx, hb, hml, hown, hts⟩ (r_X14_gives l dC dI L kd tys f H.size g.2.2.2.1 adK adV a0_ ma0_ ka0_ x_15 bx_15 x_2 bx_2 x1_ bx1_ q0_ mq0_ kq0_ V_ δ_ hW O_ hG_145 hG_147 (hob.at bx_2.1 (by rw [vx_2]; exact hdo.1)) (g.fcts [9] rfl)) (cwV 3 hts (gV_ t_2716 t_2718 t_166 t_198 t_2719) rfl rfl rfl (by decide +kernel) ⟨(Nat.le_of_ble_eq_true rfl), (Nat.le_of_ble_eq_true rfl)⟩) (pre3VA g hK hAm ma0_ ka0_ (by decide) (q := (RX14, TX14, 67)) rfl) rfl rfl hl.1 rfl (lv_room (Nat.le_of_ble_eq_true rfl)) dX14_does_248 ⟨(Nat.le_of_ble_eq_true rfl), (Nat.le_of_ble_eq_true rfl)⟩) g hK (by decide) (by decide) (fx' := [(14, 38, a0_, .int x_132), (14, 49, a0_, .ref a_124), (14, 50, a0_, .ref a_32), (14, 47, a0_, .ref a_10), (14, 27, a0_, .ref a_4), (12, 14, q0_, .ref a_3), (14, 46, a0_, .ref a_1), (14, 1, a0_, .ref q0_), (14, 30, a0_, .int n_)]) rfl (fun r_150 fr_150 H locs hp hMr_150 g => ?_)
                      rcases hp with ⟨h_151, x_152, h_153, hF_154⟩ | ⟨h_155, -⟩
                      · have hG_156 := OA.frame hMr_150 go_.2.2.2.1 ma0_ ka0_ (by decide) (by decide) hG_145
                        have hG_157 := isW.frame hMr_150 go_.2.2.2.1 ma0_ ka0_ (by decide) (by decide) hG_146
                        have hG_158 := isV.frame hMr_150 go_.2.2.2.1 mq0_ kq0_ (by decide) (by decide) hG_147
                        obtain rfl : r_150 = 0 := h_151
                        have g := g.more hF_154
                        refine lv_if_ne (tgt := 256) hx hb dX14_does_251 (by decide) (fun c_ => absurd c_ (by decide)) (fun c_ => ?_)
                        refine lv_iconst (v := 0) hx hb dX14_does_254 (by decide) ?_
                        subst hQ
                        exact W.zret (v := 0) hx hb hr (nar_z (bd_sub kb_0 (by decide) : bd 0 1 _).1 (bd_sub kb_0 (by decide) : bd 0 1 _).2) (fun t ht hW => ⟨⟨_, _, rfl, Or.inl ⟨rfl, trivial⟩, q3_of g hK ht hW⟩, g.2.2.1.F ht⟩) g.2.2.1.2.2 dX14_does_255
                      · have hG_159 := OA.frame hMr_150 go_.2.2.2.1 ma0_ ka0_ (by decide) (by decide) hG_145
                        have hG_160 := isW.frame hMr_150 go_.2.2.2.1 ma0_ ka0_ (by decide) (by decide) hG_146
                        have hG_161 := isV.frame hMr_150 go_.2.2.2.1 mq0_ kq0_ (by decide) (by decide) hG_147
                        obtain rfl : r_150 = 1 := h_155
                        refine lv_if_ne (tgt := 256) hx hb dX14_does_251 (by decide) (fun c_ => ?_) (fun c_ => absurd c_ (by decide))
                        refine lv_iconst (v := 0) hx hb dX14_does_256 (by decide) ?_
                        refine lv_istore (lv' := [(12, .int 0), (11, .int r_137), (9, .long x_134), (7, .long x_133), (6, .int x_132), (5, .int r_27), (4, .int r_20), (3, .int x_15), (2, .int x_2), (0, .ref a0_), (1, .int x1_)]) hx hb dX14_does_257 hl (by decide) rfl (fun ls hl => ?_)
                        have loop_162 : ∀ (n : Nat) (v259_12 : Int32), bd 0 3 v259_12 → (3 - v259_12.toInt < (n : Int)) → ∀ (f : Nat → va_E) (H : Heap) (locs : List Loc) (ls : Array Slot), G3 (dC, dI) L kd tys s f0 [(14, 31), (14, 32), (14, 33), (14, 34), (14, 35), (14, 36), (14, 37), (14, 38), (14, 39), (14, 40), (14, 45), (14, 55)] [200, 216, 217, 218, 219, 220, 221, 225, 226, 228, 229] f H locs [(14, 38, a0_, .int x_132), (14, 49, a0_, .ref a_124), (14, 50, a0_, .ref a_32), (14, 47, a0_, .ref a_10), (14, 27, a0_, .ref a_4), (12, 14, q0_, .ref a_3), (14, 46, a0_, .ref a_1), (14, 1, a0_, .ref q0_), (14, 30, a0_, .int n_)] → OA f a0_ O_ → isW f a0_ RW_ → isV f q0_ V_ → lv_has ls 13 [(12, .int v259_12), (11, .int r_137), (9, .long x_134), (7, .long x_133), (6, .int x_132), (5, .int r_27), (4, .int r_20), (3, .int x_15), (2, .int x_2), (0, .ref a0_), (1, .int x1_)] → W p l e ({ frames := 975, cells := 0, slots := 0, locals := 39063 } : Room) s m [.ref a0_, .int x1_].toArray below meth c H locs 0 0 Q (F0 m 259 ls []) := by
                          intro n259
                          induction n259 with
                          | zero =>
                            intro v259_12 bv259_12 hm259 f H locs ls g hG259_O_a0_ hG259_W_a0_ hG259_V_q0_ hl
                            exact absurd hm259 (by have h9_v259_12 := bv259_12; unfold bd at h9_v259_12; omega)
                          | succ n259 ih259 =>
                            intro v259_12 bv259_12 hm259 f H locs ls g hG259_O_a0_ hG259_W_a0_ hG259_V_q0_ hl
                            refine lv_iload hx hb dX14_does_259 (lv_at hl 0 rfl) ?_
                            refine lv_aload_n hx hb dX14_does_261 rfl (lv_at hl 9 rfl) ?_
                            refine g_getk (C := RX14) (T := TX14) (N := 67) hx hb hts (mc_ inX14) hown hK g rfl 30 (by decide) rfl (hts _ (List.mem_cons_of_mem _ t_2176)) (fun _ h9 => h9) 8 rfl dX14_does_262 ?_
                            refine lv_icmp_ge (tgt := 285) hx hb dX14_does_265 (by decide) (fun c_163 => ?_) (fun c_163 => ?_)
                            · have fc_163 := le_f c_163
                              refine lv_aload_n hx hb dX14_does_285 rfl (lv_at hl 9 rfl) ?_
                              refine lv_iload_n hx hb dX14_does_286 rfl (lv_at hl 7 rfl) ?_
                              refine lv_iload_n hx hb dX14_does_287 rfl (lv_at hl 8 rfl) ?_
                              refine lv_iload_n hx hb dX14_does_288 rfl (lv_at hl 10 rfl) ?_
                              refine lv_iload hx hb dX14_does_289 (lv_at hl 5 rfl) ?_
                              refine lv_iload hx hb dX14_does_291 (lv_at hl 4 rfl) ?_
                              refine lv_lload hx hb dX14_does_293 (lv_at hl 3 rfl) ?_
                              refine lv_lload hx hb dX14_does_295 (lv_at hl 2 rfl) ?_
                              have go_ := g
                              refine g_calli (va_runV (As := [.int x_15, .int x_2, .int x1_, .int r_27, .int x_132, .long x_133, .long x_134]) (rest := []) ⟨hx, hb, hml, hown, hts⟩ (r_X14_likeModel l dC dI L kd tys f H.size g.2.2.2.1 adK adV a0_ ma0_ ka0_ x_15 bx_15 x_2 bx_2 x1_ bx1_ r_27 x_132 x_133 x_134 q0_ mq0_ kq0_ V_ δ_ hW O_ hG259_O_a0_ hG259_V_q0_ (fun j hj => hob.bes bx_2.1 (by rw [vx_2]; exact hdo.1) hj) (g.fcts [7] rfl)) (cwV 7 hts (gV_ t_2720 t_2722 t_167 t_198 t_2723) rfl rfl rfl (by decide +kernel) ⟨(Nat.le_of_ble_eq_true rfl), (Nat.le_of_ble_eq_true rfl)⟩) (pre3VA g hK hAm ma0_ ka0_ (by decide) (q := (RX14, TX14, 67)) rfl) rfl rfl hl.1 rfl (lv_room (Nat.le_of_ble_eq_true rfl)) dX14_does_297 ⟨(Nat.le_of_ble_eq_true rfl), (Nat.le_of_ble_eq_true rfl)⟩) g hK (by decide) (by decide) (fx' := [(14, 49, a0_, .ref a_124), (14, 50, a0_, .ref a_32), (14, 47, a0_, .ref a_10), (14, 27, a0_, .ref a_4), (12, 14, q0_, .ref a_3), (14, 46, a0_, .ref a_1), (14, 1, a0_, .ref q0_), (14, 30, a0_, .int n_)]) rfl (fun r_164 fr_164 H locs hp hMr_164 g => ?_)
                              rcases hp with ⟨h_165, -⟩ | ⟨h_166, -⟩
                              · have hG_167 := OA.frame hMr_164 go_.2.2.2.1 ma0_ ka0_ (by decide) (by decide) hG259_O_a0_
                                have hG_168 := isW.frame hMr_164 go_.2.2.2.1 ma0_ ka0_ (by decide) (by decide) hG259_W_a0_
                                have hG_169 := isV.frame hMr_164 go_.2.2.2.1 mq0_ kq0_ (by decide) (by decide) hG259_V_q0_
                                obtain rfl : r_164 = 0 := h_165
                                refine lv_if_ne (tgt := 311) hx hb dX14_does_300 (by decide) (fun c_ => absurd c_ (by decide)) (fun c_ => ?_)
                                refine lv_aload_n hx hb dX14_does_303 rfl (lv_at hl 9 rfl) ?_
                                refine lv_bipush (v := 6) hx hb dX14_does_304 (by decide) ?_
                                have kb_6 : bd 6 6 (6 : Int32) := ⟨by decide, by decide⟩
                                have go_ := g
                                refine g_put (C := RX14) (T := TX14) (N := 67) hx hb hts (mc_ inX14) tyX14 tyX14_ok nmX14 hown hK g ma0_ ka0_ (by decide) rfl 55 (by decide) (hts _ (List.mem_cons_of_mem _ t_2201)) (fun _ h9 => h9) rfl rfl (okV_i (bd_sub kb_6 (by decide))) rfl rfl (by decide) (Or.inr (Or.inl (by decide))) (fx' := [(14, 49, a0_, .ref a_124), (14, 50, a0_, .ref a_32), (14, 47, a0_, .ref a_10), (14, 27, a0_, .ref a_4), (12, 14, q0_, .ref a_3), (14, 46, a0_, .ref a_1), (14, 1, a0_, .ref q0_), (14, 30, a0_, .int n_)]) rfl dX14_does_306 (fun f H locs hM_170 g => ?_)
                                have hG_171 := OA.frame hM_170 go_.2.2.2.1 ma0_ ka0_ (by decide) (by decide) hG_167
                                have hG_172 := isW.frame hM_170 go_.2.2.2.1 ma0_ ka0_ (by decide) (by decide) hG_168
                                have hG_173 := isV.frame hM_170 go_.2.2.2.1 mq0_ kq0_ (by decide) (by decide) hG_169
                                refine lv_iconst (v := 0) hx hb dX14_does_309 (by decide) ?_
                                subst hQ
                                exact W.zret (v := 0) hx hb hr (nar_z (bd_sub kb_0 (by decide) : bd 0 1 _).1 (bd_sub kb_0 (by decide) : bd 0 1 _).2) (fun t ht hW => ⟨⟨_, _, rfl, Or.inl ⟨rfl, trivial⟩, q3_of g hK ht hW⟩, g.2.2.1.F ht⟩) g.2.2.1.2.2 dX14_does_310
                              · have hG_174 := OA.frame hMr_164 go_.2.2.2.1 ma0_ ka0_ (by decide) (by decide) hG259_O_a0_
                                have hG_175 := isW.frame hMr_164 go_.2.2.2.1 ma0_ ka0_ (by decide) (by decide) hG259_W_a0_
                                have hG_176 := isV.frame hMr_164 go_.2.2.2.1 mq0_ kq0_ (by decide) (by decide) hG259_V_q0_
                                obtain rfl : r_164 = 1 := h_166
                                refine lv_if_ne (tgt := 311) hx hb dX14_does_300 (by decide) (fun c_ => ?_) (fun c_ => absurd c_ (by decide))
                                refine lv_iconst (v := 1) hx hb dX14_does_311 (by decide) ?_
                                subst hQ
                                exact W.zret (v := 1) hx hb hr (nar_z (bd_sub kb_1 (by decide) : bd 0 1 _).1 (bd_sub kb_1 (by decide) : bd 0 1 _).2) (fun t ht hW => ⟨⟨_, _, rfl, Or.inr (⟨rfl, trivial⟩), q3_of g hK ht hW⟩, g.2.2.1.F ht⟩) g.2.2.1.2.2 dX14_does_312
                            · have fc_163 := nle_f c_163
                              have b_177 : bd 0 2 v259_12 := ltL fc_163 bv259_12 bn_ (by decide)
                              have b_178 : bd 1 3 n_ := ltR fc_163 bv259_12 bn_ (by decide)
                              refine lv_aload_n hx hb dX14_does_268 rfl (lv_at hl 9 rfl) ?_
                              refine lv_iload hx hb dX14_does_269 (lv_at hl 0 rfl) ?_
                              have go_ := g
                              refine g_calli (va_runV (As := [.int v259_12]) (rest := []) ⟨hx, hb, hml, hown, hts⟩ (r_X14_keeps l dC dI L kd tys f H.size g.2.2.2.1 adK adV a0_ ma0_ ka0_ v259_12 b_177 q0_ mq0_ kq0_ V_ δ_ hW O_ hG259_O_a0_ hG259_V_q0_ (hob.at b_177.1 fc_163) (g.fcts [7] rfl)) (cwV 1 hts (gV_ t_2626 t_2628 t_144 t_198 t_2629) rfl rfl rfl (by decide +kernel) ⟨(Nat.le_of_ble_eq_true rfl), (Nat.le_of_ble_eq_true rfl)⟩) (pre3VA g hK hAm ma0_ ka0_ (by decide) (q := (RX14, TX14, 67)) rfl) rfl rfl hl.1 rfl (lv_room (Nat.le_of_ble_eq_true rfl)) dX14_does_271 ⟨(Nat.le_of_ble_eq_true rfl), (Nat.le_of_ble_eq_true rfl)⟩) g hK (by decide) (by decide) (fx' := [(14, 38, a0_, .int x_132), (14, 49, a0_, .ref a_124), (14, 50, a0_, .ref a_32), (14, 47, a0_, .ref a_10), (14, 27, a0_, .ref a_4), (12, 14, q0_, .ref a_3), (14, 46, a0_, .ref a_1), (14, 1, a0_, .ref q0_), (14, 30, a0_, .int n_)]) rfl (fun r_179 fr_179 H locs hp hMr_179 g => ?_)
                              rcases hp with ⟨h_180, hF_181⟩ | ⟨h_182, -⟩
                              · have hG_183 := OA.frame hMr_179 go_.2.2.2.1 ma0_ ka0_ (by decide) (by decide) hG259_O_a0_
                                have hG_184 := isW.frame hMr_179 go_.2.2.2.1 ma0_ ka0_ (by decide) (by decide) hG259_W_a0_
                                have hG_185 := isV.frame hMr_179 go_.2.2.2.1 mq0_ kq0_ (by decide) (by decide) hG259_V_q0_
                                obtain rfl : r_179 = 0 := h_180
                                have g := g.more hF_181
                                refine lv_if_ne (tgt := 279) hx hb dX14_does_274 (by decide) (fun c_ => absurd c_ (by decide)) (fun c_ => ?_)
                                refine lv_iconst (v := 0) hx hb dX14_does_277 (by decide) ?_
                                subst hQ
                                exact W.zret (v := 0) hx hb hr (nar_z (bd_sub kb_0 (by decide) : bd 0 1 _).1 (bd_sub kb_0 (by decide) : bd 0 1 _).2) (fun t ht hW => ⟨⟨_, _, rfl, Or.inl ⟨rfl, trivial⟩, q3_of g hK ht hW⟩, g.2.2.1.F ht⟩) g.2.2.1.2.2 dX14_does_278
                              · have hG_186 := OA.frame hMr_179 go_.2.2.2.1 ma0_ ka0_ (by decide) (by decide) hG259_O_a0_
                                have hG_187 := isW.frame hMr_179 go_.2.2.2.1 ma0_ ka0_ (by decide) (by decide) hG259_W_a0_
                                have hG_188 := isV.frame hMr_179 go_.2.2.2.1 mq0_ kq0_ (by decide) (by decide) hG259_V_q0_
                                obtain rfl : r_179 = 1 := h_182
                                refine lv_if_ne (tgt := 279) hx hb dX14_does_274 (by decide) (fun c_ => ?_) (fun c_ => absurd c_ (by decide))
                                obtain ⟨y_189, ey_189⟩ : ∃ z : Int32, z = v259_12 + 1 := ⟨_, rfl⟩
                                refine lv_iinc (v := y_189) (lv' := [(12, .int y_189), (11, .int r_137), (9, .long x_134), (7, .long x_133), (6, .int x_132), (5, .int r_27), (4, .int r_20), (3, .int x_15), (2, .int x_2), (0, .ref a0_), (1, .int x1_)]) hx hb dX14_does_279 hl (k := 0) rfl (by rw [ey_189]; rfl) (by decide) rfl (fun ls hl => ?_)
                                have ty_189 := add_bd ey_189 b_177 kb_1 (by decide)
                                have b_190 : bd 1 3 y_189 := add_rg ty_189 b_177 kb_1 (by decide)
                                refine lv_goto (tgt := 259) hx hb dX14_does_282 (by decide) ?_
                                have hl9 := lv_sub hl [0, 1, 2, 3, 4, 5, 6, 7, 8, 9, 10] (by rfl : lv_pick [(12, .int y_189), (11, .int r_137), (9, .long x_134), (7, .long x_133), (6, .int x_132), (5, .int r_27), (4, .int r_20), (3, .int x_15), (2, .int x_2), (0, .ref a0_), (1, .int x1_)] [0, 1, 2, 3, 4, 5, 6, 7, 8, 9, 10] = [(12, .int y_189), (11, .int r_137), (9, .long x_134), (7, .long x_133), (6, .int x_132), (5, .int r_27), (4, .int r_20), (3, .int x_15), (2, .int x_2), (0, .ref a0_), (1, .int x1_)])
                                have g9 := g.sub (fx' := [(14, 38, a0_, .int x_132), (14, 49, a0_, .ref a_124), (14, 50, a0_, .ref a_32), (14, 47, a0_, .ref a_10), (14, 27, a0_, .ref a_4), (12, 14, q0_, .ref a_3), (14, 46, a0_, .ref a_1), (14, 1, a0_, .ref q0_), (14, 30, a0_, .int n_)]) [0, 1, 2, 3, 4, 5, 6, 7, 8] rfl
                                exact ih259  y_189 (bd_sub b_190 (by decide)) (by have h9_0 := b_190; unfold bd at h9_0; have h9_1 := bv259_12; unfold bd at h9_1; have h9_2 := kb_0; unfold bd at h9_2; have h9_3 := kb_1; unfold bd at h9_3; have h9_4 := kb_2; unfold bd at h9_4; have h9_5 := kb_24; unfold bd at h9_5; have h9_6 := kb_3; unfold bd at h9_6; omega) _ _ _ _ g9 hG_186 hG_187 hG_188 hl9
                        have hl9 := lv_sub hl [0, 1, 2, 3, 4, 5, 6, 7, 8, 9, 10] (by rfl : lv_pick [(12, .int 0), (11, .int r_137), (9, .long x_134), (7, .long x_133), (6, .int x_132), (5, .int r_27), (4, .int r_20), (3, .int x_15), (2, .int x_2), (0, .ref a0_), (1, .int x1_)] [0, 1, 2, 3, 4, 5, 6, 7, 8, 9, 10] = [(12, .int 0), (11, .int r_137), (9, .long x_134), (7, .long x_133), (6, .int x_132), (5, .int r_27), (4, .int r_20), (3, .int x_15), (2, .int x_2), (0, .ref a0_), (1, .int x1_)])
                        have g9 := g.sub (fx' := [(14, 38, a0_, .int x_132), (14, 49, a0_, .ref a_124), (14, 50, a0_, .ref a_32), (14, 47, a0_, .ref a_10), (14, 27, a0_, .ref a_4), (12, 14, q0_, .ref a_3), (14, 46, a0_, .ref a_1), (14, 1, a0_, .ref q0_), (14, 30, a0_, .int n_)]) [0, 1, 2, 3, 4, 5, 6, 7, 8] rfl
                        exact loop_162 (9) 0 (bd_sub kb_0 (by decide)) (by have h9_0 := kb_0; unfold bd at h9_0; have h9_1 := kb_1; unfold bd at h9_1; have h9_2 := kb_2; unfold bd at h9_2; have h9_3 := kb_24; unfold bd at h9_3; have h9_4 := kb_3; unfold bd at h9_4; omega) _ _ _ _ g9 hG_159 hG_160 hG_161 hl9
                  · have fc_142 := nle_f c_142
                    have b_191 : bd 1 5 r_137 := ltR fc_142 kb_0 h_138 (by decide)
                    refine lv_aload_n hx hb dX14_does_224 rfl (lv_at hl 8 rfl) ?_
                    refine lv_iload hx hb dX14_does_225 (lv_at hl 0 rfl) ?_
                    have go_ := g
                    refine g_put (C := RX14) (T := TX14) (N := 67) hx hb hts (mc_ inX14) tyX14 tyX14_ok nmX14 hown hK g ma0_ ka0_ (by decide) rfl 55 (by decide) (hts _ (List.mem_cons_of_mem _ t_2201)) (fun _ h9 => h9) rfl rfl (okV_i (bd_sub b_191 (by decide))) rfl rfl (by decide) (Or.inr (Or.inl (by decide))) (fx' := [(14, 33, a0_, .long x_134), (14, 32, a0_, .long x_133), (14, 38, a0_, .int x_127), (14, 49, a0_, .ref a_124), (14, 50, a0_, .ref a_32), (14, 47, a0_, .ref a_10), (14, 27, a0_, .ref a_4), (12, 14, q0_, .ref a_3), (14, 46, a0_, .ref a_1), (14, 1, a0_, .ref q0_), (14, 30, a0_, .int n_)]) rfl dX14_does_227 (fun f H locs hM_192 g => ?_)
                    have hG_193 := OA.frame hM_192 go_.2.2.2.1 ma0_ ka0_ (by decide) (by decide) hG_139
                    have hG_194 := isW.frame hM_192 go_.2.2.2.1 ma0_ ka0_ (by decide) (by decide) hG_140
                    have hG_195 := isV.frame hM_192 go_.2.2.2.1 mq0_ kq0_ (by decide) (by decide) hG_141
                    refine lv_iconst (v := 0) hx hb dX14_does_230 (by decide) ?_
                    subst hQ
                    exact W.zret (v := 0) hx hb hr (nar_z (bd_sub kb_0 (by decide) : bd 0 1 _).1 (bd_sub kb_0 (by decide) : bd 0 1 _).2) (fun t ht hW => ⟨⟨_, _, rfl, Or.inl ⟨rfl, trivial⟩, q3_of g hK ht hW⟩, g.2.2.1.F ht⟩) g.2.2.1.2.2 dX14_does_231
                · have fc_136 := eq_f c_136
                  have b_196 : bd 2 1 r_27 := eqX fc_136 b_119 kb_2 (by decide)
                  exact bd_no b_196 (by decide)
              · have fc_135 := eq_f c_135
                have b_197 : bd 3 1 r_27 := eqX fc_135 b_119 kb_3 (by decide)
                exact bd_no b_197 (by decide)
        · have fc_25 := neq_f c_25
          have b_198 : bd (-1) 0 r_20 := neX fc_25 h_21 kb_1 (by decide)
          refine lv_iload hx hb dX14_does_82 (lv_at hl 0 rfl) ?_
          have kb_0 : bd 0 0 (0 : Int32) := ⟨by decide, by decide⟩
          refine lv_if_ne (tgt := 92) hx hb dX14_does_84 (by decide) (fun c_199 => ?_) (fun c_199 => ?_)
          · have fc_199 := neq_f c_199
            have b_200 : bd (-1) (-1) r_20 := neX fc_199 b_198 kb_0 (by decide)
            refine lv_iconst (v := 0) hx hb dX14_does_92 (by decide) ?_
            subst hQ
            exact W.zret (v := 0) hx hb hr (nar_z (bd_sub kb_0 (by decide) : bd 0 1 _).1 (bd_sub kb_0 (by decide) : bd 0 1 _).2) (fun t ht hW => ⟨⟨_, _, rfl, Or.inl ⟨rfl, trivial⟩, q3_of g hK ht hW⟩, g.2.2.1.F ht⟩) g.2.2.1.2.2 dX14_does_93
          · have fc_199 := eq_f c_199
            have b_201 : bd 0 0 r_20 := eqX fc_199 b_198 kb_0 (by decide)
            refine lv_aload_n hx hb dX14_does_87 rfl (lv_at hl 3 rfl) ?_
            refine lv_iconst (v := (-1)) hx hb dX14_does_88 (by decide) ?_
            have kb_m1 : bd (-1) (-1) ((-1) : Int32) := ⟨by decide, by decide⟩
            have go_ := g
            refine g_put (C := RX14) (T := TX14) (N := 67) hx hb hts (mc_ inX14) tyX14 tyX14_ok nmX14 hown hK g ma0_ ka0_ (by decide) rfl 55 (by decide) (hts _ (List.mem_cons_of_mem _ t_2201)) (fun _ h9 => h9) rfl rfl (okV_i (bd_sub kb_m1 (by decide))) rfl rfl (by decide) (Or.inr (Or.inl (by decide))) (fx' := [(14, 47, a0_, .ref a_10), (14, 27, a0_, .ref a_4), (12, 14, q0_, .ref a_3), (14, 46, a0_, .ref a_1), (14, 1, a0_, .ref q0_), (14, 30, a0_, .int n_)]) rfl dX14_does_89 (fun f H locs hM_202 g => ?_)
            have hG_203 := OA.frame hM_202 go_.2.2.2.1 ma0_ ka0_ (by decide) (by decide) hG_22
            have hG_204 := isW.frame hM_202 go_.2.2.2.1 ma0_ ka0_ (by decide) (by decide) hG_23
            have hG_205 := isV.frame hM_202 go_.2.2.2.1 mq0_ kq0_ (by decide) (by decide) hG_24
            refine lv_iconst (v := 0) hx hb dX14_does_92 (by decide) ?_
            subst hQ
            exact W.zret (v := 0) hx hb hr (nar_z (bd_sub kb_0 (by decide) : bd 0 1 _).1 (bd_sub kb_0 (by decide) : bd 0 1 _).2) (fun t ht hW => ⟨⟨_, _, rfl, Or.inl ⟨rfl, trivial⟩, q3_of g hK ht hW⟩, g.2.2.1.F ht⟩) g.2.2.1.2.2 dX14_does_93
      · have fc_18 := nle_f c_18
        have b_206 : bd 0 23 v35_4 := ltL fc_18 bv35_4 kb_24 (by decide)
        refine lv_aload_n hx hb dX14_does_42 rfl (lv_at hl 3 rfl) ?_
        refine g_getr (K := 217) (C := RX14) (T := TX14) (N := 67) hx hb hts (mc_ inX14) hown hK g ma0_ ka0_ (by decide) rfl 29 (by decide) rfl (hts _ (List.mem_cons_of_mem _ t_2175)) (fun _ h9 => h9) rfl dX14_does_43 (fun a_207 ma_207 ka_207 g => ?_)
        refine lv_iload hx hb dX14_does_46 (lv_at hl 0 rfl) ?_
        refine lv_aload_n hx hb dX14_does_48 rfl (lv_at hl 3 rfl) ?_
        refine g_getr (K := 216) (C := RX14) (T := TX14) (N := 67) hx hb hts (mc_ inX14) hown hK g ma0_ ka0_ (by decide) rfl 28 (by decide) rfl (hts _ (List.mem_cons_of_mem _ t_2174)) (fun _ h9 => h9) rfl dX14_does_49 (fun a_208 ma_208 ka_208 g => ?_)
        refine lv_bipush (v := 24) hx hb dX14_does_52 (by decide) ?_
        refine lv_iload_n hx hb dX14_does_54 rfl (lv_at hl 2 rfl) ?_
        refine lv_imul hx hb dX14_does_55 ?_
        refine lv_topi (fun y_209 ey_209 => ?_)
        have ty_209 := cmul_bd ey_209 (c := 24) (by decide) bx_2 (by decide)
        have b_210 : bd 0 48 y_209 := mulc_rg ty_209 bx_2 (by decide)
        refine lv_iload hx hb dX14_does_56 (lv_at hl 0 rfl) ?_
        refine lv_iadd hx hb dX14_does_58 ?_
        refine lv_topi (fun y_211 ey_211 => ?_)
        have ty_211 := add_bd ey_211 b_210 b_206 (by decide)
        have b_212 : bd 0 71 y_211 := add_rg ty_211 b_210 b_206 (by decide)
        refine g_iald hx hb hK g ma_208 ka_208 (by decide) rfl (in_bd b_212 (by decide)) dX14_does_59 (fun x_213 bx_213 cx_213 => ?_)
        have go_ := g
        refine g_iast hx hb hK g ma_207 ka_207 (by decide) rfl (in_bd b_206 (by decide)) (bdT x_213) (by decide) dX14_does_60 (fun f H locs hM_214 g => ?_)
        have hG_215 := OA.frame hM_214 go_.2.2.2.1 ma0_ ka0_ (by decide) (by decide) hG35_O_a0_
        have hG_216 := isW.frame hM_214 go_.2.2.2.1 ma0_ ka0_ (by decide) (by decide) hG35_W_a0_
        have hG_217 := isV.frame hM_214 go_.2.2.2.1 mq0_ kq0_ (by decide) (by decide) hG35_V_q0_
        have kb_1 : bd 1 1 (1 : Int32) := ⟨by decide, by decide⟩
        obtain ⟨y_218, ey_218⟩ : ∃ z : Int32, z = v35_4 + 1 := ⟨_, rfl⟩
        refine lv_iinc (v := y_218) (lv' := [(4, .int y_218), (3, .int x_15), (2, .int x_2), (0, .ref a0_), (1, .int x1_)]) hx hb dX14_does_61 hl (k := 0) rfl (by rw [ey_218]; rfl) (by decide) rfl (fun ls hl => ?_)
        have ty_218 := add_bd ey_218 b_206 kb_1 (by decide)
        have b_219 : bd 1 24 y_218 := add_rg ty_218 b_206 kb_1 (by decide)
        refine lv_goto (tgt := 35) hx hb dX14_does_64 (by decide) ?_
        have hl9 := lv_sub hl [0, 1, 2, 3, 4] (by rfl : lv_pick [(4, .int y_218), (3, .int x_15), (2, .int x_2), (0, .ref a0_), (1, .int x1_)] [0, 1, 2, 3, 4] = [(4, .int y_218), (3, .int x_15), (2, .int x_2), (0, .ref a0_), (1, .int x1_)])
        have g9 := g.sub (fx' := [(14, 47, a0_, .ref a_10), (14, 27, a0_, .ref a_4), (12, 14, q0_, .ref a_3), (14, 46, a0_, .ref a_1), (14, 1, a0_, .ref q0_), (14, 30, a0_, .int n_)]) [2, 3, 4, 5, 6, 7] rfl
        exact ih35  y_218 (bd_sub b_219 (by decide)) (by have h9_0 := b_219; unfold bd at h9_0; have h9_1 := bv35_4; unfold bd at h9_1; have h9_2 := kb_1; unfold bd at h9_2; have h9_3 := kb_24; unfold bd at h9_3; omega) _ _ _ _ g9 hG_215 hG_216 hG_217 hl9
  have kb_0 : bd 0 0 (0 : Int32) := ⟨by decide, by decide⟩
  have hl9 := lv_sub hl [0, 1, 2, 3, 4] (by rfl : lv_pick [(4, .int 0), (3, .int x_15), (2, .int x_2), (0, .ref a0_), (1, .int x1_)] [0, 1, 2, 3, 4] = [(4, .int 0), (3, .int x_15), (2, .int x_2), (0, .ref a0_), (1, .int x1_)])
  have g9 := g.sub (fx' := [(14, 47, a0_, .ref a_10), (14, 27, a0_, .ref a_4), (12, 14, q0_, .ref a_3), (14, 46, a0_, .ref a_1), (14, 1, a0_, .ref q0_), (14, 30, a0_, .int n_)]) [0, 1, 2, 3, 4, 5] rfl
  exact loop_17 (51) 0 (bd_sub kb_0 (by decide)) (by have h9_0 := kb_0; unfold bd at h9_0; omega) _ _ _ _ g9 hGOa0_ hGWa0_ hGVq0_ hl9
set_option maxHeartbeats 4000000 in
set_option maxRecDepth 100000 in
theorem r_X14_begin (l : Launch) (dC : Nat → ClassId) (dI : Nat → Nat → Nat) (L : List Nat) (kd : Nat → Nat) (tys : List (ClassId × FieldType)) (f0 : Nat → va_E) (sz : Nat) (hWT : WT L kd tys f0) (a0_ : Nat) (ma0_ : a0_ ∈ L) (ka0_ : kd a0_ = 14) (x1_ : Int32) (bx1_ : bd 0 5 x1_) (x2_ : Int32) (bx2_ : bd (-1) 7 x2_) (q0_ : Nat) (mq0_ : q0_ ∈ L) (kq0_ : kd q0_ = 12) (V_ : PV) (δ_ : Nat → Nat) (hW : wfP V_ δ_) (O_ : Nat → Int32) (hGOa0_ : OA f0 a0_ O_) (hGVq0_ : isV f0 q0_ V_) (hc : x2_.toInt = -1 ∨ okc V_ x2_) (hfx : Fs L kd f0 [(14, 1, a0_, .ref q0_)]) : Met l yX14_begin (.code yX14_begin cX14_begin 6 none :: lw_g) ({ frames := 0, cells := 0, slots := 0, locals := 0 }) (va_Pc [.ref a0_, .int x1_, .int x2_] (P3 (dC, dI) L tys f0 sz)) (va_Qv (fun (f : Nat → va_E) => ((OA f a0_ (fun j => if j = x1_.toNatClampNeg then x2_ else O_ j)) ∧ True)) (Q3 (dC, dI) L kd tys [] [215, 216] f0 sz) (pA L sz)) 0 0 (pA L sz) := by
  refine Met.ofW (cc := cX14_begin) (maxL := 6) (ret := none) (by decide) rfl ?_
  intro p e s m args below meth c s₁ B hml hv
  obtain ⟨rfl, hsz, hP, hK, hD0⟩ := hv
  have hx := B.exec
  have hb := B.bytes
  have hr := B.returns
  have hts := atoms_spec (ws := (.code yX14_begin cX14_begin 6 none :: lw_g)) B.pre
  have hown : s.vm.findClass RX14 = some m.cls := findClass_of_methodNamed B.named
  have hlocks := B.notSynchronized
  subst hsz
  have g : G3 (dC, dI) L kd tys s f0 [] [215, 216] f0 s.heap [] [(14, 1, a0_, .ref q0_)] := G3.start hP hD0 hWT hfx
  have hl := lv_entry ([.ref a0_, .int x1_, .int x2_]) (n := 6) (Nat.le_of_ble_eq_true rfl)
  rw [lg_entry_eq]
  generalize (lg_sl ([.ref a0_, .int x1_, .int x2_]) ++ List.replicate (6 - (lg_sl ([.ref a0_, .int x1_, .int x2_])).length) Slot.unset).toArray = ls at hl ⊢
  have hl : lv_has ls 6 [(0, .ref a0_), (1, .int x1_), (2, .int x2_)] := hl
  refine W_q (fun Q hQ => ?_)
  refine lv_aload_n hx hb dX14_begin_0 rfl (lv_at hl 0 rfl) ?_
  refine g_getr (K := 215) (C := RX14) (T := TX14) (N := 67) hx hb hts (mc_ inX14) hown hK g ma0_ ka0_ (by decide) rfl 27 (by decide) rfl (hts _ (List.mem_cons_of_mem _ t_2173)) (fun _ h9 => h9) rfl dX14_begin_1 (fun a_1 ma_1 ka_1 g => ?_)
  refine lv_iload_n hx hb dX14_begin_4 rfl (lv_at hl 1 rfl) ?_
  refine lv_iload_n hx hb dX14_begin_5 rfl (lv_at hl 2 rfl) ?_
  have gp_2 := g
  have go_ := g
  refine g_iastX hx hb hK g ma_1 ka_1 (by decide) rfl (in_bd bx1_ (by decide)) bx2_ (by decide) dX14_begin_6 (fun f H locs hM_3 u_5 g => ?_)
  have hG_4 := isV.frame hM_3 go_.2.2.2.1 mq0_ kq0_ (by decide) (by decide) hGVq0_
  have hG_6 := OA.put hGOa0_ gp_2 0 rfl ka0_ ka_1 u_5
  refine lv_iconst (v := 0) hx hb dX14_begin_7 (by decide) ?_
  refine lv_istore_n (lv' := [(3, .int 0), (0, .ref a0_), (1, .int x1_), (2, .int x2_)]) hx hb dX14_begin_8 rfl hl (by decide) rfl (fun ls hl => ?_)
  have loop_7 : ∀ (n : Nat) (v9_3 : Int32), bd 0 24 v9_3 → (24 - v9_3.toInt < (n : Int)) → ∀ (f : Nat → va_E) (H : Heap) (locs : List Loc) (ls : Array Slot), G3 (dC, dI) L kd tys s f0 [] [215, 216] f H locs [(14, 27, a0_, .ref a_1), (14, 1, a0_, .ref q0_)] → isV f q0_ V_ → OA f a0_ (fun j => if j = x1_.toNatClampNeg then x2_ else O_ j) → lv_has ls 6 [(3, .int v9_3), (0, .ref a0_), (1, .int x1_), (2, .int x2_)] → W p l e ({ frames := 0, cells := 0, slots := 0, locals := 0 } : Room) s m [.ref a0_, .int x1_, .int x2_].toArray below meth c H locs 0 0 Q (F0 m 9 ls []) := by
    intro n9
    induction n9 with
    | zero =>
      intro v9_3 bv9_3 hm9 f H locs ls g hG9_V_q0_ hG9_O_a0_ hl
      exact absurd hm9 (by have h9_v9_3 := bv9_3; unfold bd at h9_v9_3; omega)
    | succ n9 ih9 =>
      intro v9_3 bv9_3 hm9 f H locs ls g hG9_V_q0_ hG9_O_a0_ hl
      refine lv_iload_n hx hb dX14_begin_9 rfl (lv_at hl 0 rfl) ?_
      refine lv_bipush (v := 24) hx hb dX14_begin_10 (by decide) ?_
      have kb_24 : bd 24 24 (24 : Int32) := ⟨by decide, by decide⟩
      refine lv_icmp_ge (tgt := 33) hx hb dX14_begin_12 (by decide) (fun c_8 => ?_) (fun c_8 => ?_)
      · have fc_8 := le_f c_8
        have b_9 : bd 24 24 v9_3 := leR fc_8 kb_24 bv9_3 (by decide)
        refine lv_iload_n hx hb dX14_begin_33 rfl (lv_at hl 3 rfl) ?_
        refine lv_iconst (v := (-1)) hx hb dX14_begin_34 (by decide) ?_
        have kb_m1 : bd (-1) (-1) ((-1) : Int32) := ⟨by decide, by decide⟩
        refine lv_icmp_ne (tgt := 39) hx hb dX14_begin_35 (by decide) (fun c_10 => ?_) (fun c_10 => ?_)
        · have fc_10 := neq_f c_10
          have b_11 : bd 0 7 x2_ := neX fc_10 bx2_ kb_m1 (by decide)
          refine lv_iconst (v := 0) hx hb dX14_begin_39 (by decide) ?_
          refine lv_istore_n (lv' := [(3, .int 0), (0, .ref a0_), (1, .int x1_), (2, .int x2_)]) hx hb dX14_begin_40 rfl hl (by decide) rfl (fun ls hl => ?_)
          have loop_12 : ∀ (n : Nat) (v41_3 : Int32), bd 0 10 v41_3 → (10 - v41_3.toInt < (n : Int)) → ∀ (f : Nat → va_E) (H : Heap) (locs : List Loc) (ls : Array Slot), G3 (dC, dI) L kd tys s f0 [] [215, 216] f H locs [(14, 27, a0_, .ref a_1), (14, 1, a0_, .ref q0_)] → isV f q0_ V_ → OA f a0_ (fun j => if j = x1_.toNatClampNeg then x2_ else O_ j) → lv_has ls 6 [(3, .int v41_3), (0, .ref a0_), (1, .int x1_), (2, .int x2_)] → W p l e ({ frames := 0, cells := 0, slots := 0, locals := 0 } : Room) s m [.ref a0_, .int x1_, .int x2_].toArray below meth c H locs 0 0 Q (F0 m 41 ls []) := by
            intro n41
            induction n41 with
            | zero =>
              intro v41_3 bv41_3 hm41 f H locs ls g hG41_V_q0_ hG41_O_a0_ hl
              exact absurd hm41 (by have h9_v41_3 := bv41_3; unfold bd at h9_v41_3; omega)
            | succ n41 ih41 =>
              intro v41_3 bv41_3 hm41 f H locs ls g hG41_V_q0_ hG41_O_a0_ hl
              refine lv_iload_n hx hb dX14_begin_41 rfl (lv_at hl 0 rfl) ?_
              refine lv_aload_n hx hb dX14_begin_42 rfl (lv_at hl 1 rfl) ?_
              refine g_getk (C := RX14) (T := TX14) (N := 67) hx hb hts (mc_ inX14) hown hK g rfl 1 (by decide) rfl (hts _ (List.mem_cons_of_mem _ t_2147)) (fun _ h9 => h9) 1 rfl dX14_begin_43 ?_
              refine g_getr (K := 160) (C := RX12) (T := TX12) (N := 60) hx hb hts (mc_ inX12) hown hK g mq0_ kq0_ (by decide) rfl 4 (by decide) rfl (hts _ (List.mem_cons_of_mem _ t_1914)) (fun _ h9 => h9) rfl dX14_begin_46 (fun a_13 ma_13 ka_13 g => ?_)
              refine lv_iload_n hx hb dX14_begin_49 rfl (lv_at hl 3 rfl) ?_
              refine g_iald hx hb hK g ma_13 ka_13 (by decide) rfl (in_bd b_11 (by decide)) dX14_begin_50 (fun x_14 bx_14 cx_14 => ?_)
              have vx_14 : x_14 = V_.i 4 x2_.toNatClampNeg := hG41_V_q0_.at g 0 rfl rfl cx_14
              refine lv_icmp_ge (tgt := 154) hx hb dX14_begin_51 (by decide) (fun c_15 => ?_) (fun c_15 => ?_)
              · have fc_15 := le_f c_15
                subst hQ
                exact W.vret hx hb hr (fun t ht hW => ⟨⟨_, rfl, ⟨hG41_O_a0_, trivial⟩, q3_of g hK ht hW⟩, g.2.2.1.F ht⟩) g.2.2.1.2.2 dX14_begin_154
              · have fc_15 := nle_f c_15
                have b_16 : bd 0 9 v41_3 := ltL fc_15 bv41_3 bx_14 (by decide)
                have b_17 : bd 1 10 x_14 := ltR fc_15 bv41_3 bx_14 (by decide)
                refine lv_aload_n hx hb dX14_begin_54 rfl (lv_at hl 1 rfl) ?_
                refine g_getk (C := RX14) (T := TX14) (N := 67) hx hb hts (mc_ inX14) hown hK g rfl 1 (by decide) rfl (hts _ (List.mem_cons_of_mem _ t_2147)) (fun _ h9 => h9) 2 rfl dX14_begin_55 ?_
                refine g_getr (K := 164) (C := RX12) (T := TX12) (N := 60) hx hb hts (mc_ inX12) hown hK g mq0_ kq0_ (by decide) rfl 8 (by decide) rfl (hts _ (List.mem_cons_of_mem _ t_1922)) (fun _ h9 => h9) rfl dX14_begin_58 (fun a_18 ma_18 ka_18 g => ?_)
                refine lv_bipush (v := 10) hx hb dX14_begin_61 (by decide) ?_
                refine lv_iload_n hx hb dX14_begin_63 rfl (lv_at hl 3 rfl) ?_
                refine lv_imul hx hb dX14_begin_64 ?_
                refine lv_topi (fun y_19 ey_19 => ?_)
                have ty_19 := cmul_bd ey_19 (c := 10) (by decide) b_11 (by decide)
                have b_20 : bd 0 70 y_19 := mulc_rg ty_19 b_11 (by decide)
                refine lv_iload_n hx hb dX14_begin_65 rfl (lv_at hl 0 rfl) ?_
                refine lv_iadd hx hb dX14_begin_66 ?_
                refine lv_topi (fun y_21 ey_21 => ?_)
                have ty_21 := add_bd ey_21 b_20 b_16 (by decide)
                have b_22 : bd 0 79 y_21 := add_rg ty_21 b_20 b_16 (by decide)
                refine g_iald hx hb hK g ma_18 ka_18 (by decide) rfl (in_bd b_22 (by decide)) dX14_begin_67 (fun x_23 bx_23 cx_23 => ?_)
                have vx_23 : x_23 = V_.i 8 y_21.toNatClampNeg := hG41_V_q0_.at g 0 rfl rfl cx_23
                have kb_0 : bd 0 0 (0 : Int32) := ⟨by decide, by decide⟩
                refine lv_if_ne (tgt := 75) hx hb dX14_begin_68 (by decide) (fun c_24 => ?_) (fun c_24 => ?_)
                · have fc_24 := neq_f c_24
                  have b_25 : bd 1 8 x_23 := neX fc_24 bx_23 kb_0 (by decide)
                  refine lv_aload_n hx hb dX14_begin_75 rfl (lv_at hl 1 rfl) ?_
                  refine g_getk (C := RX14) (T := TX14) (N := 67) hx hb hts (mc_ inX14) hown hK g rfl 1 (by decide) rfl (hts _ (List.mem_cons_of_mem _ t_2147)) (fun _ h9 => h9) 3 rfl dX14_begin_76 ?_
                  refine g_getk (C := RX12) (T := TX12) (N := 60) hx hb hts (mc_ inX12) hown hK g rfl 8 (by decide) rfl (hts _ (List.mem_cons_of_mem _ t_1922)) (fun _ h9 => h9) 0 rfl dX14_begin_79 ?_
                  refine lv_bipush (v := 10) hx hb dX14_begin_82 (by decide) ?_
                  refine lv_iload_n hx hb dX14_begin_84 rfl (lv_at hl 3 rfl) ?_
                  refine lv_imul hx hb dX14_begin_85 ?_
                  refine lv_topi (fun y_26 ey_26 => ?_)
                  obtain rfl : y_19 = y_26 := ey_19.trans ey_26.symm
                  refine lv_iload_n hx hb dX14_begin_86 rfl (lv_at hl 0 rfl) ?_
                  refine lv_iadd hx hb dX14_begin_87 ?_
                  refine lv_topi (fun y_27 ey_27 => ?_)
                  obtain rfl : y_21 = y_27 := ey_21.trans ey_27.symm
                  refine g_iald hx hb hK g ma_18 ka_18 (by decide) rfl (in_bd b_22 (by decide)) dX14_begin_88 (fun x_28 bx_28 cx_28 => ?_)
                  obtain rfl : x_23 = x_28 := el_same cx_23 cx_28 rfl
                  refine lv_istore (lv' := [(4, .int x_23), (3, .int v41_3), (0, .ref a0_), (1, .int x1_), (2, .int x2_)]) hx hb dX14_begin_89 hl (by decide) rfl (fun ls hl => ?_)
                  refine lv_iconst (v := 0) hx hb dX14_begin_91 (by decide) ?_
                  refine lv_istore (lv' := [(5, .int 0), (4, .int x_23), (3, .int v41_3), (0, .ref a0_), (1, .int x1_), (2, .int x2_)]) hx hb dX14_begin_92 hl (by decide) rfl (fun ls hl => ?_)
                  have loop_29 : ∀ (n : Nat) (v94_5 : Int32), bd 0 8 v94_5 → (8 - v94_5.toInt < (n : Int)) → ∀ (f : Nat → va_E) (H : Heap) (locs : List Loc) (ls : Array Slot), G3 (dC, dI) L kd tys s f0 [] [215, 216] f H locs [(12, 8, q0_, .ref a_18), (12, 4, q0_, .ref a_13), (14, 27, a0_, .ref a_1), (14, 1, a0_, .ref q0_)] → isV f q0_ V_ → OA f a0_ (fun j => if j = x1_.toNatClampNeg then x2_ else O_ j) → lv_has ls 6 [(5, .int v94_5), (4, .int x_23), (3, .int v41_3), (0, .ref a0_), (1, .int x1_), (2, .int x2_)] → W p l e ({ frames := 0, cells := 0, slots := 0, locals := 0 } : Room) s m [.ref a0_, .int x1_, .int x2_].toArray below meth c H locs 0 0 Q (F0 m 94 ls []) := by
                    intro n94
                    induction n94 with
                    | zero =>
                      intro v94_5 bv94_5 hm94 f H locs ls g hG94_V_q0_ hG94_O_a0_ hl
                      exact absurd hm94 (by have h9_v94_5 := bv94_5; unfold bd at h9_v94_5; omega)
                    | succ n94 ih94 =>
                      intro v94_5 bv94_5 hm94 f H locs ls g hG94_V_q0_ hG94_O_a0_ hl
                      refine lv_iload hx hb dX14_begin_94 (lv_at hl 0 rfl) ?_
                      refine lv_iload hx hb dX14_begin_96 (lv_at hl 1 rfl) ?_
                      refine lv_icmp_ge (tgt := 148) hx hb dX14_begin_98 (by decide) (fun c_30 => ?_) (fun c_30 => ?_)
                      · have fc_30 := le_f c_30
                        have b_31 : bd 1 8 v94_5 := leR fc_30 b_25 bv94_5 (by decide)
                        have kb_1 : bd 1 1 (1 : Int32) := ⟨by decide, by decide⟩
                        obtain ⟨y_32, ey_32⟩ : ∃ z : Int32, z = v41_3 + 1 := ⟨_, rfl⟩
                        refine lv_iinc (v := y_32) (lv' := [(3, .int y_32), (5, .int v94_5), (4, .int x_23), (0, .ref a0_), (1, .int x1_), (2, .int x2_)]) hx hb dX14_begin_148 hl (k := 2) rfl (by rw [ey_32]; rfl) (by decide) rfl (fun ls hl => ?_)
                        have ty_32 := add_bd ey_32 b_16 kb_1 (by decide)
                        have b_33 : bd 1 10 y_32 := add_rg ty_32 b_16 kb_1 (by decide)
                        refine lv_goto (tgt := 41) hx hb dX14_begin_151 (by decide) ?_
                        have hl9 := lv_sub hl [0, 3, 4, 5] (by rfl : lv_pick [(3, .int y_32), (5, .int v94_5), (4, .int x_23), (0, .ref a0_), (1, .int x1_), (2, .int x2_)] [0, 3, 4, 5] = [(3, .int y_32), (0, .ref a0_), (1, .int x1_), (2, .int x2_)])
                        have g9 := g.sub (fx' := [(14, 27, a0_, .ref a_1), (14, 1, a0_, .ref q0_)]) [2, 3] rfl
                        exact ih41  y_32 (bd_sub b_33 (by decide)) (by have h9_0 := b_33; unfold bd at h9_0; have h9_1 := bv41_3; unfold bd at h9_1; have h9_2 := kb_0; unfold bd at h9_2; have h9_3 := kb_1; unfold bd at h9_3; have h9_4 := kb_24; unfold bd at h9_4; have h9_5 := kb_m1; unfold bd at h9_5; omega) _ _ _ _ g9 hG94_V_q0_ hG94_O_a0_ hl9
                      · have fc_30 := nle_f c_30
                        have b_34 : bd 0 7 v94_5 := ltL fc_30 bv94_5 b_25 (by decide)
                        refine lv_aload_n hx hb dX14_begin_101 rfl (lv_at hl 3 rfl) ?_
                        refine g_getr (K := 216) (C := RX14) (T := TX14) (N := 67) hx hb hts (mc_ inX14) hown hK g ma0_ ka0_ (by decide) rfl 28 (by decide) rfl (hts _ (List.mem_cons_of_mem _ t_2174)) (fun _ h9 => h9) rfl dX14_begin_102 (fun a_35 ma_35 ka_35 g => ?_)
                        refine lv_bipush (v := 24) hx hb dX14_begin_105 (by decide) ?_
                        refine lv_iload_n hx hb dX14_begin_107 rfl (lv_at hl 4 rfl) ?_
                        refine lv_imul hx hb dX14_begin_108 ?_
                        refine lv_topi (fun y_36 ey_36 => ?_)
                        have ty_36 := cmul_bd ey_36 (c := 24) (by decide) bx1_ (by decide)
                        have b_37 : bd 0 120 y_36 := mulc_rg ty_36 bx1_ (by decide)
                        refine lv_aload_n hx hb dX14_begin_109 rfl (lv_at hl 3 rfl) ?_
                        refine g_getk (C := RX14) (T := TX14) (N := 67) hx hb hts (mc_ inX14) hown hK g rfl 1 (by decide) rfl (hts _ (List.mem_cons_of_mem _ t_2147)) (fun _ h9 => h9) 4 rfl dX14_begin_110 ?_
                        refine g_getr (K := 165) (C := RX12) (T := TX12) (N := 60) hx hb hts (mc_ inX12) hown hK g mq0_ kq0_ (by decide) rfl 9 (by decide) rfl (hts _ (List.mem_cons_of_mem _ t_1924)) (fun _ h9 => h9) rfl dX14_begin_113 (fun a_38 ma_38 ka_38 g => ?_)
                        refine lv_bipush (v := 10) hx hb dX14_begin_116 (by decide) ?_
                        refine lv_iload_n hx hb dX14_begin_118 rfl (lv_at hl 5 rfl) ?_
                        refine lv_imul hx hb dX14_begin_119 ?_
                        refine lv_topi (fun y_39 ey_39 => ?_)
                        obtain rfl : y_19 = y_39 := ey_19.trans ey_39.symm
                        refine lv_iload_n hx hb dX14_begin_120 rfl (lv_at hl 2 rfl) ?_
                        refine lv_iadd hx hb dX14_begin_121 ?_
                        refine lv_topi (fun y_40 ey_40 => ?_)
                        obtain rfl : y_21 = y_40 := ey_21.trans ey_40.symm
                        refine g_iald hx hb hK g ma_38 ka_38 (by decide) rfl (in_bd b_22 (by decide)) dX14_begin_122 (fun x_41 bx_41 cx_41 => ?_)
                        have vx_41 : x_41 = V_.i 9 y_21.toNatClampNeg := hG94_V_q0_.at g 0 rfl rfl cx_41
                        have hf_42 := fld_at hW (hc.resolve_left fc_10) b_16.1 vx_14 fc_15 (by have h9_0 := b_16; unfold bd at h9_0; have h9_1 := b_34; unfold bd at h9_1; have h9_2 := b_9; unfold bd at h9_2; have h9_3 := bx1_; unfold bd at h9_3; have h9_4 := b_11; unfold bd at h9_4; have h9_5 := b_17; unfold bd at h9_5; have h9_6 := b_25; unfold bd at h9_6; have h9_7 := bx_28; unfold bd at h9_7; have h9_8 := bx_41; unfold bd at h9_8; have h9_9 := b_20; unfold bd at h9_9; have h9_10 := b_22; unfold bd at h9_10; have h9_11 := b_37; unfold bd at h9_11; have h8_0 := kb_0; unfold bd at h8_0; have h8_1 := kb_24; unfold bd at h8_1; have h8_2 := kb_m1; unfold bd at h8_2; omega) vx_41 vx_23
                        have b_43 : bd 0 23 x_41 := ⟨bx_41.1, hf_42.1⟩
                        refine lv_iadd hx hb dX14_begin_123 ?_
                        refine lv_topi (fun y_44 ey_44 => ?_)
                        have ty_44 := add_bd ey_44 b_37 b_43 (by decide)
                        have b_45 : bd 0 143 y_44 := add_rg ty_44 b_37 b_43 (by decide)
                        refine lv_iload hx hb dX14_begin_124 (lv_at hl 0 rfl) ?_
                        refine lv_iadd hx hb dX14_begin_126 ?_
                        refine lv_topi (fun y_46 ey_46 => ?_)
                        have ty_46 := add_bd ey_46 b_45 b_34 (by decide)
                        have b_47 : bd 0 150 y_46 := add_rg ty_46 b_45 b_34 (by decide)
                        refine lv_aload_n hx hb dX14_begin_127 rfl (lv_at hl 3 rfl) ?_
                        refine g_getk (C := RX14) (T := TX14) (N := 67) hx hb hts (mc_ inX14) hown hK g rfl 1 (by decide) rfl (hts _ (List.mem_cons_of_mem _ t_2147)) (fun _ h9 => h9) 5 rfl dX14_begin_128 ?_
                        refine g_getr (K := 166) (C := RX12) (T := TX12) (N := 60) hx hb hts (mc_ inX12) hown hK g mq0_ kq0_ (by decide) rfl 10 (by decide) rfl (hts _ (List.mem_cons_of_mem _ t_1926)) (fun _ h9 => h9) rfl dX14_begin_131 (fun a_48 ma_48 ka_48 g => ?_)
                        refine lv_bipush (v := 10) hx hb dX14_begin_134 (by decide) ?_
                        refine lv_iload_n hx hb dX14_begin_136 rfl (lv_at hl 5 rfl) ?_
                        refine lv_imul hx hb dX14_begin_137 ?_
                        refine lv_topi (fun y_49 ey_49 => ?_)
                        obtain rfl : y_19 = y_49 := ey_19.trans ey_49.symm
                        refine lv_iload_n hx hb dX14_begin_138 rfl (lv_at hl 2 rfl) ?_
                        refine lv_iadd hx hb dX14_begin_139 ?_
                        refine lv_topi (fun y_50 ey_50 => ?_)
                        obtain rfl : y_21 = y_50 := ey_21.trans ey_50.symm
                        refine g_iald hx hb hK g ma_48 ka_48 (by decide) rfl (in_bd b_22 (by decide)) dX14_begin_140 (fun x_51 bx_51 cx_51 => ?_)
                        have vx_51 : x_51 = V_.i 10 y_21.toNatClampNeg := hG94_V_q0_.at g 0 rfl rfl cx_51
                        have go_ := g
                        refine g_iast hx hb hK g ma_35 ka_35 (by decide) rfl (in_ok (by have h9_0 := b_16; unfold bd at h9_0; have h9_1 := b_34; unfold bd at h9_1; have h9_2 := b_9; unfold bd at h9_2; have h9_3 := bx1_; unfold bd at h9_3; have h9_4 := b_11; unfold bd at h9_4; have h9_5 := b_17; unfold bd at h9_5; have h9_6 := b_25; unfold bd at h9_6; have h9_7 := bx_28; unfold bd at h9_7; have h9_8 := b_43; unfold bd at h9_8; have h9_9 := b_20; unfold bd at h9_9; have h9_10 := b_22; unfold bd at h9_10; have h9_11 := b_37; unfold bd at h9_11; have h9_12 := b_45; unfold bd at h9_12; have h9_13 := b_47; unfold bd at h9_13; have h8_0 := kb_0; unfold bd at h8_0; have h8_1 := kb_24; unfold bd at h8_1; have h8_2 := kb_m1; unfold bd at h8_2; omega) (by have h9_0 := b_16; unfold bd at h9_0; have h9_1 := b_34; unfold bd at h9_1; have h9_2 := b_9; unfold bd at h9_2; have h9_3 := bx1_; unfold bd at h9_3; have h9_4 := b_11; unfold bd at h9_4; have h9_5 := b_17; unfold bd at h9_5; have h9_6 := b_25; unfold bd at h9_6; have h9_7 := bx_28; unfold bd at h9_7; have h9_8 := b_43; unfold bd at h9_8; have h9_9 := b_20; unfold bd at h9_9; have h9_10 := b_22; unfold bd at h9_10; have h9_11 := b_37; unfold bd at h9_11; have h9_12 := b_45; unfold bd at h9_12; have h9_13 := b_47; unfold bd at h9_13; have h8_0 := kb_0; unfold bd at h8_0; have h8_1 := kb_24; unfold bd at h8_1; have h8_2 := kb_m1; unfold bd at h8_2; omega)) (bdT x_51) (by decide) dX14_begin_141 (fun f H locs hM_52 g => ?_)
                        have hG_53 := isV.frame hM_52 go_.2.2.2.1 mq0_ kq0_ (by decide) (by decide) hG94_V_q0_
                        have hG_54 := OA.frame hM_52 go_.2.2.2.1 ma0_ ka0_ (by decide) (by decide) hG94_O_a0_
                        have kb_1 : bd 1 1 (1 : Int32) := ⟨by decide, by decide⟩
                        obtain ⟨y_55, ey_55⟩ : ∃ z : Int32, z = v94_5 + 1 := ⟨_, rfl⟩
                        refine lv_iinc (v := y_55) (lv' := [(5, .int y_55), (4, .int x_23), (3, .int v41_3), (0, .ref a0_), (1, .int x1_), (2, .int x2_)]) hx hb dX14_begin_142 hl (k := 0) rfl (by rw [ey_55]; rfl) (by decide) rfl (fun ls hl => ?_)
                        have ty_55 := add_bd ey_55 b_34 kb_1 (by decide)
                        have b_56 : bd 1 8 y_55 := add_rg ty_55 b_34 kb_1 (by decide)
                        refine lv_goto (tgt := 94) hx hb dX14_begin_145 (by decide) ?_
                        have hl9 := lv_sub hl [0, 1, 2, 3, 4, 5] (by rfl : lv_pick [(5, .int y_55), (4, .int x_23), (3, .int v41_3), (0, .ref a0_), (1, .int x1_), (2, .int x2_)] [0, 1, 2, 3, 4, 5] = [(5, .int y_55), (4, .int x_23), (3, .int v41_3), (0, .ref a0_), (1, .int x1_), (2, .int x2_)])
                        have g9 := g.sub (fx' := [(12, 8, q0_, .ref a_18), (12, 4, q0_, .ref a_13), (14, 27, a0_, .ref a_1), (14, 1, a0_, .ref q0_)]) [3, 4, 5, 6] rfl
                        exact ih94  y_55 (bd_sub b_56 (by decide)) (by have h9_0 := b_56; unfold bd at h9_0; have h9_1 := bv94_5; unfold bd at h9_1; have h9_2 := kb_0; unfold bd at h9_2; have h9_3 := kb_1; unfold bd at h9_3; have h9_4 := kb_24; unfold bd at h9_4; have h9_5 := kb_m1; unfold bd at h9_5; omega) _ _ _ _ g9 hG_53 hG_54 hl9
                  have hl9 := lv_sub hl [0, 1, 2, 3, 4, 5] (by rfl : lv_pick [(5, .int 0), (4, .int x_23), (3, .int v41_3), (0, .ref a0_), (1, .int x1_), (2, .int x2_)] [0, 1, 2, 3, 4, 5] = [(5, .int 0), (4, .int x_23), (3, .int v41_3), (0, .ref a0_), (1, .int x1_), (2, .int x2_)])
                  have g9 := g.sub (fx' := [(12, 8, q0_, .ref a_18), (12, 4, q0_, .ref a_13), (14, 27, a0_, .ref a_1), (14, 1, a0_, .ref q0_)]) [0, 1, 2, 3] rfl
                  exact loop_29 (19) 0 (bd_sub kb_0 (by decide)) (by have h9_0 := kb_0; unfold bd at h9_0; have h9_1 := kb_24; unfold bd at h9_1; have h9_2 := kb_m1; unfold bd at h9_2; omega) _ _ _ _ g9 hG41_V_q0_ hG41_O_a0_ hl9
                · have fc_24 := eq_f c_24
                  have b_57 : bd 0 0 x_23 := eqX fc_24 bx_23 kb_0 (by decide)
                  refine lv_iconst (v := 1) hx hb dX14_begin_71 (by decide) ?_
                  refine lv_goto (tgt := 89) hx hb dX14_begin_72 (by decide) ?_
                  refine lv_istore (lv' := [(4, .int 1), (3, .int v41_3), (0, .ref a0_), (1, .int x1_), (2, .int x2_)]) hx hb dX14_begin_89 hl (by decide) rfl (fun ls hl => ?_)
                  refine lv_iconst (v := 0) hx hb dX14_begin_91 (by decide) ?_
                  refine lv_istore (lv' := [(5, .int 0), (4, .int 1), (3, .int v41_3), (0, .ref a0_), (1, .int x1_), (2, .int x2_)]) hx hb dX14_begin_92 hl (by decide) rfl (fun ls hl => ?_)
                  have loop_58 : ∀ (n : Nat) (v94_5 : Int32), bd 0 1 v94_5 → (1 - v94_5.toInt < (n : Int)) → ∀ (f : Nat → va_E) (H : Heap) (locs : List Loc) (ls : Array Slot), G3 (dC, dI) L kd tys s f0 [] [215, 216] f H locs [(12, 8, q0_, .ref a_18), (12, 4, q0_, .ref a_13), (14, 27, a0_, .ref a_1), (14, 1, a0_, .ref q0_)] → isV f q0_ V_ → OA f a0_ (fun j => if j = x1_.toNatClampNeg then x2_ else O_ j) → lv_has ls 6 [(5, .int v94_5), (4, .int 1), (3, .int v41_3), (0, .ref a0_), (1, .int x1_), (2, .int x2_)] → W p l e ({ frames := 0, cells := 0, slots := 0, locals := 0 } : Room) s m [.ref a0_, .int x1_, .int x2_].toArray below meth c H locs 0 0 Q (F0 m 94 ls []) := by
                    intro n94
                    induction n94 with
                    | zero =>
                      intro v94_5 bv94_5 hm94 f H locs ls g hG94_V_q0_ hG94_O_a0_ hl
                      exact absurd hm94 (by have h9_v94_5 := bv94_5; unfold bd at h9_v94_5; omega)
                    | succ n94 ih94 =>
                      intro v94_5 bv94_5 hm94 f H locs ls g hG94_V_q0_ hG94_O_a0_ hl
                      refine lv_iload hx hb dX14_begin_94 (lv_at hl 0 rfl) ?_
                      refine lv_iload hx hb dX14_begin_96 (lv_at hl 1 rfl) ?_
                      have kb_1 : bd 1 1 (1 : Int32) := ⟨by decide, by decide⟩
                      refine lv_icmp_ge (tgt := 148) hx hb dX14_begin_98 (by decide) (fun c_59 => ?_) (fun c_59 => ?_)
                      · have fc_59 := le_f c_59
                        have b_60 : bd 1 1 v94_5 := leR fc_59 kb_1 bv94_5 (by decide)
                        obtain ⟨y_61, ey_61⟩ : ∃ z : Int32, z = v41_3 + 1 := ⟨_, rfl⟩
                        refine lv_iinc (v := y_61) (lv' := [(3, .int y_61), (5, .int v94_5), (4, .int 1), (0, .ref a0_), (1, .int x1_), (2, .int x2_)]) hx hb dX14_begin_148 hl (k := 2) rfl (by rw [ey_61]; rfl) (by decide) rfl (fun ls hl => ?_)
                        have ty_61 := add_bd ey_61 b_16 kb_1 (by decide)
                        have b_62 : bd 1 10 y_61 := add_rg ty_61 b_16 kb_1 (by decide)
                        refine lv_goto (tgt := 41) hx hb dX14_begin_151 (by decide) ?_
                        have hl9 := lv_sub hl [0, 3, 4, 5] (by rfl : lv_pick [(3, .int y_61), (5, .int v94_5), (4, .int 1), (0, .ref a0_), (1, .int x1_), (2, .int x2_)] [0, 3, 4, 5] = [(3, .int y_61), (0, .ref a0_), (1, .int x1_), (2, .int x2_)])
                        have g9 := g.sub (fx' := [(14, 27, a0_, .ref a_1), (14, 1, a0_, .ref q0_)]) [2, 3] rfl
                        exact ih41  y_61 (bd_sub b_62 (by decide)) (by have h9_0 := b_62; unfold bd at h9_0; have h9_1 := bv41_3; unfold bd at h9_1; have h9_2 := kb_0; unfold bd at h9_2; have h9_3 := kb_1; unfold bd at h9_3; have h9_4 := kb_24; unfold bd at h9_4; have h9_5 := kb_m1; unfold bd at h9_5; omega) _ _ _ _ g9 hG94_V_q0_ hG94_O_a0_ hl9
                      · have fc_59 := nle_f c_59
                        have b_63 : bd 0 0 v94_5 := ltL fc_59 bv94_5 kb_1 (by decide)
                        refine lv_aload_n hx hb dX14_begin_101 rfl (lv_at hl 3 rfl) ?_
                        refine g_getr (K := 216) (C := RX14) (T := TX14) (N := 67) hx hb hts (mc_ inX14) hown hK g ma0_ ka0_ (by decide) rfl 28 (by decide) rfl (hts _ (List.mem_cons_of_mem _ t_2174)) (fun _ h9 => h9) rfl dX14_begin_102 (fun a_64 ma_64 ka_64 g => ?_)
                        refine lv_bipush (v := 24) hx hb dX14_begin_105 (by decide) ?_
                        refine lv_iload_n hx hb dX14_begin_107 rfl (lv_at hl 4 rfl) ?_
                        refine lv_imul hx hb dX14_begin_108 ?_
                        refine lv_topi (fun y_65 ey_65 => ?_)
                        have ty_65 := cmul_bd ey_65 (c := 24) (by decide) bx1_ (by decide)
                        have b_66 : bd 0 120 y_65 := mulc_rg ty_65 bx1_ (by decide)
                        refine lv_aload_n hx hb dX14_begin_109 rfl (lv_at hl 3 rfl) ?_
                        refine g_getk (C := RX14) (T := TX14) (N := 67) hx hb hts (mc_ inX14) hown hK g rfl 1 (by decide) rfl (hts _ (List.mem_cons_of_mem _ t_2147)) (fun _ h9 => h9) 4 rfl dX14_begin_110 ?_
                        refine g_getr (K := 165) (C := RX12) (T := TX12) (N := 60) hx hb hts (mc_ inX12) hown hK g mq0_ kq0_ (by decide) rfl 9 (by decide) rfl (hts _ (List.mem_cons_of_mem _ t_1924)) (fun _ h9 => h9) rfl dX14_begin_113 (fun a_67 ma_67 ka_67 g => ?_)
                        refine lv_bipush (v := 10) hx hb dX14_begin_116 (by decide) ?_
                        refine lv_iload_n hx hb dX14_begin_118 rfl (lv_at hl 5 rfl) ?_
                        refine lv_imul hx hb dX14_begin_119 ?_
                        refine lv_topi (fun y_68 ey_68 => ?_)
                        obtain rfl : y_19 = y_68 := ey_19.trans ey_68.symm
                        refine lv_iload_n hx hb dX14_begin_120 rfl (lv_at hl 2 rfl) ?_
                        refine lv_iadd hx hb dX14_begin_121 ?_
                        refine lv_topi (fun y_69 ey_69 => ?_)
                        obtain rfl : y_21 = y_69 := ey_21.trans ey_69.symm
                        refine g_iald hx hb hK g ma_67 ka_67 (by decide) rfl (in_bd b_22 (by decide)) dX14_begin_122 (fun x_70 bx_70 cx_70 => ?_)
                        have vx_70 : x_70 = V_.i 9 y_21.toNatClampNeg := hG94_V_q0_.at g 0 rfl rfl cx_70
                        have hf_71 := fld_at hW (hc.resolve_left fc_10) b_16.1 vx_14 fc_15 (by have h9_0 := b_16; unfold bd at h9_0; have h9_1 := b_63; unfold bd at h9_1; have h9_2 := b_9; unfold bd at h9_2; have h9_3 := bx1_; unfold bd at h9_3; have h9_4 := b_11; unfold bd at h9_4; have h9_5 := b_17; unfold bd at h9_5; have h9_6 := b_57; unfold bd at h9_6; have h9_7 := bx_70; unfold bd at h9_7; have h9_8 := b_20; unfold bd at h9_8; have h9_9 := b_22; unfold bd at h9_9; have h9_10 := b_66; unfold bd at h9_10; have h8_0 := kb_0; unfold bd at h8_0; have h8_1 := kb_1; unfold bd at h8_1; have h8_2 := kb_24; unfold bd at h8_2; have h8_3 := kb_m1; unfold bd at h8_3; omega) vx_70 vx_23
                        have b_72 : bd 0 23 x_70 := ⟨bx_70.1, hf_71.1⟩
                        refine lv_iadd hx hb dX14_begin_123 ?_
                        refine lv_topi (fun y_73 ey_73 => ?_)
                        have ty_73 := add_bd ey_73 b_66 b_72 (by decide)
                        have b_74 : bd 0 143 y_73 := add_rg ty_73 b_66 b_72 (by decide)
                        refine lv_iload hx hb dX14_begin_124 (lv_at hl 0 rfl) ?_
                        refine lv_iadd hx hb dX14_begin_126 ?_
                        refine lv_topi (fun y_75 ey_75 => ?_)
                        have ty_75 := add_bd ey_75 b_74 b_63 (by decide)
                        have b_76 : bd 0 143 y_75 := add_rg ty_75 b_74 b_63 (by decide)
                        refine lv_aload_n hx hb dX14_begin_127 rfl (lv_at hl 3 rfl) ?_
                        refine g_getk (C := RX14) (T := TX14) (N := 67) hx hb hts (mc_ inX14) hown hK g rfl 1 (by decide) rfl (hts _ (List.mem_cons_of_mem _ t_2147)) (fun _ h9 => h9) 5 rfl dX14_begin_128 ?_
                        refine g_getr (K := 166) (C := RX12) (T := TX12) (N := 60) hx hb hts (mc_ inX12) hown hK g mq0_ kq0_ (by decide) rfl 10 (by decide) rfl (hts _ (List.mem_cons_of_mem _ t_1926)) (fun _ h9 => h9) rfl dX14_begin_131 (fun a_77 ma_77 ka_77 g => ?_)
                        refine lv_bipush (v := 10) hx hb dX14_begin_134 (by decide) ?_
                        refine lv_iload_n hx hb dX14_begin_136 rfl (lv_at hl 5 rfl) ?_
                        refine lv_imul hx hb dX14_begin_137 ?_
                        refine lv_topi (fun y_78 ey_78 => ?_)
                        obtain rfl : y_19 = y_78 := ey_19.trans ey_78.symm
                        refine lv_iload_n hx hb dX14_begin_138 rfl (lv_at hl 2 rfl) ?_
                        refine lv_iadd hx hb dX14_begin_139 ?_
                        refine lv_topi (fun y_79 ey_79 => ?_)
                        obtain rfl : y_21 = y_79 := ey_21.trans ey_79.symm
                        refine g_iald hx hb hK g ma_77 ka_77 (by decide) rfl (in_bd b_22 (by decide)) dX14_begin_140 (fun x_80 bx_80 cx_80 => ?_)
                        have vx_80 : x_80 = V_.i 10 y_21.toNatClampNeg := hG94_V_q0_.at g 0 rfl rfl cx_80
                        have go_ := g
                        refine g_iast hx hb hK g ma_64 ka_64 (by decide) rfl (in_bd b_76 (by decide)) (bdT x_80) (by decide) dX14_begin_141 (fun f H locs hM_81 g => ?_)
                        have hG_82 := isV.frame hM_81 go_.2.2.2.1 mq0_ kq0_ (by decide) (by decide) hG94_V_q0_
                        have hG_83 := OA.frame hM_81 go_.2.2.2.1 ma0_ ka0_ (by decide) (by decide) hG94_O_a0_
                        obtain ⟨y_84, ey_84⟩ : ∃ z : Int32, z = v94_5 + 1 := ⟨_, rfl⟩
                        refine lv_iinc (v := y_84) (lv' := [(5, .int y_84), (4, .int 1), (3, .int v41_3), (0, .ref a0_), (1, .int x1_), (2, .int x2_)]) hx hb dX14_begin_142 hl (k := 0) rfl (by rw [ey_84]; rfl) (by decide) rfl (fun ls hl => ?_)
                        have ty_84 := add_bd ey_84 b_63 kb_1 (by decide)
                        have b_85 : bd 1 1 y_84 := add_rg ty_84 b_63 kb_1 (by decide)
                        refine lv_goto (tgt := 94) hx hb dX14_begin_145 (by decide) ?_
                        have hl9 := lv_sub hl [0, 1, 2, 3, 4, 5] (by rfl : lv_pick [(5, .int y_84), (4, .int 1), (3, .int v41_3), (0, .ref a0_), (1, .int x1_), (2, .int x2_)] [0, 1, 2, 3, 4, 5] = [(5, .int y_84), (4, .int 1), (3, .int v41_3), (0, .ref a0_), (1, .int x1_), (2, .int x2_)])
                        have g9 := g.sub (fx' := [(12, 8, q0_, .ref a_18), (12, 4, q0_, .ref a_13), (14, 27, a0_, .ref a_1), (14, 1, a0_, .ref q0_)]) [3, 4, 5, 6] rfl
                        exact ih94  y_84 (bd_sub b_85 (by decide)) (by have h9_0 := b_85; unfold bd at h9_0; have h9_1 := bv94_5; unfold bd at h9_1; have h9_2 := kb_0; unfold bd at h9_2; have h9_3 := kb_1; unfold bd at h9_3; have h9_4 := kb_24; unfold bd at h9_4; have h9_5 := kb_m1; unfold bd at h9_5; omega) _ _ _ _ g9 hG_82 hG_83 hl9
                  have hl9 := lv_sub hl [0, 1, 2, 3, 4, 5] (by rfl : lv_pick [(5, .int 0), (4, .int 1), (3, .int v41_3), (0, .ref a0_), (1, .int x1_), (2, .int x2_)] [0, 1, 2, 3, 4, 5] = [(5, .int 0), (4, .int 1), (3, .int v41_3), (0, .ref a0_), (1, .int x1_), (2, .int x2_)])
                  have g9 := g.sub (fx' := [(12, 8, q0_, .ref a_18), (12, 4, q0_, .ref a_13), (14, 27, a0_, .ref a_1), (14, 1, a0_, .ref q0_)]) [0, 1, 2, 3] rfl
                  exact loop_58 (5) 0 (bd_sub kb_0 (by decide)) (by have h9_0 := kb_0; unfold bd at h9_0; have h9_1 := kb_24; unfold bd at h9_1; have h9_2 := kb_m1; unfold bd at h9_2; omega) _ _ _ _ g9 hG41_V_q0_ hG41_O_a0_ hl9
          have kb_0 : bd 0 0 (0 : Int32) := ⟨by decide, by decide⟩
          have hl9 := lv_sub hl [0, 1, 2, 3] (by rfl : lv_pick [(3, .int 0), (0, .ref a0_), (1, .int x1_), (2, .int x2_)] [0, 1, 2, 3] = [(3, .int 0), (0, .ref a0_), (1, .int x1_), (2, .int x2_)])
          have g9 := g.sub (fx' := [(14, 27, a0_, .ref a_1), (14, 1, a0_, .ref q0_)]) [0, 1] rfl
          exact loop_12 (23) 0 (bd_sub kb_0 (by decide)) (by have h9_0 := kb_0; unfold bd at h9_0; have h9_1 := kb_24; unfold bd at h9_1; have h9_2 := kb_m1; unfold bd at h9_2; omega) _ _ _ _ g9 hG9_V_q0_ hG9_O_a0_ hl9
        · have fc_10 := eq_f c_10
          have b_86 : bd (-1) (-1) x2_ := eqX fc_10 bx2_ kb_m1 (by decide)
          subst hQ
          exact W.vret hx hb hr (fun t ht hW => ⟨⟨_, rfl, ⟨hG9_O_a0_, trivial⟩, q3_of g hK ht hW⟩, g.2.2.1.F ht⟩) g.2.2.1.2.2 dX14_begin_38
      · have fc_8 := nle_f c_8
        have b_87 : bd 0 23 v9_3 := ltL fc_8 bv9_3 kb_24 (by decide)
        refine lv_aload_n hx hb dX14_begin_15 rfl (lv_at hl 1 rfl) ?_
        refine g_getr (K := 216) (C := RX14) (T := TX14) (N := 67) hx hb hts (mc_ inX14) hown hK g ma0_ ka0_ (by decide) rfl 28 (by decide) rfl (hts _ (List.mem_cons_of_mem _ t_2174)) (fun _ h9 => h9) rfl dX14_begin_16 (fun a_88 ma_88 ka_88 g => ?_)
        refine lv_bipush (v := 24) hx hb dX14_begin_19 (by decide) ?_
        refine lv_iload_n hx hb dX14_begin_21 rfl (lv_at hl 2 rfl) ?_
        refine lv_imul hx hb dX14_begin_22 ?_
        refine lv_topi (fun y_89 ey_89 => ?_)
        have ty_89 := cmul_bd ey_89 (c := 24) (by decide) bx1_ (by decide)
        have b_90 : bd 0 120 y_89 := mulc_rg ty_89 bx1_ (by decide)
        refine lv_iload_n hx hb dX14_begin_23 rfl (lv_at hl 0 rfl) ?_
        refine lv_iadd hx hb dX14_begin_24 ?_
        refine lv_topi (fun y_91 ey_91 => ?_)
        have ty_91 := add_bd ey_91 b_90 b_87 (by decide)
        have b_92 : bd 0 143 y_91 := add_rg ty_91 b_90 b_87 (by decide)
        refine lv_iconst (v := 0) hx hb dX14_begin_25 (by decide) ?_
        have kb_0 : bd 0 0 (0 : Int32) := ⟨by decide, by decide⟩
        have go_ := g
        refine g_iast hx hb hK g ma_88 ka_88 (by decide) rfl (in_bd b_92 (by decide)) (bd_sub kb_0 (by decide)) (by decide) dX14_begin_26 (fun f H locs hM_93 g => ?_)
        have hG_94 := isV.frame hM_93 go_.2.2.2.1 mq0_ kq0_ (by decide) (by decide) hG9_V_q0_
        have hG_95 := OA.frame hM_93 go_.2.2.2.1 ma0_ ka0_ (by decide) (by decide) hG9_O_a0_
        have kb_1 : bd 1 1 (1 : Int32) := ⟨by decide, by decide⟩
        obtain ⟨y_96, ey_96⟩ : ∃ z : Int32, z = v9_3 + 1 := ⟨_, rfl⟩
        refine lv_iinc (v := y_96) (lv' := [(3, .int y_96), (0, .ref a0_), (1, .int x1_), (2, .int x2_)]) hx hb dX14_begin_27 hl (k := 0) rfl (by rw [ey_96]; rfl) (by decide) rfl (fun ls hl => ?_)
        have ty_96 := add_bd ey_96 b_87 kb_1 (by decide)
        have b_97 : bd 1 24 y_96 := add_rg ty_96 b_87 kb_1 (by decide)
        refine lv_goto (tgt := 9) hx hb dX14_begin_30 (by decide) ?_
        have hl9 := lv_sub hl [0, 1, 2, 3] (by rfl : lv_pick [(3, .int y_96), (0, .ref a0_), (1, .int x1_), (2, .int x2_)] [0, 1, 2, 3] = [(3, .int y_96), (0, .ref a0_), (1, .int x1_), (2, .int x2_)])
        have g9 := g.sub (fx' := [(14, 27, a0_, .ref a_1), (14, 1, a0_, .ref q0_)]) [1, 2] rfl
        exact ih9  y_96 (bd_sub b_97 (by decide)) (by have h9_0 := b_97; unfold bd at h9_0; have h9_1 := bv9_3; unfold bd at h9_1; have h9_2 := kb_0; unfold bd at h9_2; have h9_3 := kb_1; unfold bd at h9_3; have h9_4 := kb_24; unfold bd at h9_4; omega) _ _ _ _ g9 hG_94 hG_95 hl9
  have kb_0 : bd 0 0 (0 : Int32) := ⟨by decide, by decide⟩
  have hl9 := lv_sub hl [0, 1, 2, 3] (by rfl : lv_pick [(3, .int 0), (0, .ref a0_), (1, .int x1_), (2, .int x2_)] [0, 1, 2, 3] = [(3, .int 0), (0, .ref a0_), (1, .int x1_), (2, .int x2_)])
  have g9 := g.sub (fx' := [(14, 27, a0_, .ref a_1), (14, 1, a0_, .ref q0_)]) [0, 1] rfl
  exact loop_7 (51) 0 (bd_sub kb_0 (by decide)) (by have h9_0 := kb_0; unfold bd at h9_0; omega) _ _ _ _ g9 hG_4 hG_6 hl9
