set_option maxHeartbeats 4000000 in
set_option maxRecDepth 100000 in
theorem law_loop {p : Program} {l : Launch} {e : Env} {s : State} {m : MethodId} {below : List Frame} {meth : Method} {c : Code} {b Ls : Nat} {xs : Nat → Int32} {dC : Nat → ClassId} {dI : Nat → Nat → Nat} {adK adV : Nat → Nat} {L : List Nat} {kd : Nat → Nat} {tys : List (ClassId × FieldType)} {ax am q0 q1 q4 q5 q6 : Nat} (hx : p.tables.exec = Jvm.exec) (hb : c.code = code) (hml : c.maxLocals = 4) (hown : s.vm.findClass R_law = some m.cls) (hts : ∀ w ∈ lw_tbl, w.before #[Value.ref b] s = true) (hX : va_X b Ls xs s s.heap) (hbl : b < s.heap.size) (hbA : ¬ pA L s.heap.size b) (hK : va_K (dC, dI) vwCl tys s) (hAm : ap_ adK adV (pA L s.heap.size) s s.heap) (hA : LA L kd ax am q0 q1 q4 q5 q6) (hr : meth.sig.returnType = ret) (hlocks : meth.locks = false) (hLs : Ls ≤ 3072) (hgL : ∀ a ∈ L, s.heap.size ≤ a) : ∀ (n j : Nat), Ls ≤ 6 * j + 6 * n + 5 → j + n ≤ 512 → ∀ (cl cells slots : Nat) (f : Nat → va_E) (H : Heap) (locs : List Loc) (ls : Array Slot), cl ≤ 601 * j → cells = 1000 + cl → slots = 130000 + 3 * cl → G3 (dC, dI) L kd tys s f [] [] f H locs [] → XI L kd f ax q0 q1 q4 q5 q6 → MI L kd f am → TI f ax am → lv_has ls 4 [(3, .int (nI (6 * j))), (2, .ref am), (1, .ref ax), (0, .ref b)] → W p l e room_1 s m #[Value.ref b] below meth c H locs cells slots (lw_Z below #[Value.ref b] s) (F0 m 18 ls []) := by
  have hN : Ls < 2 ^ 31 := by omega
  have hexit : ∀ (cells slots : Nat) (H : Heap) (locs : List Loc) (ls : Array Slot) (f : Nat → va_E), cells ≤ 601024 → slots ≤ 7293034 → G3 (dC, dI) L kd tys s f [] [] f H locs [] → W p l e room_1 s m #[Value.ref b] below meth c H locs cells slots (lw_Z below #[Value.ref b] s) (F0 m 829 ls []) := by
    intro cells slots H locs ls f hc hs g
    refine lv_iconst (v := 1) hx hb dL_law_829 (by decide) ?_
    refine va_forget (fun q hq => (g.2.2.1.2.2 q hq).elim (fun z => hgL _ z) id) ?_
    refine W.widen (k := 601024) (n := 7293034) hc hs ?_
    exact lw_ret hx hb hr hlocks dL_law_830
  intro n
  induction n with
  | zero =>
    intro j hj1 hj2 cl cells slots f H locs ls hcl ec es g hXI hMI hTI hl
    refine lv_iload_n hx hb dL_law_18 rfl (lv_at hl 0 rfl) ?_
    refine lv_aload_n hx hb dL_law_19 rfl (lv_at hl 3 rfl) ?_
    refine va_slen hx hb hX hbl hbA g.2.2.1 dL_law_20 ?_
    refine lv_bipush (v := 6) hx hb dL_law_21 (by decide) ?_
    refine lv_isub hx hb dL_law_23 ?_
    refine lv_topi (fun y6 ey6 => ?_)
    have hy6 : y6.toInt = (Ls : Int) - 6 := by rw [ey6]; exact sub_ok6 hN
    have hi6 : (nI (6 * j)).toInt = ((6 * j : Nat) : Int) := nI_toInt (by omega)
    refine lv_icmp_gt (tgt := 829) hx hb dL_law_24 (by decide) (fun c_ => hexit _ _ _ _ _ _ (by omega) (by omega) g) (fun c_ => absurd (Int32.lt_iff_toInt_lt.mpr (by rw [hy6, hi6]; omega)) c_)
  | succ n ih =>
    intro j hj1 hj2 cl cells slots f H locs ls hcl ec es g hXI hMI hTI hl
    refine lv_iload_n hx hb dL_law_18 rfl (lv_at hl 0 rfl) ?_
    refine lv_aload_n hx hb dL_law_19 rfl (lv_at hl 3 rfl) ?_
    refine va_slen hx hb hX hbl hbA g.2.2.1 dL_law_20 ?_
    refine lv_bipush (v := 6) hx hb dL_law_21 (by decide) ?_
    refine lv_isub hx hb dL_law_23 ?_
    refine lv_topi (fun y6 ey6 => ?_)
    have hy6 : y6.toInt = (Ls : Int) - 6 := by rw [ey6]; exact sub_ok6 hN
    have hi6 : (nI (6 * j)).toInt = ((6 * j : Nat) : Int) := nI_toInt (by omega)
    refine lv_icmp_gt (tgt := 829) hx hb dL_law_24 (by decide) (fun c_ => hexit _ _ _ _ _ _ (by omega) (by omega) g) (fun c_ => ?_)
    have hi5 : 6 * j + 5 < Ls := by
      by_cases h9 : 6 * j + 5 < Ls
      · exact h9
      · exact absurd (Int32.lt_iff_toInt_lt.mpr (by rw [hy6, hi6]; omega)) c_
    refine lv_aload_n hx hb dL_law_27 rfl (lv_at hl 3 rfl) ?_
    refine lv_iload_n hx hb dL_law_28 rfl (lv_at hl 0 rfl) ?_
    refine va_sld hx hb hX hbl hbA g.2.2.1 (vp_in_nI (by omega) (by omega)) dL_law_29 ?_
    refine lv_bipush (v := 31) hx hb dL_law_30 (by decide) ?_
    refine lv_iand hx hb dL_law_32 ?_
    refine lv_topi (fun y7 ey7 => ?_)
    have hcb : cells + 602 ≤ 601024 ∧ slots + 1806 ≤ 7293034 := by omega
    have hkk : ∀ (f1 : Nat → va_E) (H1 : Heap) (locs1 : List Loc) (cells1 slots1 k : Nat), k ≤ 601 → cells1 = cells + k → slots1 = slots + 3 * k → G3 (dC, dI) L kd tys s f1 [] [] f1 H1 locs1 [] → XI L kd f1 ax q0 q1 q4 q5 q6 → MI L kd f1 am → TI f1 ax am → W p l e room_1 s m #[Value.ref b] below meth c H1 locs1 cells1 slots1 (lw_Z below #[Value.ref b] s) (F0 m 823 ls []) := by
      intro f1 H1 locs1 cells1 slots1 k hk e1 e2 g1 x1 m1 t1
      refine lv_iinc (v := nI (6 * (j + 1))) (lv' := [(3, .int (nI (6 * (j + 1)))), (2, .ref am), (1, .ref ax), (0, .ref b)]) hx hb dL_law_823 hl (k := 0) rfl ((nI_add (6 * j) 6).trans (congrArg nI (by omega))) (by decide) rfl (fun ls hl => ?_)
      refine lv_goto (tgt := 18) hx hb dL_law_826 (by decide) ?_
      exact ih (j + 1) (by omega) (by omega) (cl + k) cells1 slots1 f1 H1 locs1 ls (by omega) (by omega) (by omega) g1 x1 m1 t1 hl
    by_cases e0 : y7 = 0
    · refine lv_topi (fun z ez => ?_)
      obtain rfl : z = 0 := ez.trans e0
      refine lv_tableIn (off := 115) (tgt := 148) hx hb dL_law_33 (by decide) (by decide) rfl (by decide) ?_
      exact law_0 hx hb hml hown hts hX hbl hbA hK hAm hA hi5 hLs hcb g hXI hMI hTI hl hkk
    by_cases e1 : y7 = 1
    · refine lv_topi (fun z ez => ?_)
      obtain rfl : z = 1 := ez.trans e1
      refine lv_tableIn (off := 178) (tgt := 211) hx hb dL_law_33 (by decide) (by decide) rfl (by decide) ?_
      exact law_1 hx hb hml hown hts hX hbl hbA hK hAm hA hi5 hLs hcb g hXI hMI hTI hl hkk
    by_cases e2 : y7 = 2
    · refine lv_topi (fun z ez => ?_)
      obtain rfl : z = 2 := ez.trans e2
      refine lv_tableIn (off := 201) (tgt := 234) hx hb dL_law_33 (by decide) (by decide) rfl (by decide) ?_
      exact law_2 hx hb hml hown hts hX hbl hbA hK hAm hA hi5 hLs hcb g hXI hMI hTI hl hkk
    by_cases e3 : y7 = 3
    · refine lv_topi (fun z ez => ?_)
      obtain rfl : z = 3 := ez.trans e3
      refine lv_tableIn (off := 214) (tgt := 247) hx hb dL_law_33 (by decide) (by decide) rfl (by decide) ?_
      exact law_3 hx hb hml hown hts hX hbl hbA hK hAm hA hi5 hLs hcb g hXI hMI hTI hl hkk
    by_cases e4 : y7 = 4
    · refine lv_topi (fun z ez => ?_)
      obtain rfl : z = 4 := ez.trans e4
      refine lv_tableIn (off := 237) (tgt := 270) hx hb dL_law_33 (by decide) (by decide) rfl (by decide) ?_
      exact law_4 hx hb hml hown hts hX hbl hbA hK hAm hA hi5 hLs hcb g hXI hMI hTI hl hkk
    by_cases e5 : y7 = 5
    · refine lv_topi (fun z ez => ?_)
      obtain rfl : z = 5 := ez.trans e5
      refine lv_tableIn (off := 270) (tgt := 303) hx hb dL_law_33 (by decide) (by decide) rfl (by decide) ?_
      exact law_5 hx hb hml hown hts hX hbl hbA hK hAm hA hi5 hLs hcb g hXI hMI hTI hl hkk
    by_cases e6 : y7 = 6
    · refine lv_topi (fun z ez => ?_)
      obtain rfl : z = 6 := ez.trans e6
      refine lv_tableIn (off := 313) (tgt := 346) hx hb dL_law_33 (by decide) (by decide) rfl (by decide) ?_
      exact law_6 hx hb hml hown hts hX hbl hbA hK hAm hA hi5 hLs hcb g hXI hMI hTI hl hkk
    by_cases e7 : y7 = 7
    · refine lv_topi (fun z ez => ?_)
      obtain rfl : z = 7 := ez.trans e7
      refine lv_tableIn (off := 346) (tgt := 379) hx hb dL_law_33 (by decide) (by decide) rfl (by decide) ?_
      exact law_7 hx hb hml hown hts hX hbl hbA hK hAm hA hi5 hLs hcb g hXI hMI hTI hl hkk
    by_cases e8 : y7 = 8
    · refine lv_topi (fun z ez => ?_)
      obtain rfl : z = 8 := ez.trans e8
      refine lv_tableIn (off := 359) (tgt := 392) hx hb dL_law_33 (by decide) (by decide) rfl (by decide) ?_
      exact law_8 hx hb hml hown hts hX hbl hbA hK hAm hA hi5 hLs hcb g hXI hMI hTI hl hkk
    by_cases e9 : y7 = 9
    · refine lv_topi (fun z ez => ?_)
      obtain rfl : z = 9 := ez.trans e9
      refine lv_tableIn (off := 382) (tgt := 415) hx hb dL_law_33 (by decide) (by decide) rfl (by decide) ?_
      exact law_9 hx hb hml hown hts hX hbl hbA hK hAm hA hi5 hLs hcb g hXI hMI hTI hl hkk
    by_cases e10 : y7 = 10
    · refine lv_topi (fun z ez => ?_)
      obtain rfl : z = 10 := ez.trans e10
      refine lv_tableIn (off := 445) (tgt := 478) hx hb dL_law_33 (by decide) (by decide) rfl (by decide) ?_
      exact law_10 hx hb hml hown hts hX hbl hbA hK hAm hA hi5 hLs hcb g hXI hMI hTI hl hkk
    by_cases e11 : y7 = 11
    · refine lv_topi (fun z ez => ?_)
      obtain rfl : z = 11 := ez.trans e11
      refine lv_tableIn (off := 458) (tgt := 491) hx hb dL_law_33 (by decide) (by decide) rfl (by decide) ?_
      exact law_11 hx hb hml hown hts hX hbl hbA hK hAm hA hi5 hLs hcb g hXI hMI hTI hl hkk
    by_cases e12 : y7 = 12
    · refine lv_topi (fun z ez => ?_)
      obtain rfl : z = 12 := ez.trans e12
      refine lv_tableIn (off := 501) (tgt := 534) hx hb dL_law_33 (by decide) (by decide) rfl (by decide) ?_
      exact law_12 hx hb hml hown hts hX hbl hbA hK hAm hA hi5 hLs hcb g hXI hMI hTI hl hkk
    by_cases e13 : y7 = 13
    · refine lv_topi (fun z ez => ?_)
      obtain rfl : z = 13 := ez.trans e13
      refine lv_tableIn (off := 534) (tgt := 567) hx hb dL_law_33 (by decide) (by decide) rfl (by decide) ?_
      exact law_13 hx hb hml hown hts hX hbl hbA hK hAm hA hi5 hLs hcb g hXI hMI hTI hl hkk
    by_cases e14 : y7 = 14
    · refine lv_topi (fun z ez => ?_)
      obtain rfl : z = 14 := ez.trans e14
      refine lv_tableIn (off := 547) (tgt := 580) hx hb dL_law_33 (by decide) (by decide) rfl (by decide) ?_
      exact law_14 hx hb hml hown hts hX hbl hbA hK hAm hA hi5 hLs hcb g hXI hMI hTI hl hkk
    by_cases e15 : y7 = 15
    · refine lv_topi (fun z ez => ?_)
      obtain rfl : z = 15 := ez.trans e15
      refine lv_tableIn (off := 560) (tgt := 593) hx hb dL_law_33 (by decide) (by decide) rfl (by decide) ?_
      exact law_15 hx hb hml hown hts hX hbl hbA hK hAm hA hi5 hLs hcb g hXI hMI hTI hl hkk
    by_cases e16 : y7 = 16
    · refine lv_topi (fun z ez => ?_)
      obtain rfl : z = 16 := ez.trans e16
      refine lv_tableIn (off := 573) (tgt := 606) hx hb dL_law_33 (by decide) (by decide) rfl (by decide) ?_
      exact law_16 hx hb hml hown hts hX hbl hbA hK hAm hA hi5 hLs hcb g hXI hMI hTI hl hkk
    by_cases e17 : y7 = 17
    · refine lv_topi (fun z ez => ?_)
      obtain rfl : z = 17 := ez.trans e17
      refine lv_tableIn (off := 586) (tgt := 619) hx hb dL_law_33 (by decide) (by decide) rfl (by decide) ?_
      exact law_17 hx hb hml hown hts hX hbl hbA hK hAm hA hi5 hLs hcb g hXI hMI hTI hl hkk
    by_cases e18 : y7 = 18
    · refine lv_topi (fun z ez => ?_)
      obtain rfl : z = 18 := ez.trans e18
      refine lv_tableIn (off := 609) (tgt := 642) hx hb dL_law_33 (by decide) (by decide) rfl (by decide) ?_
      exact law_18 hx hb hml hown hts hX hbl hbA hK hAm hA hi5 hLs hcb g hXI hMI hTI hl hkk
    by_cases e19 : y7 = 19
    · refine lv_topi (fun z ez => ?_)
      obtain rfl : z = 19 := ez.trans e19
      refine lv_tableIn (off := 632) (tgt := 665) hx hb dL_law_33 (by decide) (by decide) rfl (by decide) ?_
      exact law_19 hx hb hml hown hts hX hbl hbA hK hAm hA hi5 hLs hcb g hXI hMI hTI hl hkk
    by_cases e20 : y7 = 20
    · refine lv_topi (fun z ez => ?_)
      obtain rfl : z = 20 := ez.trans e20
      refine lv_tableIn (off := 655) (tgt := 688) hx hb dL_law_33 (by decide) (by decide) rfl (by decide) ?_
      exact law_20 hx hb hml hown hts hX hbl hbA hK hAm hA hi5 hLs hcb g hXI hMI hTI hl hkk
    by_cases e21 : y7 = 21
    · refine lv_topi (fun z ez => ?_)
      obtain rfl : z = 21 := ez.trans e21
      refine lv_tableIn (off := 668) (tgt := 701) hx hb dL_law_33 (by decide) (by decide) rfl (by decide) ?_
      exact law_21 hx hb hml hown hts hX hbl hbA hK hAm hA hi5 hLs hcb g hXI hMI hTI hl hkk
    by_cases e22 : y7 = 22
    · refine lv_topi (fun z ez => ?_)
      obtain rfl : z = 22 := ez.trans e22
      refine lv_tableIn (off := 701) (tgt := 734) hx hb dL_law_33 (by decide) (by decide) rfl (by decide) ?_
      exact law_22 hx hb hml hown hts hX hbl hbA hK hAm hA hi5 hLs hcb g hXI hMI hTI hl hkk
    by_cases e23 : y7 = 23
    · refine lv_topi (fun z ez => ?_)
      obtain rfl : z = 23 := ez.trans e23
      refine lv_tableIn (off := 734) (tgt := 767) hx hb dL_law_33 (by decide) (by decide) rfl (by decide) ?_
      exact law_23 hx hb hml hown hts hX hbl hbA hK hAm hA hi5 hLs hcb g hXI hMI hTI hl hkk
    by_cases e24 : y7 = 24
    · refine lv_topi (fun z ez => ?_)
      obtain rfl : z = 24 := ez.trans e24
      refine lv_tableIn (off := 767) (tgt := 800) hx hb dL_law_33 (by decide) (by decide) rfl (by decide) ?_
      exact law_24 hx hb hml hown hts hX hbl hbA hK hAm hA hi5 hLs hcb g hXI hMI hTI hl hkk
    refine lv_tableOut (tgt := 823) hx hb dL_law_33 (by have a0 : y7.toInt ≠ 0 := fun h => e0 (Int32.toInt_inj.mp (h.trans (by decide))); have a1 : y7.toInt ≠ 1 := fun h => e1 (Int32.toInt_inj.mp (h.trans (by decide))); have a2 : y7.toInt ≠ 2 := fun h => e2 (Int32.toInt_inj.mp (h.trans (by decide))); have a3 : y7.toInt ≠ 3 := fun h => e3 (Int32.toInt_inj.mp (h.trans (by decide))); have a4 : y7.toInt ≠ 4 := fun h => e4 (Int32.toInt_inj.mp (h.trans (by decide))); have a5 : y7.toInt ≠ 5 := fun h => e5 (Int32.toInt_inj.mp (h.trans (by decide))); have a6 : y7.toInt ≠ 6 := fun h => e6 (Int32.toInt_inj.mp (h.trans (by decide))); have a7 : y7.toInt ≠ 7 := fun h => e7 (Int32.toInt_inj.mp (h.trans (by decide))); have a8 : y7.toInt ≠ 8 := fun h => e8 (Int32.toInt_inj.mp (h.trans (by decide))); have a9 : y7.toInt ≠ 9 := fun h => e9 (Int32.toInt_inj.mp (h.trans (by decide))); have a10 : y7.toInt ≠ 10 := fun h => e10 (Int32.toInt_inj.mp (h.trans (by decide))); have a11 : y7.toInt ≠ 11 := fun h => e11 (Int32.toInt_inj.mp (h.trans (by decide))); have a12 : y7.toInt ≠ 12 := fun h => e12 (Int32.toInt_inj.mp (h.trans (by decide))); have a13 : y7.toInt ≠ 13 := fun h => e13 (Int32.toInt_inj.mp (h.trans (by decide))); have a14 : y7.toInt ≠ 14 := fun h => e14 (Int32.toInt_inj.mp (h.trans (by decide))); have a15 : y7.toInt ≠ 15 := fun h => e15 (Int32.toInt_inj.mp (h.trans (by decide))); have a16 : y7.toInt ≠ 16 := fun h => e16 (Int32.toInt_inj.mp (h.trans (by decide))); have a17 : y7.toInt ≠ 17 := fun h => e17 (Int32.toInt_inj.mp (h.trans (by decide))); have a18 : y7.toInt ≠ 18 := fun h => e18 (Int32.toInt_inj.mp (h.trans (by decide))); have a19 : y7.toInt ≠ 19 := fun h => e19 (Int32.toInt_inj.mp (h.trans (by decide))); have a20 : y7.toInt ≠ 20 := fun h => e20 (Int32.toInt_inj.mp (h.trans (by decide))); have a21 : y7.toInt ≠ 21 := fun h => e21 (Int32.toInt_inj.mp (h.trans (by decide))); have a22 : y7.toInt ≠ 22 := fun h => e22 (Int32.toInt_inj.mp (h.trans (by decide))); have a23 : y7.toInt ≠ 23 := fun h => e23 (Int32.toInt_inj.mp (h.trans (by decide))); have a24 : y7.toInt ≠ 24 := fun h => e24 (Int32.toInt_inj.mp (h.trans (by decide))); omega) (by decide) ?_
    exact hkk f H locs cells slots 0 (by omega) rfl rfl g hXI hMI hTI
