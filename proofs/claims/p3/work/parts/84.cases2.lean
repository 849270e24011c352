set_option maxHeartbeats 4000000 in
set_option maxRecDepth 100000 in
theorem law_18 {p : Program} {l : Launch} {e : Env} {s : State} {m : MethodId} {below : List Frame} {meth : Method} {c : Code} {b Ls i : Nat} {xs : Nat → Int32} {dC : Nat → ClassId} {dI : Nat → Nat → Nat} {adK adV : Nat → Nat} {L : List Nat} {kd : Nat → Nat} {tys : List (ClassId × FieldType)} {f : Nat → va_E} {H : Heap} {locs : List Loc} {ls : Array Slot} {cells slots : Nat} {Q : State → Prop} {ax am q0 q1 q4 q5 q6 : Nat} (hx : p.tables.exec = Jvm.exec) (hb : c.code = code) (hml : c.maxLocals = 4) (hown : s.vm.findClass R_law = some m.cls) (hts : ∀ w ∈ lw_tbl, w.before #[Value.ref b] s = true) (hX : va_X b Ls xs s s.heap) (hbl : b < s.heap.size) (hbA : ¬ pA L s.heap.size b) (hK : va_K (dC, dI) vwCl tys s) (hAm : ap_ adK adV (pA L s.heap.size) s s.heap) (hA : LA L kd ax am q0 q1 q4 q5 q6) (hi5 : i + 5 < Ls) (hLs : Ls ≤ 3072) (hcb : cells + 602 ≤ 601024 ∧ slots + 1806 ≤ 7293034) (g : G3 (dC, dI) L kd tys s f [] [] f H locs []) (hXI : XI L kd f ax q0 q1 q4 q5 q6) (hMI : MI L kd f am) (hTI : TI f ax am) (hl : lv_has ls 4 [(3, .int (nI i)), (2, .ref am), (1, .ref ax), (0, .ref b)]) (kk : ∀ (f1 : Nat → va_E) (H1 : Heap) (locs1 : List Loc) (cells1 slots1 k : Nat), k ≤ 601 → cells1 = cells + k → slots1 = slots + 3 * k → G3 (dC, dI) L kd tys s f1 [] [] f1 H1 locs1 [] → XI L kd f1 ax q0 q1 q4 q5 q6 → MI L kd f1 am → TI f1 ax am → W p l e room_1 s m #[Value.ref b] below meth c H1 locs1 cells1 slots1 Q (F0 m 823 ls [])) : W p l e room_1 s m #[Value.ref b] below meth c H locs cells slots Q (F0 m 642 ls []) := by
  refine lv_aload_n hx hb dL_law_642 rfl (lv_at hl 2 rfl) ?_
  refine lv_aload_n hx hb dL_law_643 rfl (lv_at hl 3 rfl) ?_
  refine lv_iload_n hx hb dL_law_644 rfl (lv_at hl 0 rfl) ?_
  refine lv_iconst (v := 1) hx hb dL_law_645 (by decide) ?_
  refine lv_iadd hx hb dL_law_646 ?_
  refine lv_topi (fun y_1 ey_1 => ?_)
  refine va_sld hx hb hX hbl hbA g.2.2.1 (law_in (k := 1) ey_1 rfl rfl (by omega) (by omega)) dL_law_647 ?_
  have hW0 := g.2.2.2.1
  obtain ⟨⟨a1, a2, a3, a4, a5, a6, a7⟩, ⟨t1, t2, b1, b2, b3, b4, b5, b6⟩, c1, c2⟩ := id hXI
  have g9 := g.re (md' := []) (ma' := [])
  refine g_calli (va_runV (As := [.int (xs y_1.toNatClampNeg)]) (rest := []) ⟨hx, hb, hml, hown, hts⟩ (r_X11_changed l dC dI L kd tys f H.size g.2.2.2.1 ax hA.1.1 hA.1.2 (xs y_1.toNatClampNeg)) (cwV 1 hts (gVL_ t_1794 t_1795 t_1796 t_182 t_1797) rfl rfl rfl (by decide +kernel) ⟨(Nat.le_of_ble_eq_true rfl), (Nat.le_of_ble_eq_true rfl)⟩) (pre3V g9 hK hA.1.1 hA.1.2 (by decide) (q := (RX11, TX11, 8)) rfl) rfl rfl hl.1 rfl (lv_room (Nat.le_of_ble_eq_true rfl)) dL_law_648 ⟨by show cells + 0 ≤ 601024; omega, by show slots + 0 ≤ 7293034; omega⟩) g9 hK (by decide) (by decide) (fx' := []) rfl (fun r_2 f H locs hp hM g => ?_)
  have hXI := XI.frx hXI hA hM hW0 (RP.frame hM hW0 hA.2.2.2.1.1 hA.2.2.2.1.2 (by decide) (by decide) c1) (by decide) (by decide)
  have hMI := MI.frx hMI hA.2.1 hM g hW0 (by decide) (by decide)
  have hTI := hTI.fr hA.1 hA.2.1 hM (by decide) (by decide)
  have g := g.re (md' := []) (ma' := [])
  refine lv_pop hx hb dL_law_651 rfl ?_
  refine lv_aload_n hx hb dL_law_652 rfl (lv_at hl 1 rfl) ?_
  refine lv_aload_n hx hb dL_law_653 rfl (lv_at hl 3 rfl) ?_
  refine lv_iload_n hx hb dL_law_654 rfl (lv_at hl 0 rfl) ?_
  refine lv_iconst (v := 1) hx hb dL_law_655 (by decide) ?_
  refine lv_iadd hx hb dL_law_656 ?_
  refine lv_topi (fun y_3 ey_3 => ?_)
  refine va_sld hx hb hX hbl hbA g.2.2.1 (law_in (k := 1) ey_3 rfl rfl (by omega) (by omega)) dL_law_657 ?_
  have hW0 := g.2.2.2.1
  obtain ⟨n, q, V, δ, hn, hq, hRI⟩ := id hMI
  obtain ⟨r1, r2, r3, r4, r5, r6, r7, r8⟩ := id hRI
  have g9 := g.re (md' := []) (ma' := [])
  refine g_calli (va_runV (As := [.int (xs y_3.toNatClampNeg)]) (rest := []) ⟨hx, hb, hml, hown, hts⟩ (r_X14_changed l dC dI L kd tys f H.size g.2.2.2.1 am hA.2.1.1 hA.2.1.2 (xs y_3.toNatClampNeg)) (cwV 1 hts (gVL_ t_2810 t_2811 t_2812 t_198 t_2813) rfl rfl rfl (by decide +kernel) ⟨(Nat.le_of_ble_eq_true rfl), (Nat.le_of_ble_eq_true rfl)⟩) (pre3V g9 hK hA.2.1.1 hA.2.1.2 (by decide) (q := (RX14, TX14, 67)) rfl) rfl rfl hl.1 rfl (lv_room (Nat.le_of_ble_eq_true rfl)) dL_law_658 ⟨by show cells + 0 ≤ 601024; omega, by show slots + 0 ≤ 7293034; omega⟩) g9 hK (by decide) (by decide) (fx' := []) rfl (fun r_4 f H locs hp hM g => ?_)
  have hXI := XI.frm hXI hA hM hW0 (by decide) (by decide)
  have hMI : MI L kd f am := ⟨n, q, V, δ, hn, hq, isV.frame hM hW0 hn.1 hn.2 (by decide) (by decide) r1, r2, mOK.frame hM hW0 hn.1 hn.2 (by decide) (by decide) r3, rOK.frame hM hW0 hA.2.1.1 hA.2.1.2 (by decide) (by decide) r4, oOK.frame hM hW0 hA.2.1.1 hA.2.1.2 (by decide) (by decide) r5, apP.call r6 g hn.1 hn.2 hq.1 hq.2 rfl, (md_fix hM hA.2.1 (by decide) (by decide)).trans r7, (md_fix hM hA.2.1 (by decide) (by decide)).trans r8⟩
  have hTI := hTI.fr hA.1 hA.2.1 hM (by decide) (by decide)
  have g := g.re (md' := []) (ma' := [])
  refine lv_pop hx hb dL_law_661 rfl ?_
  refine lv_goto (tgt := 823) hx hb dL_law_662 (by decide) ?_
  exact kk f H locs _ _ 0 (by omega) rfl rfl g hXI hMI hTI

set_option maxHeartbeats 4000000 in
set_option maxRecDepth 100000 in
theorem law_19 {p : Program} {l : Launch} {e : Env} {s : State} {m : MethodId} {below : List Frame} {meth : Method} {c : Code} {b Ls i : Nat} {xs : Nat → Int32} {dC : Nat → ClassId} {dI : Nat → Nat → Nat} {adK adV : Nat → Nat} {L : List Nat} {kd : Nat → Nat} {tys : List (ClassId × FieldType)} {f : Nat → va_E} {H : Heap} {locs : List Loc} {ls : Array Slot} {cells slots : Nat} {Q : State → Prop} {ax am q0 q1 q4 q5 q6 : Nat} (hx : p.tables.exec = Jvm.exec) (hb : c.code = code) (hml : c.maxLocals = 4) (hown : s.vm.findClass R_law = some m.cls) (hts : ∀ w ∈ lw_tbl, w.before #[Value.ref b] s = true) (hX : va_X b Ls xs s s.heap) (hbl : b < s.heap.size) (hbA : ¬ pA L s.heap.size b) (hK : va_K (dC, dI) vwCl tys s) (hAm : ap_ adK adV (pA L s.heap.size) s s.heap) (hA : LA L kd ax am q0 q1 q4 q5 q6) (hi5 : i + 5 < Ls) (hLs : Ls ≤ 3072) (hcb : cells + 602 ≤ 601024 ∧ slots + 1806 ≤ 7293034) (g : G3 (dC, dI) L kd tys s f [] [] f H locs []) (hXI : XI L kd f ax q0 q1 q4 q5 q6) (hMI : MI L kd f am) (hTI : TI f ax am) (hl : lv_has ls 4 [(3, .int (nI i)), (2, .ref am), (1, .ref ax), (0, .ref b)]) (kk : ∀ (f1 : Nat → va_E) (H1 : Heap) (locs1 : List Loc) (cells1 slots1 k : Nat), k ≤ 601 → cells1 = cells + k → slots1 = slots + 3 * k → G3 (dC, dI) L kd tys s f1 [] [] f1 H1 locs1 [] → XI L kd f1 ax q0 q1 q4 q5 q6 → MI L kd f1 am → TI f1 ax am → W p l e room_1 s m #[Value.ref b] below meth c H1 locs1 cells1 slots1 Q (F0 m 823 ls [])) : W p l e room_1 s m #[Value.ref b] below meth c H locs cells slots Q (F0 m 665 ls []) := by
  refine lv_aload_n hx hb dL_law_665 rfl (lv_at hl 2 rfl) ?_
  refine lv_aload_n hx hb dL_law_666 rfl (lv_at hl 3 rfl) ?_
  refine lv_iload_n hx hb dL_law_667 rfl (lv_at hl 0 rfl) ?_
  refine lv_iconst (v := 1) hx hb dL_law_668 (by decide) ?_
  refine lv_iadd hx hb dL_law_669 ?_
  refine lv_topi (fun y_1 ey_1 => ?_)
  refine va_sld hx hb hX hbl hbA g.2.2.1 (law_in (k := 1) ey_1 rfl rfl (by omega) (by omega)) dL_law_670 ?_
  have hW0 := g.2.2.2.1
  obtain ⟨⟨a1, a2, a3, a4, a5, a6, a7⟩, ⟨t1, t2, b1, b2, b3, b4, b5, b6⟩, c1, c2⟩ := id hXI
  have g9 := g.re (md' := []) (ma' := [])
  refine g_calli (va_runV (As := [.int (xs y_1.toNatClampNeg)]) (rest := []) ⟨hx, hb, hml, hown, hts⟩ (r_X11_thrown l dC dI L kd tys f H.size g.2.2.2.1 ax hA.1.1 hA.1.2 (xs y_1.toNatClampNeg)) (cwV 1 hts (gVL_ t_1798 t_1799 t_1800 t_182 t_1801) rfl rfl rfl (by decide +kernel) ⟨(Nat.le_of_ble_eq_true rfl), (Nat.le_of_ble_eq_true rfl)⟩) (pre3V g9 hK hA.1.1 hA.1.2 (by decide) (q := (RX11, TX11, 8)) rfl) rfl rfl hl.1 rfl (lv_room (Nat.le_of_ble_eq_true rfl)) dL_law_671 ⟨by show cells + 0 ≤ 601024; omega, by show slots + 0 ≤ 7293034; omega⟩) g9 hK (by decide) (by decide) (fx' := []) rfl (fun r_2 f H locs hp hM g => ?_)
  have hXI := XI.frx hXI hA hM hW0 (RP.frame hM hW0 hA.2.2.2.1.1 hA.2.2.2.1.2 (by decide) (by decide) c1) (by decide) (by decide)
  have hMI := MI.frx hMI hA.2.1 hM g hW0 (by decide) (by decide)
  have hTI := hTI.fr hA.1 hA.2.1 hM (by decide) (by decide)
  have g := g.re (md' := []) (ma' := [])
  refine lv_pop hx hb dL_law_674 rfl ?_
  refine lv_aload_n hx hb dL_law_675 rfl (lv_at hl 1 rfl) ?_
  refine lv_aload_n hx hb dL_law_676 rfl (lv_at hl 3 rfl) ?_
  refine lv_iload_n hx hb dL_law_677 rfl (lv_at hl 0 rfl) ?_
  refine lv_iconst (v := 1) hx hb dL_law_678 (by decide) ?_
  refine lv_iadd hx hb dL_law_679 ?_
  refine lv_topi (fun y_3 ey_3 => ?_)
  refine va_sld hx hb hX hbl hbA g.2.2.1 (law_in (k := 1) ey_3 rfl rfl (by omega) (by omega)) dL_law_680 ?_
  have hW0 := g.2.2.2.1
  obtain ⟨n, q, V, δ, hn, hq, hRI⟩ := id hMI
  obtain ⟨r1, r2, r3, r4, r5, r6, r7, r8⟩ := id hRI
  have g9 := g.re (md' := []) (ma' := [])
  refine g_calli (va_runV (As := [.int (xs y_3.toNatClampNeg)]) (rest := []) ⟨hx, hb, hml, hown, hts⟩ (r_X14_thrown l dC dI L kd tys f H.size g.2.2.2.1 am hA.2.1.1 hA.2.1.2 (xs y_3.toNatClampNeg)) (cwV 1 hts (gVL_ t_2814 t_2815 t_2816 t_198 t_2817) rfl rfl rfl (by decide +kernel) ⟨(Nat.le_of_ble_eq_true rfl), (Nat.le_of_ble_eq_true rfl)⟩) (pre3V g9 hK hA.2.1.1 hA.2.1.2 (by decide) (q := (RX14, TX14, 67)) rfl) rfl rfl hl.1 rfl (lv_room (Nat.le_of_ble_eq_true rfl)) dL_law_681 ⟨by show cells + 0 ≤ 601024; omega, by show slots + 0 ≤ 7293034; omega⟩) g9 hK (by decide) (by decide) (fx' := []) rfl (fun r_4 f H locs hp hM g => ?_)
  have hXI := XI.frm hXI hA hM hW0 (by decide) (by decide)
  have hMI : MI L kd f am := ⟨n, q, V, δ, hn, hq, isV.frame hM hW0 hn.1 hn.2 (by decide) (by decide) r1, r2, mOK.frame hM hW0 hn.1 hn.2 (by decide) (by decide) r3, rOK.frame hM hW0 hA.2.1.1 hA.2.1.2 (by decide) (by decide) r4, oOK.frame hM hW0 hA.2.1.1 hA.2.1.2 (by decide) (by decide) r5, apP.call r6 g hn.1 hn.2 hq.1 hq.2 rfl, (md_fix hM hA.2.1 (by decide) (by decide)).trans r7, (md_fix hM hA.2.1 (by decide) (by decide)).trans r8⟩
  have hTI := hTI.fr hA.1 hA.2.1 hM (by decide) (by decide)
  have g := g.re (md' := []) (ma' := [])
  refine lv_pop hx hb dL_law_684 rfl ?_
  refine lv_goto (tgt := 823) hx hb dL_law_685 (by decide) ?_
  exact kk f H locs _ _ 0 (by omega) rfl rfl g hXI hMI hTI

set_option maxHeartbeats 4000000 in
set_option maxRecDepth 100000 in
theorem law_20 {p : Program} {l : Launch} {e : Env} {s : State} {m : MethodId} {below : List Frame} {meth : Method} {c : Code} {b Ls i : Nat} {xs : Nat → Int32} {dC : Nat → ClassId} {dI : Nat → Nat → Nat} {adK adV : Nat → Nat} {L : List Nat} {kd : Nat → Nat} {tys : List (ClassId × FieldType)} {f : Nat → va_E} {H : Heap} {locs : List Loc} {ls : Array Slot} {cells slots : Nat} {Q : State → Prop} {ax am q0 q1 q4 q5 q6 : Nat} (hx : p.tables.exec = Jvm.exec) (hb : c.code = code) (hml : c.maxLocals = 4) (hown : s.vm.findClass R_law = some m.cls) (hts : ∀ w ∈ lw_tbl, w.before #[Value.ref b] s = true) (hX : va_X b Ls xs s s.heap) (hbl : b < s.heap.size) (hbA : ¬ pA L s.heap.size b) (hK : va_K (dC, dI) vwCl tys s) (hAm : ap_ adK adV (pA L s.heap.size) s s.heap) (hA : LA L kd ax am q0 q1 q4 q5 q6) (hi5 : i + 5 < Ls) (hLs : Ls ≤ 3072) (hcb : cells + 602 ≤ 601024 ∧ slots + 1806 ≤ 7293034) (g : G3 (dC, dI) L kd tys s f [] [] f H locs []) (hXI : XI L kd f ax q0 q1 q4 q5 q6) (hMI : MI L kd f am) (hTI : TI f ax am) (hl : lv_has ls 4 [(3, .int (nI i)), (2, .ref am), (1, .ref ax), (0, .ref b)]) (kk : ∀ (f1 : Nat → va_E) (H1 : Heap) (locs1 : List Loc) (cells1 slots1 k : Nat), k ≤ 601 → cells1 = cells + k → slots1 = slots + 3 * k → G3 (dC, dI) L kd tys s f1 [] [] f1 H1 locs1 [] → XI L kd f1 ax q0 q1 q4 q5 q6 → MI L kd f1 am → TI f1 ax am → W p l e room_1 s m #[Value.ref b] below meth c H1 locs1 cells1 slots1 Q (F0 m 823 ls [])) : W p l e room_1 s m #[Value.ref b] below meth c H locs cells slots Q (F0 m 688 ls []) := by
  refine lv_aload_n hx hb dL_law_688 rfl (lv_at hl 2 rfl) ?_
  have hW0 := g.2.2.2.1
  obtain ⟨⟨a1, a2, a3, a4, a5, a6, a7⟩, ⟨t1, t2, b1, b2, b3, b4, b5, b6⟩, c1, c2⟩ := id hXI
  have g9 := g.re (md' := []) (ma' := [])
  refine g_calli (va_runV (As := []) (rest := []) ⟨hx, hb, hml, hown, hts⟩ (r_X11_row l dC dI L kd tys f H.size g.2.2.2.1 ax hA.1.1 hA.1.2) (cwV 0 hts (gVL_ t_1805 t_1806 t_1807 t_182 t_1808) rfl rfl rfl (by decide +kernel) ⟨(Nat.le_of_ble_eq_true rfl), (Nat.le_of_ble_eq_true rfl)⟩) (pre3V g9 hK hA.1.1 hA.1.2 (by decide) (q := (RX11, TX11, 8)) rfl) rfl rfl hl.1 rfl (lv_room (Nat.le_of_ble_eq_true rfl)) dL_law_689 ⟨by show cells + 0 ≤ 601024; omega, by show slots + 0 ≤ 7293034; omega⟩) g9 hK (by decide) (by decide) (fx' := []) rfl (fun r_1 f H locs hp hM g => ?_)
  have hXI := XI.frx hXI hA hM hW0 (RP.frame hM hW0 hA.2.2.2.1.1 hA.2.2.2.1.2 (by decide) (by decide) c1) (by decide) (by decide)
  have hMI := MI.frx hMI hA.2.1 hM g hW0 (by decide) (by decide)
  have hTI := hTI.fr hA.1 hA.2.1 hM (by decide) (by decide)
  have g := g.re (md' := []) (ma' := [])
  refine lv_pop hx hb dL_law_692 rfl ?_
  refine lv_aload_n hx hb dL_law_693 rfl (lv_at hl 1 rfl) ?_
  have hW0 := g.2.2.2.1
  obtain ⟨n, q, V, δ, hn, hq, hRI⟩ := id hMI
  obtain ⟨r1, r2, r3, r4, r5, r6, r7, r8⟩ := id hRI
  have g9 := g.re (md' := []) (ma' := [])
  refine g_calli (va_runV (As := []) (rest := []) ⟨hx, hb, hml, hown, hts⟩ (r_X14_row l dC dI L kd tys f H.size g.2.2.2.1 am hA.2.1.1 hA.2.1.2) (cwV 0 hts (gVL_ t_2822 t_2823 t_2824 t_198 t_2825) rfl rfl rfl (by decide +kernel) ⟨(Nat.le_of_ble_eq_true rfl), (Nat.le_of_ble_eq_true rfl)⟩) (pre3V g9 hK hA.2.1.1 hA.2.1.2 (by decide) (q := (RX14, TX14, 67)) rfl) rfl rfl hl.1 rfl (lv_room (Nat.le_of_ble_eq_true rfl)) dL_law_694 ⟨by show cells + 0 ≤ 601024; omega, by show slots + 0 ≤ 7293034; omega⟩) g9 hK (by decide) (by decide) (fx' := []) rfl (fun r_2 f H locs hp hM g => ?_)
  have hXI := XI.frm hXI hA hM hW0 (by decide) (by decide)
  have hMI : MI L kd f am := ⟨n, q, V, δ, hn, hq, isV.frame hM hW0 hn.1 hn.2 (by decide) (by decide) r1, r2, mOK.frame hM hW0 hn.1 hn.2 (by decide) (by decide) r3, rOK.frame hM hW0 hA.2.1.1 hA.2.1.2 (by decide) (by decide) r4, oOK.frame hM hW0 hA.2.1.1 hA.2.1.2 (by decide) (by decide) r5, apP.call r6 g hn.1 hn.2 hq.1 hq.2 rfl, (md_fix hM hA.2.1 (by decide) (by decide)).trans r7, (md_fix hM hA.2.1 (by decide) (by decide)).trans r8⟩
  have hTI := hTI.fr hA.1 hA.2.1 hM (by decide) (by decide)
  have g := g.re (md' := []) (ma' := [])
  refine lv_pop hx hb dL_law_697 rfl ?_
  refine lv_goto (tgt := 823) hx hb dL_law_698 (by decide) ?_
  exact kk f H locs _ _ 0 (by omega) rfl rfl g hXI hMI hTI

set_option maxHeartbeats 4000000 in
set_option maxRecDepth 100000 in
theorem law_21 {p : Program} {l : Launch} {e : Env} {s : State} {m : MethodId} {below : List Frame} {meth : Method} {c : Code} {b Ls i : Nat} {xs : Nat → Int32} {dC : Nat → ClassId} {dI : Nat → Nat → Nat} {adK adV : Nat → Nat} {L : List Nat} {kd : Nat → Nat} {tys : List (ClassId × FieldType)} {f : Nat → va_E} {H : Heap} {locs : List Loc} {ls : Array Slot} {cells slots : Nat} {Q : State → Prop} {ax am q0 q1 q4 q5 q6 : Nat} (hx : p.tables.exec = Jvm.exec) (hb : c.code = code) (hml : c.maxLocals = 4) (hown : s.vm.findClass R_law = some m.cls) (hts : ∀ w ∈ lw_tbl, w.before #[Value.ref b] s = true) (hX : va_X b Ls xs s s.heap) (hbl : b < s.heap.size) (hbA : ¬ pA L s.heap.size b) (hK : va_K (dC, dI) vwCl tys s) (hAm : ap_ adK adV (pA L s.heap.size) s s.heap) (hA : LA L kd ax am q0 q1 q4 q5 q6) (hi5 : i + 5 < Ls) (hLs : Ls ≤ 3072) (hcb : cells + 602 ≤ 601024 ∧ slots + 1806 ≤ 7293034) (g : G3 (dC, dI) L kd tys s f [] [] f H locs []) (hXI : XI L kd f ax q0 q1 q4 q5 q6) (hMI : MI L kd f am) (hTI : TI f ax am) (hl : lv_has ls 4 [(3, .int (nI i)), (2, .ref am), (1, .ref ax), (0, .ref b)]) (kk : ∀ (f1 : Nat → va_E) (H1 : Heap) (locs1 : List Loc) (cells1 slots1 k : Nat), k ≤ 601 → cells1 = cells + k → slots1 = slots + 3 * k → G3 (dC, dI) L kd tys s f1 [] [] f1 H1 locs1 [] → XI L kd f1 ax q0 q1 q4 q5 q6 → MI L kd f1 am → TI f1 ax am → W p l e room_1 s m #[Value.ref b] below meth c H1 locs1 cells1 slots1 Q (F0 m 823 ls [])) : W p l e room_1 s m #[Value.ref b] below meth c H locs cells slots Q (F0 m 701 ls []) := by
  refine lv_aload_n hx hb dL_law_701 rfl (lv_at hl 2 rfl) ?_
  refine lv_aload_n hx hb dL_law_702 rfl (lv_at hl 3 rfl) ?_
  refine lv_iload_n hx hb dL_law_703 rfl (lv_at hl 0 rfl) ?_
  refine lv_iconst (v := 1) hx hb dL_law_704 (by decide) ?_
  refine lv_iadd hx hb dL_law_705 ?_
  refine lv_topi (fun y_1 ey_1 => ?_)
  refine va_sld hx hb hX hbl hbA g.2.2.1 (law_in (k := 1) ey_1 rfl rfl (by omega) (by omega)) dL_law_706 ?_
  refine lv_aload_n hx hb dL_law_707 rfl (lv_at hl 3 rfl) ?_
  refine lv_iload_n hx hb dL_law_708 rfl (lv_at hl 0 rfl) ?_
  refine lv_iconst (v := 2) hx hb dL_law_709 (by decide) ?_
  refine lv_iadd hx hb dL_law_710 ?_
  refine lv_topi (fun y_2 ey_2 => ?_)
  refine va_sld hx hb hX hbl hbA g.2.2.1 (law_in (k := 2) ey_2 rfl rfl (by omega) (by omega)) dL_law_711 ?_
  have hW0 := g.2.2.2.1
  obtain ⟨⟨a1, a2, a3, a4, a5, a6, a7⟩, ⟨t1, t2, b1, b2, b3, b4, b5, b6⟩, c1, c2⟩ := id hXI
  have g9 := g.re (md' := []) (ma' := [])
  refine g_calli (va_runV (As := [.int (xs y_1.toNatClampNeg), .int (xs y_2.toNatClampNeg)]) (rest := []) ⟨hx, hb, hml, hown, hts⟩ (r_X11_told l dC dI L kd tys f H.size g.2.2.2.1 ax hA.1.1 hA.1.2 (xs y_1.toNatClampNeg) (xs y_2.toNatClampNeg)) (cwV 2 hts (gVL_ t_1809 t_1810 t_1811 t_182 t_1812) rfl rfl rfl (by decide +kernel) ⟨(Nat.le_of_ble_eq_true rfl), (Nat.le_of_ble_eq_true rfl)⟩) (pre3V g9 hK hA.1.1 hA.1.2 (by decide) (q := (RX11, TX11, 8)) rfl) rfl rfl hl.1 rfl (lv_room (Nat.le_of_ble_eq_true rfl)) dL_law_712 ⟨by show cells + 0 ≤ 601024; omega, by show slots + 0 ≤ 7293034; omega⟩) g9 hK (by decide) (by decide) (fx' := []) rfl (fun r_3 f H locs hp hM g => ?_)
  have hXI := XI.frx hXI hA hM hW0 (RP.frame hM hW0 hA.2.2.2.1.1 hA.2.2.2.1.2 (by decide) (by decide) c1) (by decide) (by decide)
  have hMI := MI.frx hMI hA.2.1 hM g hW0 (by decide) (by decide)
  have hTI := hTI.fr hA.1 hA.2.1 hM (by decide) (by decide)
  have g := g.re (md' := []) (ma' := [])
  refine lv_pop hx hb dL_law_715 rfl ?_
  refine lv_aload_n hx hb dL_law_716 rfl (lv_at hl 1 rfl) ?_
  refine lv_aload_n hx hb dL_law_717 rfl (lv_at hl 3 rfl) ?_
  refine lv_iload_n hx hb dL_law_718 rfl (lv_at hl 0 rfl) ?_
  refine lv_iconst (v := 1) hx hb dL_law_719 (by decide) ?_
  refine lv_iadd hx hb dL_law_720 ?_
  refine lv_topi (fun y_4 ey_4 => ?_)
  refine va_sld hx hb hX hbl hbA g.2.2.1 (law_in (k := 1) ey_4 rfl rfl (by omega) (by omega)) dL_law_721 ?_
  refine lv_aload_n hx hb dL_law_722 rfl (lv_at hl 3 rfl) ?_
  refine lv_iload_n hx hb dL_law_723 rfl (lv_at hl 0 rfl) ?_
  refine lv_iconst (v := 2) hx hb dL_law_724 (by decide) ?_
  refine lv_iadd hx hb dL_law_725 ?_
  refine lv_topi (fun y_5 ey_5 => ?_)
  refine va_sld hx hb hX hbl hbA g.2.2.1 (law_in (k := 2) ey_5 rfl rfl (by omega) (by omega)) dL_law_726 ?_
  have hW0 := g.2.2.2.1
  obtain ⟨n, q, V, δ, hn, hq, hRI⟩ := id hMI
  obtain ⟨r1, r2, r3, r4, r5, r6, r7, r8⟩ := id hRI
  have g9 := g.re (md' := []) (ma' := [])
  refine g_calli (va_runV (As := [.int (xs y_4.toNatClampNeg), .int (xs y_5.toNatClampNeg)]) (rest := []) ⟨hx, hb, hml, hown, hts⟩ (r_X14_told l dC dI L kd tys f H.size g.2.2.2.1 am hA.2.1.1 hA.2.1.2 (xs y_4.toNatClampNeg) (xs y_5.toNatClampNeg)) (cwV 2 hts (gVL_ t_2826 t_2827 t_2828 t_198 t_2829) rfl rfl rfl (by decide +kernel) ⟨(Nat.le_of_ble_eq_true rfl), (Nat.le_of_ble_eq_true rfl)⟩) (pre3V g9 hK hA.2.1.1 hA.2.1.2 (by decide) (q := (RX14, TX14, 67)) rfl) rfl rfl hl.1 rfl (lv_room (Nat.le_of_ble_eq_true rfl)) dL_law_727 ⟨by show cells + 0 ≤ 601024; omega, by show slots + 0 ≤ 7293034; omega⟩) g9 hK (by decide) (by decide) (fx' := []) rfl (fun r_6 f H locs hp hM g => ?_)
  have hXI := XI.frm hXI hA hM hW0 (by decide) (by decide)
  have hMI : MI L kd f am := ⟨n, q, V, δ, hn, hq, isV.frame hM hW0 hn.1 hn.2 (by decide) (by decide) r1, r2, mOK.frame hM hW0 hn.1 hn.2 (by decide) (by decide) r3, rOK.frame hM hW0 hA.2.1.1 hA.2.1.2 (by decide) (by decide) r4, oOK.frame hM hW0 hA.2.1.1 hA.2.1.2 (by decide) (by decide) r5, apP.call r6 g hn.1 hn.2 hq.1 hq.2 rfl, (md_fix hM hA.2.1 (by decide) (by decide)).trans r7, (md_fix hM hA.2.1 (by decide) (by decide)).trans r8⟩
  have hTI := hTI.fr hA.1 hA.2.1 hM (by decide) (by decide)
  have g := g.re (md' := []) (ma' := [])
  refine lv_pop hx hb dL_law_730 rfl ?_
  refine lv_goto (tgt := 823) hx hb dL_law_731 (by decide) ?_
  exact kk f H locs _ _ 0 (by omega) rfl rfl g hXI hMI hTI

set_option maxHeartbeats 4000000 in
set_option maxRecDepth 100000 in
theorem law_22 {p : Program} {l : Launch} {e : Env} {s : State} {m : MethodId} {below : List Frame} {meth : Method} {c : Code} {b Ls i : Nat} {xs : Nat → Int32} {dC : Nat → ClassId} {dI : Nat → Nat → Nat} {adK adV : Nat → Nat} {L : List Nat} {kd : Nat → Nat} {tys : List (ClassId × FieldType)} {f : Nat → va_E} {H : Heap} {locs : List Loc} {ls : Array Slot} {cells slots : Nat} {Q : State → Prop} {ax am q0 q1 q4 q5 q6 : Nat} (hx : p.tables.exec = Jvm.exec) (hb : c.code = code) (hml : c.maxLocals = 4) (hown : s.vm.findClass R_law = some m.cls) (hts : ∀ w ∈ lw_tbl, w.before #[Value.ref b] s = true) (hX : va_X b Ls xs s s.heap) (hbl : b < s.heap.size) (hbA : ¬ pA L s.heap.size b) (hK : va_K (dC, dI) vwCl tys s) (hAm : ap_ adK adV (pA L s.heap.size) s s.heap) (hA : LA L kd ax am q0 q1 q4 q5 q6) (hi5 : i + 5 < Ls) (hLs : Ls ≤ 3072) (hcb : cells + 602 ≤ 601024 ∧ slots + 1806 ≤ 7293034) (g : G3 (dC, dI) L kd tys s f [] [] f H locs []) (hXI : XI L kd f ax q0 q1 q4 q5 q6) (hMI : MI L kd f am) (hTI : TI f ax am) (hl : lv_has ls 4 [(3, .int (nI i)), (2, .ref am), (1, .ref ax), (0, .ref b)]) (kk : ∀ (f1 : Nat → va_E) (H1 : Heap) (locs1 : List Loc) (cells1 slots1 k : Nat), k ≤ 601 → cells1 = cells + k → slots1 = slots + 3 * k → G3 (dC, dI) L kd tys s f1 [] [] f1 H1 locs1 [] → XI L kd f1 ax q0 q1 q4 q5 q6 → MI L kd f1 am → TI f1 ax am → W p l e room_1 s m #[Value.ref b] below meth c H1 locs1 cells1 slots1 Q (F0 m 823 ls [])) : W p l e room_1 s m #[Value.ref b] below meth c H locs cells slots Q (F0 m 734 ls []) := by
  refine lv_aload_n hx hb dL_law_734 rfl (lv_at hl 2 rfl) ?_
  refine lv_aload_n hx hb dL_law_735 rfl (lv_at hl 3 rfl) ?_
  refine lv_iload_n hx hb dL_law_736 rfl (lv_at hl 0 rfl) ?_
  refine lv_iconst (v := 1) hx hb dL_law_737 (by decide) ?_
  refine lv_iadd hx hb dL_law_738 ?_
  refine lv_topi (fun y_1 ey_1 => ?_)
  refine va_sld hx hb hX hbl hbA g.2.2.1 (law_in (k := 1) ey_1 rfl rfl (by omega) (by omega)) dL_law_739 ?_
  refine lv_aload_n hx hb dL_law_740 rfl (lv_at hl 3 rfl) ?_
  refine lv_iload_n hx hb dL_law_741 rfl (lv_at hl 0 rfl) ?_
  refine lv_iconst (v := 2) hx hb dL_law_742 (by decide) ?_
  refine lv_iadd hx hb dL_law_743 ?_
  refine lv_topi (fun y_2 ey_2 => ?_)
  refine va_sld hx hb hX hbl hbA g.2.2.1 (law_in (k := 2) ey_2 rfl rfl (by omega) (by omega)) dL_law_744 ?_
  have hW0 := g.2.2.2.1
  obtain ⟨⟨a1, a2, a3, a4, a5, a6, a7⟩, ⟨t1, t2, b1, b2, b3, b4, b5, b6⟩, c1, c2⟩ := id hXI
  have g9 := g.re (md' := []) (ma' := [])
  refine g_calll (va_runV (As := [.int (xs y_1.toNatClampNeg), .int (xs y_2.toNatClampNeg)]) (rest := []) ⟨hx, hb, hml, hown, hts⟩ (r_X11_cell l dC dI L kd tys f H.size g.2.2.2.1 ax hA.1.1 hA.1.2 (xs y_1.toNatClampNeg) (xs y_2.toNatClampNeg)) (cwV 2 hts (gVL_ t_1813 t_1814 t_1815 t_182 t_1816) rfl rfl rfl (by decide +kernel) ⟨(Nat.le_of_ble_eq_true rfl), (Nat.le_of_ble_eq_true rfl)⟩) (pre3V g9 hK hA.1.1 hA.1.2 (by decide) (q := (RX11, TX11, 8)) rfl) rfl rfl hl.1 rfl (lv_room (Nat.le_of_ble_eq_true rfl)) dL_law_745 ⟨by show cells + 0 ≤ 601024; omega, by show slots + 0 ≤ 7293034; omega⟩) g9 hK (by decide) (by decide) (fx' := []) rfl (fun r_3 f H locs hp hM g => ?_)
  have hXI := XI.frx hXI hA hM hW0 (RP.frame hM hW0 hA.2.2.2.1.1 hA.2.2.2.1.2 (by decide) (by decide) c1) (by decide) (by decide)
  have hMI := MI.frx hMI hA.2.1 hM g hW0 (by decide) (by decide)
  have hTI := hTI.fr hA.1 hA.2.1 hM (by decide) (by decide)
  have g := g.re (md' := []) (ma' := [])
  refine lv_pop2_2 hx hb dL_law_748 rfl ?_
  refine lv_aload_n hx hb dL_law_749 rfl (lv_at hl 1 rfl) ?_
  refine lv_aload_n hx hb dL_law_750 rfl (lv_at hl 3 rfl) ?_
  refine lv_iload_n hx hb dL_law_751 rfl (lv_at hl 0 rfl) ?_
  refine lv_iconst (v := 1) hx hb dL_law_752 (by decide) ?_
  refine lv_iadd hx hb dL_law_753 ?_
  refine lv_topi (fun y_4 ey_4 => ?_)
  refine va_sld hx hb hX hbl hbA g.2.2.1 (law_in (k := 1) ey_4 rfl rfl (by omega) (by omega)) dL_law_754 ?_
  refine lv_aload_n hx hb dL_law_755 rfl (lv_at hl 3 rfl) ?_
  refine lv_iload_n hx hb dL_law_756 rfl (lv_at hl 0 rfl) ?_
  refine lv_iconst (v := 2) hx hb dL_law_757 (by decide) ?_
  refine lv_iadd hx hb dL_law_758 ?_
  refine lv_topi (fun y_5 ey_5 => ?_)
  refine va_sld hx hb hX hbl hbA g.2.2.1 (law_in (k := 2) ey_5 rfl rfl (by omega) (by omega)) dL_law_759 ?_
  have hW0 := g.2.2.2.1
  obtain ⟨n, q, V, δ, hn, hq, hRI⟩ := id hMI
  obtain ⟨r1, r2, r3, r4, r5, r6, r7, r8⟩ := id hRI
  have g9 := g.re (md' := []) (ma' := [])
  refine g_calll (va_runV (As := [.int (xs y_4.toNatClampNeg), .int (xs y_5.toNatClampNeg)]) (rest := []) ⟨hx, hb, hml, hown, hts⟩ (r_X14_cell l dC dI L kd tys f H.size g.2.2.2.1 am hA.2.1.1 hA.2.1.2 (xs y_4.toNatClampNeg) (xs y_5.toNatClampNeg) n hn.1 hn.2 V δ r2 r5 r1 (Fs.cons_ hA.2.1 (by decide) r7 Fs.nil)) (cwV 2 hts (gVL_ t_2830 t_2831 t_2832 t_198 t_2833) rfl rfl rfl (by decide +kernel) ⟨(Nat.le_of_ble_eq_true rfl), (Nat.le_of_ble_eq_true rfl)⟩) (pre3V g9 hK hA.2.1.1 hA.2.1.2 (by decide) (q := (RX14, TX14, 67)) rfl) rfl rfl hl.1 rfl (lv_room (Nat.le_of_ble_eq_true rfl)) dL_law_760 ⟨by show cells + 0 ≤ 601024; omega, by show slots + 0 ≤ 7293034; omega⟩) g9 hK (by decide) (by decide) (fx' := []) rfl (fun r_6 f H locs hp hM g => ?_)
  have hXI := XI.frm hXI hA hM hW0 (by decide) (by decide)
  have hMI : MI L kd f am := ⟨n, q, V, δ, hn, hq, isV.frame hM hW0 hn.1 hn.2 (by decide) (by decide) r1, r2, mOK.frame hM hW0 hn.1 hn.2 (by decide) (by decide) r3, rOK.frame hM hW0 hA.2.1.1 hA.2.1.2 (by decide) (by decide) r4, oOK.frame hM hW0 hA.2.1.1 hA.2.1.2 (by decide) (by decide) r5, apP.call r6 g hn.1 hn.2 hq.1 hq.2 rfl, (md_fix hM hA.2.1 (by decide) (by decide)).trans r7, (md_fix hM hA.2.1 (by decide) (by decide)).trans r8⟩
  have hTI := hTI.fr hA.1 hA.2.1 hM (by decide) (by decide)
  have g := g.re (md' := []) (ma' := [])
  refine lv_pop2_2 hx hb dL_law_763 rfl ?_
  refine lv_goto (tgt := 823) hx hb dL_law_764 (by decide) ?_
  exact kk f H locs _ _ 0 (by omega) rfl rfl g hXI hMI hTI

set_option maxHeartbeats 4000000 in
set_option maxRecDepth 100000 in
theorem law_23 {p : Program} {l : Launch} {e : Env} {s : State} {m : MethodId} {below : List Frame} {meth : Method} {c : Code} {b Ls i : Nat} {xs : Nat → Int32} {dC : Nat → ClassId} {dI : Nat → Nat → Nat} {adK adV : Nat → Nat} {L : List Nat} {kd : Nat → Nat} {tys : List (ClassId × FieldType)} {f : Nat → va_E} {H : Heap} {locs : List Loc} {ls : Array Slot} {cells slots : Nat} {Q : State → Prop} {ax am q0 q1 q4 q5 q6 : Nat} (hx : p.tables.exec = Jvm.exec) (hb : c.code = code) (hml : c.maxLocals = 4) (hown : s.vm.findClass R_law = some m.cls) (hts : ∀ w ∈ lw_tbl, w.before #[Value.ref b] s = true) (hX : va_X b Ls xs s s.heap) (hbl : b < s.heap.size) (hbA : ¬ pA L s.heap.size b) (hK : va_K (dC, dI) vwCl tys s) (hAm : ap_ adK adV (pA L s.heap.size) s s.heap) (hA : LA L kd ax am q0 q1 q4 q5 q6) (hi5 : i + 5 < Ls) (hLs : Ls ≤ 3072) (hcb : cells + 602 ≤ 601024 ∧ slots + 1806 ≤ 7293034) (g : G3 (dC, dI) L kd tys s f [] [] f H locs []) (hXI : XI L kd f ax q0 q1 q4 q5 q6) (hMI : MI L kd f am) (hTI : TI f ax am) (hl : lv_has ls 4 [(3, .int (nI i)), (2, .ref am), (1, .ref ax), (0, .ref b)]) (kk : ∀ (f1 : Nat → va_E) (H1 : Heap) (locs1 : List Loc) (cells1 slots1 k : Nat), k ≤ 601 → cells1 = cells + k → slots1 = slots + 3 * k → G3 (dC, dI) L kd tys s f1 [] [] f1 H1 locs1 [] → XI L kd f1 ax q0 q1 q4 q5 q6 → MI L kd f1 am → TI f1 ax am → W p l e room_1 s m #[Value.ref b] below meth c H1 locs1 cells1 slots1 Q (F0 m 823 ls [])) : W p l e room_1 s m #[Value.ref b] below meth c H locs cells slots Q (F0 m 767 ls []) := by
  refine lv_aload_n hx hb dL_law_767 rfl (lv_at hl 2 rfl) ?_
  refine lv_aload_n hx hb dL_law_768 rfl (lv_at hl 3 rfl) ?_
  refine lv_iload_n hx hb dL_law_769 rfl (lv_at hl 0 rfl) ?_
  refine lv_iconst (v := 1) hx hb dL_law_770 (by decide) ?_
  refine lv_iadd hx hb dL_law_771 ?_
  refine lv_topi (fun y_1 ey_1 => ?_)
  refine va_sld hx hb hX hbl hbA g.2.2.1 (law_in (k := 1) ey_1 rfl rfl (by omega) (by omega)) dL_law_772 ?_
  refine lv_aload_n hx hb dL_law_773 rfl (lv_at hl 3 rfl) ?_
  refine lv_iload_n hx hb dL_law_774 rfl (lv_at hl 0 rfl) ?_
  refine lv_iconst (v := 2) hx hb dL_law_775 (by decide) ?_
  refine lv_iadd hx hb dL_law_776 ?_
  refine lv_topi (fun y_2 ey_2 => ?_)
  refine va_sld hx hb hX hbl hbA g.2.2.1 (law_in (k := 2) ey_2 rfl rfl (by omega) (by omega)) dL_law_777 ?_
  have hW0 := g.2.2.2.1
  obtain ⟨⟨a1, a2, a3, a4, a5, a6, a7⟩, ⟨t1, t2, b1, b2, b3, b4, b5, b6⟩, c1, c2⟩ := id hXI
  have g9 := g.re (md' := []) (ma' := [])
  refine g_calll (va_runV (As := [.int (xs y_1.toNatClampNeg), .int (xs y_2.toNatClampNeg)]) (rest := []) ⟨hx, hb, hml, hown, hts⟩ (r_X11_beside l dC dI L kd tys f H.size g.2.2.2.1 ax hA.1.1 hA.1.2 (xs y_1.toNatClampNeg) (xs y_2.toNatClampNeg)) (cwV 2 hts (gVL_ t_1822 t_1823 t_1824 t_182 t_1825) rfl rfl rfl (by decide +kernel) ⟨(Nat.le_of_ble_eq_true rfl), (Nat.le_of_ble_eq_true rfl)⟩) (pre3V g9 hK hA.1.1 hA.1.2 (by decide) (q := (RX11, TX11, 8)) rfl) rfl rfl hl.1 rfl (lv_room (Nat.le_of_ble_eq_true rfl)) dL_law_778 ⟨by show cells + 0 ≤ 601024; omega, by show slots + 0 ≤ 7293034; omega⟩) g9 hK (by decide) (by decide) (fx' := []) rfl (fun r_3 f H locs hp hM g => ?_)
  have hXI := XI.frx hXI hA hM hW0 (RP.frame hM hW0 hA.2.2.2.1.1 hA.2.2.2.1.2 (by decide) (by decide) c1) (by decide) (by decide)
  have hMI := MI.frx hMI hA.2.1 hM g hW0 (by decide) (by decide)
  have hTI := hTI.fr hA.1 hA.2.1 hM (by decide) (by decide)
  have g := g.re (md' := []) (ma' := [])
  refine lv_pop2_2 hx hb dL_law_781 rfl ?_
  refine lv_aload_n hx hb dL_law_782 rfl (lv_at hl 1 rfl) ?_
  refine lv_aload_n hx hb dL_law_783 rfl (lv_at hl 3 rfl) ?_
  refine lv_iload_n hx hb dL_law_784 rfl (lv_at hl 0 rfl) ?_
  refine lv_iconst (v := 1) hx hb dL_law_785 (by decide) ?_
  refine lv_iadd hx hb dL_law_786 ?_
  refine lv_topi (fun y_4 ey_4 => ?_)
  refine va_sld hx hb hX hbl hbA g.2.2.1 (law_in (k := 1) ey_4 rfl rfl (by omega) (by omega)) dL_law_787 ?_
  refine lv_aload_n hx hb dL_law_788 rfl (lv_at hl 3 rfl) ?_
  refine lv_iload_n hx hb dL_law_789 rfl (lv_at hl 0 rfl) ?_
  refine lv_iconst (v := 2) hx hb dL_law_790 (by decide) ?_
  refine lv_iadd hx hb dL_law_791 ?_
  refine lv_topi (fun y_5 ey_5 => ?_)
  refine va_sld hx hb hX hbl hbA g.2.2.1 (law_in (k := 2) ey_5 rfl rfl (by omega) (by omega)) dL_law_792 ?_
  have hW0 := g.2.2.2.1
  obtain ⟨n, q, V, δ, hn, hq, hRI⟩ := id hMI
  obtain ⟨r1, r2, r3, r4, r5, r6, r7, r8⟩ := id hRI
  have g9 := g.re (md' := []) (ma' := [])
  refine g_calll (va_runV (As := [.int (xs y_4.toNatClampNeg), .int (xs y_5.toNatClampNeg)]) (rest := []) ⟨hx, hb, hml, hown, hts⟩ (r_X14_beside l dC dI L kd tys f H.size g.2.2.2.1 am hA.2.1.1 hA.2.1.2 (xs y_4.toNatClampNeg) (xs y_5.toNatClampNeg)) (cwV 2 hts (gVL_ t_2835 t_2836 t_2837 t_198 t_2838) rfl rfl rfl (by decide +kernel) ⟨(Nat.le_of_ble_eq_true rfl), (Nat.le_of_ble_eq_true rfl)⟩) (pre3V g9 hK hA.2.1.1 hA.2.1.2 (by decide) (q := (RX14, TX14, 67)) rfl) rfl rfl hl.1 rfl (lv_room (Nat.le_of_ble_eq_true rfl)) dL_law_793 ⟨by show cells + 0 ≤ 601024; omega, by show slots + 0 ≤ 7293034; omega⟩) g9 hK (by decide) (by decide) (fx' := []) rfl (fun r_6 f H locs hp hM g => ?_)
  have hXI := XI.frm hXI hA hM hW0 (by decide) (by decide)
  have hMI : MI L kd f am := ⟨n, q, V, δ, hn, hq, isV.frame hM hW0 hn.1 hn.2 (by decide) (by decide) r1, r2, mOK.frame hM hW0 hn.1 hn.2 (by decide) (by decide) r3, rOK.frame hM hW0 hA.2.1.1 hA.2.1.2 (by decide) (by decide) r4, oOK.frame hM hW0 hA.2.1.1 hA.2.1.2 (by decide) (by decide) r5, apP.call r6 g hn.1 hn.2 hq.1 hq.2 rfl, (md_fix hM hA.2.1 (by decide) (by decide)).trans r7, (md_fix hM hA.2.1 (by decide) (by decide)).trans r8⟩
  have hTI := hTI.fr hA.1 hA.2.1 hM (by decide) (by decide)
  have g := g.re (md' := []) (ma' := [])
  refine lv_pop2_2 hx hb dL_law_796 rfl ?_
  refine lv_goto (tgt := 823) hx hb dL_law_797 (by decide) ?_
  exact kk f H locs _ _ 0 (by omega) rfl rfl g hXI hMI hTI

set_option maxHeartbeats 4000000 in
set_option maxRecDepth 100000 in
theorem law_24 {p : Program} {l : Launch} {e : Env} {s : State} {m : MethodId} {below : List Frame} {meth : Method} {c : Code} {b Ls i : Nat} {xs : Nat → Int32} {dC : Nat → ClassId} {dI : Nat → Nat → Nat} {adK adV : Nat → Nat} {L : List Nat} {kd : Nat → Nat} {tys : List (ClassId × FieldType)} {f : Nat → va_E} {H : Heap} {locs : List Loc} {ls : Array Slot} {cells slots : Nat} {Q : State → Prop} {ax am q0 q1 q4 q5 q6 : Nat} (hx : p.tables.exec = Jvm.exec) (hb : c.code = code) (hml : c.maxLocals = 4) (hown : s.vm.findClass R_law = some m.cls) (hts : ∀ w ∈ lw_tbl, w.before #[Value.ref b] s = true) (hX : va_X b Ls xs s s.heap) (hbl : b < s.heap.size) (hbA : ¬ pA L s.heap.size b) (hK : va_K (dC, dI) vwCl tys s) (hAm : ap_ adK adV (pA L s.heap.size) s s.heap) (hA : LA L kd ax am q0 q1 q4 q5 q6) (hi5 : i + 5 < Ls) (hLs : Ls ≤ 3072) (hcb : cells + 602 ≤ 601024 ∧ slots + 1806 ≤ 7293034) (g : G3 (dC, dI) L kd tys s f [] [] f H locs []) (hXI : XI L kd f ax q0 q1 q4 q5 q6) (hMI : MI L kd f am) (hTI : TI f ax am) (hl : lv_has ls 4 [(3, .int (nI i)), (2, .ref am), (1, .ref ax), (0, .ref b)]) (kk : ∀ (f1 : Nat → va_E) (H1 : Heap) (locs1 : List Loc) (cells1 slots1 k : Nat), k ≤ 601 → cells1 = cells + k → slots1 = slots + 3 * k → G3 (dC, dI) L kd tys s f1 [] [] f1 H1 locs1 [] → XI L kd f1 ax q0 q1 q4 q5 q6 → MI L kd f1 am → TI f1 ax am → W p l e room_1 s m #[Value.ref b] below meth c H1 locs1 cells1 slots1 Q (F0 m 823 ls [])) : W p l e room_1 s m #[Value.ref b] below meth c H locs cells slots Q (F0 m 800 ls []) := by
  refine lv_aload_n hx hb dL_law_800 rfl (lv_at hl 2 rfl) ?_
  refine lv_aload_n hx hb dL_law_801 rfl (lv_at hl 3 rfl) ?_
  refine lv_iload_n hx hb dL_law_802 rfl (lv_at hl 0 rfl) ?_
  refine lv_iconst (v := 1) hx hb dL_law_803 (by decide) ?_
  refine lv_iadd hx hb dL_law_804 ?_
  refine lv_topi (fun y_1 ey_1 => ?_)
  refine va_sld hx hb hX hbl hbA g.2.2.1 (law_in (k := 1) ey_1 rfl rfl (by omega) (by omega)) dL_law_805 ?_
  have hW0 := g.2.2.2.1
  obtain ⟨⟨a1, a2, a3, a4, a5, a6, a7⟩, ⟨t1, t2, b1, b2, b3, b4, b5, b6⟩, c1, c2⟩ := id hXI
  have g9 := g.re (md' := []) (ma' := [])
  refine g_calli (va_runV (As := [.int (xs y_1.toNatClampNeg)]) (rest := []) ⟨hx, hb, hml, hown, hts⟩ (r_X11_count l dC dI L kd tys f H.size g.2.2.2.1 ax hA.1.1 hA.1.2 (xs y_1.toNatClampNeg)) (cwV 1 hts (gVL_ t_1826 t_1827 t_1828 t_182 t_1829) rfl rfl rfl (by decide +kernel) ⟨(Nat.le_of_ble_eq_true rfl), (Nat.le_of_ble_eq_true rfl)⟩) (pre3V g9 hK hA.1.1 hA.1.2 (by decide) (q := (RX11, TX11, 8)) rfl) rfl rfl hl.1 rfl (lv_room (Nat.le_of_ble_eq_true rfl)) dL_law_806 ⟨by show cells + 0 ≤ 601024; omega, by show slots + 0 ≤ 7293034; omega⟩) g9 hK (by decide) (by decide) (fx' := []) rfl (fun r_2 f H locs hp hM g => ?_)
  have hXI := XI.frx hXI hA hM hW0 (RP.frame hM hW0 hA.2.2.2.1.1 hA.2.2.2.1.2 (by decide) (by decide) c1) (by decide) (by decide)
  have hMI := MI.frx hMI hA.2.1 hM g hW0 (by decide) (by decide)
  have hTI := hTI.fr hA.1 hA.2.1 hM (by decide) (by decide)
  have g := g.re (md' := []) (ma' := [])
  refine lv_pop hx hb dL_law_809 rfl ?_
  refine lv_aload_n hx hb dL_law_810 rfl (lv_at hl 1 rfl) ?_
  refine lv_aload_n hx hb dL_law_811 rfl (lv_at hl 3 rfl) ?_
  refine lv_iload_n hx hb dL_law_812 rfl (lv_at hl 0 rfl) ?_
  refine lv_iconst (v := 1) hx hb dL_law_813 (by decide) ?_
  refine lv_iadd hx hb dL_law_814 ?_
  refine lv_topi (fun y_3 ey_3 => ?_)
  refine va_sld hx hb hX hbl hbA g.2.2.1 (law_in (k := 1) ey_3 rfl rfl (by omega) (by omega)) dL_law_815 ?_
  have hW0 := g.2.2.2.1
  obtain ⟨n, q, V, δ, hn, hq, hRI⟩ := id hMI
  obtain ⟨r1, r2, r3, r4, r5, r6, r7, r8⟩ := id hRI
  have g9 := g.re (md' := []) (ma' := [])
  refine g_calli (va_runV (As := [.int (xs y_3.toNatClampNeg)]) (rest := []) ⟨hx, hb, hml, hown, hts⟩ (r_X14_count l dC dI L kd tys f H.size g.2.2.2.1 am hA.2.1.1 hA.2.1.2 (xs y_3.toNatClampNeg)) (cwV 1 hts (gVL_ t_2839 t_2840 t_2841 t_198 t_2842) rfl rfl rfl (by decide +kernel) ⟨(Nat.le_of_ble_eq_true rfl), (Nat.le_of_ble_eq_true rfl)⟩) (pre3V g9 hK hA.2.1.1 hA.2.1.2 (by decide) (q := (RX14, TX14, 67)) rfl) rfl rfl hl.1 rfl (lv_room (Nat.le_of_ble_eq_true rfl)) dL_law_816 ⟨by show cells + 0 ≤ 601024; omega, by show slots + 0 ≤ 7293034; omega⟩) g9 hK (by decide) (by decide) (fx' := []) rfl (fun r_4 f H locs hp hM g => ?_)
  have hXI := XI.frm hXI hA hM hW0 (by decide) (by decide)
  have hMI : MI L kd f am := ⟨n, q, V, δ, hn, hq, isV.frame hM hW0 hn.1 hn.2 (by decide) (by decide) r1, r2, mOK.frame hM hW0 hn.1 hn.2 (by decide) (by decide) r3, rOK.frame hM hW0 hA.2.1.1 hA.2.1.2 (by decide) (by decide) r4, oOK.frame hM hW0 hA.2.1.1 hA.2.1.2 (by decide) (by decide) r5, apP.call r6 g hn.1 hn.2 hq.1 hq.2 rfl, (md_fix hM hA.2.1 (by decide) (by decide)).trans r7, (md_fix hM hA.2.1 (by decide) (by decide)).trans r8⟩
  have hTI := hTI.fr hA.1 hA.2.1 hM (by decide) (by decide)
  have g := g.re (md' := []) (ma' := [])
  refine lv_pop hx hb dL_law_819 rfl ?_
  refine lv_goto (tgt := 823) hx hb dL_law_820 (by decide) ?_
  exact kk f H locs _ _ 0 (by omega) rfl rfl g hXI hMI hTI

