set_option maxHeartbeats 4000000 in
set_option maxRecDepth 100000 in
theorem law_9 {p : Program} {l : Launch} {e : Env} {s : State} {m : MethodId} {below : List Frame} {meth : Method} {c : Code} {b Ls i : Nat} {xs : Nat → Int32} {dC : Nat → ClassId} {dI : Nat → Nat → Nat} {adK adV : Nat → Nat} {L : List Nat} {kd : Nat → Nat} {tys : List (ClassId × FieldType)} {f : Nat → va_E} {H : Heap} {locs : List Loc} {ls : Array Slot} {cells slots : Nat} {Q : State → Prop} {ax am q0 q1 q4 q5 q6 : Nat} (hx : p.tables.exec = Jvm.exec) (hb : c.code = code) (hml : c.maxLocals = 4) (hown : s.vm.findClass R_law = some m.cls) (hts : ∀ w ∈ lw_tbl, w.before #[Value.ref b] s = true) (hX : va_X b Ls xs s s.heap) (hbl : b < s.heap.size) (hbA : ¬ pA L s.heap.size b) (hK : va_K (dC, dI) vwCl tys s) (hAm : ap_ adK adV (pA L s.heap.size) s s.heap) (hA : LA L kd ax am q0 q1 q4 q5 q6) (hi5 : i + 5 < Ls) (hLs : Ls ≤ 3072) (hcb : cells + 602 ≤ 601024 ∧ slots + 1806 ≤ 7293034) (g : G3 (dC, dI) L kd tys s f [] [] f H locs []) (hXI : XI L kd f ax q0 q1 q4 q5 q6) (hMI : MI L kd f am) (hTI : TI f ax am) (hl : lv_has ls 4 [(3, .int (nI i)), (2, .ref am), (1, .ref ax), (0, .ref b)]) (kk : ∀ (f1 : Nat → va_E) (H1 : Heap) (locs1 : List Loc) (cells1 slots1 k : Nat), k ≤ 601 → cells1 = cells + k → slots1 = slots + 3 * k → G3 (dC, dI) L kd tys s f1 [] [] f1 H1 locs1 [] → XI L kd f1 ax q0 q1 q4 q5 q6 → MI L kd f1 am → TI f1 ax am → W p l e room_1 s m #[Value.ref b] below meth c H1 locs1 cells1 slots1 Q (F0 m 823 ls [])) : W p l e room_1 s m #[Value.ref b] below meth c H locs cells slots Q (F0 m 415 ls []) := by
  refine lv_aload_n hx hb dL_law_415 rfl (lv_at hl 2 rfl) ?_
  refine lv_aload_n hx hb dL_law_416 rfl (lv_at hl 3 rfl) ?_
  refine lv_iload_n hx hb dL_law_417 rfl (lv_at hl 0 rfl) ?_
  refine lv_iconst (v := 1) hx hb dL_law_418 (by decide) ?_
  refine lv_iadd hx hb dL_law_419 ?_
  refine lv_topi (fun y_1 ey_1 => ?_)
  refine va_sld hx hb hX hbl hbA g.2.2.1 (law_in (k := 1) ey_1 rfl rfl (by omega) (by omega)) dL_law_420 ?_
  refine lv_aload_n hx hb dL_law_421 rfl (lv_at hl 3 rfl) ?_
  refine lv_iload_n hx hb dL_law_422 rfl (lv_at hl 0 rfl) ?_
  refine lv_iconst (v := 2) hx hb dL_law_423 (by decide) ?_
  refine lv_iadd hx hb dL_law_424 ?_
  refine lv_topi (fun y_2 ey_2 => ?_)
  refine va_sld hx hb hX hbl hbA g.2.2.1 (law_in (k := 2) ey_2 rfl rfl (by omega) (by omega)) dL_law_425 ?_
  refine lv_aload_n hx hb dL_law_426 rfl (lv_at hl 3 rfl) ?_
  refine lv_iload_n hx hb dL_law_427 rfl (lv_at hl 0 rfl) ?_
  refine lv_iconst (v := 3) hx hb dL_law_428 (by decide) ?_
  refine lv_iadd hx hb dL_law_429 ?_
  refine lv_topi (fun y_3 ey_3 => ?_)
  refine va_sld hx hb hX hbl hbA g.2.2.1 (law_in (k := 3) ey_3 rfl rfl (by omega) (by omega)) dL_law_430 ?_
  refine lv_aload_n hx hb dL_law_431 rfl (lv_at hl 3 rfl) ?_
  refine lv_iload_n hx hb dL_law_432 rfl (lv_at hl 0 rfl) ?_
  refine lv_iconst (v := 4) hx hb dL_law_433 (by decide) ?_
  refine lv_iadd hx hb dL_law_434 ?_
  refine lv_topi (fun y_4 ey_4 => ?_)
  refine va_sld hx hb hX hbl hbA g.2.2.1 (law_in (k := 4) ey_4 rfl rfl (by omega) (by omega)) dL_law_435 ?_
  refine lv_aload_n hx hb dL_law_436 rfl (lv_at hl 3 rfl) ?_
  refine lv_iload_n hx hb dL_law_437 rfl (lv_at hl 0 rfl) ?_
  refine lv_iconst (v := 5) hx hb dL_law_438 (by decide) ?_
  refine lv_iadd hx hb dL_law_439 ?_
  refine lv_topi (fun y_5 ey_5 => ?_)
  refine va_sld hx hb hX hbl hbA g.2.2.1 (law_in (k := 5) ey_5 rfl rfl (by omega) (by omega)) dL_law_440 ?_
  have hW0 := g.2.2.2.1
  obtain ⟨⟨a1, a2, a3, a4, a5, a6, a7⟩, ⟨t1, t2, b1, b2, b3, b4, b5, b6⟩, c1, c2⟩ := id hXI
  have g9 := g.re (md' := [(3, 0), (10, 8)]) (ma' := [103, 122, 123, 130, 131])
  refine g_calli (va_runV (As := [.int (xs y_1.toNatClampNeg), .int (xs y_2.toNatClampNeg), .int (xs y_3.toNatClampNeg), .int (xs y_4.toNatClampNeg), .int (xs y_5.toNatClampNeg)]) (rest := []) ⟨hx, hb, hml, hown, hts⟩ (r_X11_call l dC dI L kd tys f H.size g.2.2.2.1 ax hA.1.1 hA.1.2 (xs y_1.toNatClampNeg) (xs y_2.toNatClampNeg) (xs y_3.toNatClampNeg) (xs y_4.toNatClampNeg) (xs y_5.toNatClampNeg) q1 hA.2.2.2.1.1 hA.2.2.2.1.2 c1 (Fs.cons_ hA.1 (by decide) a2 Fs.nil)) (cwV 5 hts (gVL_ t_1489 t_1490 t_1491 t_182 t_1492) rfl rfl rfl (by decide +kernel) ⟨(Nat.le_of_ble_eq_true rfl), (Nat.le_of_ble_eq_true rfl)⟩) (pre3V g9 hK hA.1.1 hA.1.2 (by decide) (q := (RX11, TX11, 8)) rfl) rfl rfl hl.1 rfl (lv_room (Nat.le_of_ble_eq_true rfl)) dL_law_441 ⟨by show cells + 0 ≤ 601024; omega, by show slots + 0 ≤ 7293034; omega⟩) g9 hK (by decide) (by decide) (fx' := []) rfl (fun r_6 f H locs hp hM g => ?_)
  have hXI := XI.frx hXI hA hM hW0 hp.1 (by decide) (by decide)
  have hMI := MI.frx hMI hA.2.1 hM g hW0 (by decide) (by decide)
  have hTI := hTI.fr hA.1 hA.2.1 hM (by decide) (by decide)
  have g := g.re (md' := []) (ma' := [])
  refine lv_pop hx hb dL_law_444 rfl ?_
  refine lv_aload_n hx hb dL_law_445 rfl (lv_at hl 1 rfl) ?_
  refine lv_aload_n hx hb dL_law_446 rfl (lv_at hl 3 rfl) ?_
  refine lv_iload_n hx hb dL_law_447 rfl (lv_at hl 0 rfl) ?_
  refine lv_iconst (v := 1) hx hb dL_law_448 (by decide) ?_
  refine lv_iadd hx hb dL_law_449 ?_
  refine lv_topi (fun y_7 ey_7 => ?_)
  refine va_sld hx hb hX hbl hbA g.2.2.1 (law_in (k := 1) ey_7 rfl rfl (by omega) (by omega)) dL_law_450 ?_
  refine lv_aload_n hx hb dL_law_451 rfl (lv_at hl 3 rfl) ?_
  refine lv_iload_n hx hb dL_law_452 rfl (lv_at hl 0 rfl) ?_
  refine lv_iconst (v := 2) hx hb dL_law_453 (by decide) ?_
  refine lv_iadd hx hb dL_law_454 ?_
  refine lv_topi (fun y_8 ey_8 => ?_)
  refine va_sld hx hb hX hbl hbA g.2.2.1 (law_in (k := 2) ey_8 rfl rfl (by omega) (by omega)) dL_law_455 ?_
  refine lv_aload_n hx hb dL_law_456 rfl (lv_at hl 3 rfl) ?_
  refine lv_iload_n hx hb dL_law_457 rfl (lv_at hl 0 rfl) ?_
  refine lv_iconst (v := 3) hx hb dL_law_458 (by decide) ?_
  refine lv_iadd hx hb dL_law_459 ?_
  refine lv_topi (fun y_9 ey_9 => ?_)
  refine va_sld hx hb hX hbl hbA g.2.2.1 (law_in (k := 3) ey_9 rfl rfl (by omega) (by omega)) dL_law_460 ?_
  refine lv_aload_n hx hb dL_law_461 rfl (lv_at hl 3 rfl) ?_
  refine lv_iload_n hx hb dL_law_462 rfl (lv_at hl 0 rfl) ?_
  refine lv_iconst (v := 4) hx hb dL_law_463 (by decide) ?_
  refine lv_iadd hx hb dL_law_464 ?_
  refine lv_topi (fun y_10 ey_10 => ?_)
  refine va_sld hx hb hX hbl hbA g.2.2.1 (law_in (k := 4) ey_10 rfl rfl (by omega) (by omega)) dL_law_465 ?_
  refine lv_aload_n hx hb dL_law_466 rfl (lv_at hl 3 rfl) ?_
  refine lv_iload_n hx hb dL_law_467 rfl (lv_at hl 0 rfl) ?_
  refine lv_iconst (v := 5) hx hb dL_law_468 (by decide) ?_
  refine lv_iadd hx hb dL_law_469 ?_
  refine lv_topi (fun y_11 ey_11 => ?_)
  refine va_sld hx hb hX hbl hbA g.2.2.1 (law_in (k := 5) ey_11 rfl rfl (by omega) (by omega)) dL_law_470 ?_
  have hW0 := g.2.2.2.1
  obtain ⟨n, q, V, δ, hn, hq, hRI⟩ := id hMI
  obtain ⟨r1, r2, r3, r4, r5, r6, r7, r8⟩ := id hRI
  have g9 := g.re (md' := [(14, 51), (14, 53)]) (ma' := [222, 223, 224, 225, 226])
  refine g_calli (va_runV (As := [.int (xs y_7.toNatClampNeg), .int (xs y_8.toNatClampNeg), .int (xs y_9.toNatClampNeg), .int (xs y_10.toNatClampNeg), .int (xs y_11.toNatClampNeg)]) (rest := []) ⟨hx, hb, hml, hown, hts⟩ (r_X14_call l dC dI L kd tys f H.size g.2.2.2.1 am hA.2.1.1 hA.2.1.2 (xs y_7.toNatClampNeg) (xs y_8.toNatClampNeg) (xs y_9.toNatClampNeg) (xs y_10.toNatClampNeg) (xs y_11.toNatClampNeg) n hn.1 hn.2 V δ r2 r4 r1 (Fs.cons_ hA.2.1 (by decide) r7 Fs.nil)) (cwV 5 hts (gVL_ t_2598 t_2599 t_2600 t_198 t_2601) rfl rfl rfl (by decide +kernel) ⟨(Nat.le_of_ble_eq_true rfl), (Nat.le_of_ble_eq_true rfl)⟩) (pre3V g9 hK hA.2.1.1 hA.2.1.2 (by decide) (q := (RX14, TX14, 67)) rfl) rfl rfl hl.1 rfl (lv_room (Nat.le_of_ble_eq_true rfl)) dL_law_471 ⟨by show cells + 0 ≤ 601024; omega, by show slots + 0 ≤ 7293034; omega⟩) g9 hK (by decide) (by decide) (fx' := []) rfl (fun r_12 f H locs hp hM g => ?_)
  have hXI := XI.frm hXI hA hM hW0 (by decide) (by decide)
  have hMI : MI L kd f am := ⟨n, q, V, δ, hn, hq, isV.frame hM hW0 hn.1 hn.2 (by decide) (by decide) r1, r2, mOK.frame hM hW0 hn.1 hn.2 (by decide) (by decide) r3, hp.1, oOK.frame hM hW0 hA.2.1.1 hA.2.1.2 (by decide) (by decide) r5, apP.call r6 g hn.1 hn.2 hq.1 hq.2 rfl, (md_fix hM hA.2.1 (by decide) (by decide)).trans r7, (md_fix hM hA.2.1 (by decide) (by decide)).trans r8⟩
  have hTI := hTI.fr hA.1 hA.2.1 hM (by decide) (by decide)
  have g := g.re (md' := []) (ma' := [])
  refine lv_pop hx hb dL_law_474 rfl ?_
  refine lv_goto (tgt := 823) hx hb dL_law_475 (by decide) ?_
  exact kk f H locs _ _ 0 (by omega) rfl rfl g hXI hMI hTI

set_option maxHeartbeats 4000000 in
set_option maxRecDepth 100000 in
theorem law_10 {p : Program} {l : Launch} {e : Env} {s : State} {m : MethodId} {below : List Frame} {meth : Method} {c : Code} {b Ls i : Nat} {xs : Nat → Int32} {dC : Nat → ClassId} {dI : Nat → Nat → Nat} {adK adV : Nat → Nat} {L : List Nat} {kd : Nat → Nat} {tys : List (ClassId × FieldType)} {f : Nat → va_E} {H : Heap} {locs : List Loc} {ls : Array Slot} {cells slots : Nat} {Q : State → Prop} {ax am q0 q1 q4 q5 q6 : Nat} (hx : p.tables.exec = Jvm.exec) (hb : c.code = code) (hml : c.maxLocals = 4) (hown : s.vm.findClass R_law = some m.cls) (hts : ∀ w ∈ lw_tbl, w.before #[Value.ref b] s = true) (hX : va_X b Ls xs s s.heap) (hbl : b < s.heap.size) (hbA : ¬ pA L s.heap.size b) (hK : va_K (dC, dI) vwCl tys s) (hAm : ap_ adK adV (pA L s.heap.size) s s.heap) (hA : LA L kd ax am q0 q1 q4 q5 q6) (hi5 : i + 5 < Ls) (hLs : Ls ≤ 3072) (hcb : cells + 602 ≤ 601024 ∧ slots + 1806 ≤ 7293034) (g : G3 (dC, dI) L kd tys s f [] [] f H locs []) (hXI : XI L kd f ax q0 q1 q4 q5 q6) (hMI : MI L kd f am) (hTI : TI f ax am) (hl : lv_has ls 4 [(3, .int (nI i)), (2, .ref am), (1, .ref ax), (0, .ref b)]) (kk : ∀ (f1 : Nat → va_E) (H1 : Heap) (locs1 : List Loc) (cells1 slots1 k : Nat), k ≤ 601 → cells1 = cells + k → slots1 = slots + 3 * k → G3 (dC, dI) L kd tys s f1 [] [] f1 H1 locs1 [] → XI L kd f1 ax q0 q1 q4 q5 q6 → MI L kd f1 am → TI f1 ax am → W p l e room_1 s m #[Value.ref b] below meth c H1 locs1 cells1 slots1 Q (F0 m 823 ls [])) : W p l e room_1 s m #[Value.ref b] below meth c H locs cells slots Q (F0 m 478 ls []) := by
  refine lv_aload_n hx hb dL_law_478 rfl (lv_at hl 2 rfl) ?_
  have hW0 := g.2.2.2.1
  obtain ⟨⟨a1, a2, a3, a4, a5, a6, a7⟩, ⟨t1, t2, b1, b2, b3, b4, b5, b6⟩, c1, c2⟩ := id hXI
  have g9 := g.re (md' := [(1, 0), (1, 1), (1, 2), (1, 3), (1, 4), (1, 5), (1, 6), (1, 8), (1, 11), (1, 12), (1, 13), (1, 14), (1, 15), (1, 16), (1, 17), (4, 0), (4, 1), (4, 2), (4, 3), (4, 4), (4, 5), (4, 6), (4, 14), (4, 15), (4, 16), (10, 8)]) (ma' := [100, 101, 102, 116, 117, 126, 127, 130, 131, 146])
  refine g_calli (va_runV (As := []) (rest := []) ⟨hx, hb, hml, hown, hts⟩ (r_X11_run l dC dI L kd tys f H.size g.2.2.2.1 ax hA.1.1 hA.1.2 q1 hA.2.2.2.1.1 hA.2.2.2.1.2 t1 b1.1 b1.2 b6.2.2.2.1 (Fs.cons_ hA.1 (by decide) a2 (Fs.cons_ hA.2.2.2.1 (by decide) b5 Fs.nil))) (cwV 0 hts (gVL_ t_1518 t_1519 t_1520 t_182 t_1521) rfl rfl rfl (by decide +kernel) ⟨(Nat.le_of_ble_eq_true rfl), (Nat.le_of_ble_eq_true rfl)⟩) (pre3V g9 hK hA.1.1 hA.1.2 (by decide) (q := (RX11, TX11, 8)) rfl) rfl rfl hl.1 rfl (lv_room (Nat.le_of_ble_eq_true rfl)) dL_law_479 ⟨by show cells + 0 ≤ 601024; omega, by show slots + 0 ≤ 7293034; omega⟩) g9 hK (by decide) (by decide) (fx' := []) rfl (fun r_1 f H locs hp hM g => ?_)
  have hXI := XI.frx hXI hA hM hW0 (RP.frame hM hW0 hA.2.2.2.1.1 hA.2.2.2.1.2 (by decide) (by decide) c1) (by decide) (by decide)
  have hMI := MI.frx hMI hA.2.1 hM g hW0 (by decide) (by decide)
  have hTI := hTI.fr hA.1 hA.2.1 hM (by decide) (by decide)
  have g := g.re (md' := []) (ma' := [])
  refine lv_pop hx hb dL_law_482 rfl ?_
  refine lv_aload_n hx hb dL_law_483 rfl (lv_at hl 1 rfl) ?_
  have hW0 := g.2.2.2.1
  obtain ⟨n, q, V, δ, hn, hq, hRI⟩ := id hMI
  obtain ⟨r1, r2, r3, r4, r5, r6, r7, r8⟩ := id hRI
  have g9 := g.re (md' := [(14, 30), (14, 31), (14, 32), (14, 33), (14, 34), (14, 35), (14, 36), (14, 37), (14, 38), (14, 39), (14, 40), (14, 45), (14, 53), (14, 55)]) (ma' := [200, 215, 216, 217, 218, 219, 220, 221, 225, 226, 228, 229])
  refine g_calli (va_runV (As := []) (rest := []) ⟨hx, hb, hml, hown, hts⟩ (r_X14_run l dC dI L kd tys f H.size g.2.2.2.1 adK adV am hA.2.1.1 hA.2.1.2 n hn.1 hn.2 V δ r2 r5 r4 r1 r3 (Fs.cons_ hA.2.1 (by decide) r7 Fs.nil)) (cwV 0 hts (gVL_ t_2610 t_2611 t_2612 t_198 t_2613) rfl rfl rfl (by decide +kernel) ⟨(Nat.le_of_ble_eq_true rfl), (Nat.le_of_ble_eq_true rfl)⟩) (pre3VA g9 hK hAm hA.2.1.1 hA.2.1.2 (by decide) (q := (RX14, TX14, 67)) rfl) rfl rfl hl.1 rfl (lv_room (Nat.le_of_ble_eq_true rfl)) dL_law_484 ⟨by show cells + 0 ≤ 601024; omega, by show slots + 0 ≤ 7293034; omega⟩) g9 hK (by decide) (by decide) (fx' := []) rfl (fun r_2 f H locs hp hM g => ?_)
  have hXI := XI.frm hXI hA hM hW0 (by decide) (by decide)
  have hMI : MI L kd f am := ⟨n, q, V, δ, hn, hq, isV.frame hM hW0 hn.1 hn.2 (by decide) (by decide) r1, r2, mOK.frame hM hW0 hn.1 hn.2 (by decide) (by decide) r3, hp.1, hp.2.1, apP.call r6 g hn.1 hn.2 hq.1 hq.2 rfl, (md_fix hM hA.2.1 (by decide) (by decide)).trans r7, (md_fix hM hA.2.1 (by decide) (by decide)).trans r8⟩
  have hTI := hTI.fr hA.1 hA.2.1 hM (by decide) (by decide)
  have g := g.re (md' := []) (ma' := [])
  refine lv_pop hx hb dL_law_487 rfl ?_
  refine lv_goto (tgt := 823) hx hb dL_law_488 (by decide) ?_
  exact kk f H locs _ _ 0 (by omega) rfl rfl g hXI hMI hTI

set_option maxHeartbeats 4000000 in
set_option maxRecDepth 100000 in
theorem law_11 {p : Program} {l : Launch} {e : Env} {s : State} {m : MethodId} {below : List Frame} {meth : Method} {c : Code} {b Ls i : Nat} {xs : Nat → Int32} {dC : Nat → ClassId} {dI : Nat → Nat → Nat} {adK adV : Nat → Nat} {L : List Nat} {kd : Nat → Nat} {tys : List (ClassId × FieldType)} {f : Nat → va_E} {H : Heap} {locs : List Loc} {ls : Array Slot} {cells slots : Nat} {Q : State → Prop} {ax am q0 q1 q4 q5 q6 : Nat} (hx : p.tables.exec = Jvm.exec) (hb : c.code = code) (hml : c.maxLocals = 4) (hown : s.vm.findClass R_law = some m.cls) (hts : ∀ w ∈ lw_tbl, w.before #[Value.ref b] s = true) (hX : va_X b Ls xs s s.heap) (hbl : b < s.heap.size) (hbA : ¬ pA L s.heap.size b) (hK : va_K (dC, dI) vwCl tys s) (hAm : ap_ adK adV (pA L s.heap.size) s s.heap) (hA : LA L kd ax am q0 q1 q4 q5 q6) (hi5 : i + 5 < Ls) (hLs : Ls ≤ 3072) (hcb : cells + 602 ≤ 601024 ∧ slots + 1806 ≤ 7293034) (g : G3 (dC, dI) L kd tys s f [] [] f H locs []) (hXI : XI L kd f ax q0 q1 q4 q5 q6) (hMI : MI L kd f am) (hTI : TI f ax am) (hl : lv_has ls 4 [(3, .int (nI i)), (2, .ref am), (1, .ref ax), (0, .ref b)]) (kk : ∀ (f1 : Nat → va_E) (H1 : Heap) (locs1 : List Loc) (cells1 slots1 k : Nat), k ≤ 601 → cells1 = cells + k → slots1 = slots + 3 * k → G3 (dC, dI) L kd tys s f1 [] [] f1 H1 locs1 [] → XI L kd f1 ax q0 q1 q4 q5 q6 → MI L kd f1 am → TI f1 ax am → W p l e room_1 s m #[Value.ref b] below meth c H1 locs1 cells1 slots1 Q (F0 m 823 ls [])) : W p l e room_1 s m #[Value.ref b] below meth c H locs cells slots Q (F0 m 491 ls []) := by
  refine lv_aload_n hx hb dL_law_491 rfl (lv_at hl 2 rfl) ?_
  refine lv_aload_n hx hb dL_law_492 rfl (lv_at hl 3 rfl) ?_
  refine lv_iload_n hx hb dL_law_493 rfl (lv_at hl 0 rfl) ?_
  refine lv_iconst (v := 1) hx hb dL_law_494 (by decide) ?_
  refine lv_iadd hx hb dL_law_495 ?_
  refine lv_topi (fun y_1 ey_1 => ?_)
  refine va_sld hx hb hX hbl hbA g.2.2.1 (law_in (k := 1) ey_1 rfl rfl (by omega) (by omega)) dL_law_496 ?_
  refine lv_aload_n hx hb dL_law_497 rfl (lv_at hl 3 rfl) ?_
  refine lv_iload_n hx hb dL_law_498 rfl (lv_at hl 0 rfl) ?_
  refine lv_iconst (v := 2) hx hb dL_law_499 (by decide) ?_
  refine lv_iadd hx hb dL_law_500 ?_
  refine lv_topi (fun y_2 ey_2 => ?_)
  refine va_sld hx hb hX hbl hbA g.2.2.1 (law_in (k := 2) ey_2 rfl rfl (by omega) (by omega)) dL_law_501 ?_
  refine lv_aload_n hx hb dL_law_502 rfl (lv_at hl 3 rfl) ?_
  refine lv_iload_n hx hb dL_law_503 rfl (lv_at hl 0 rfl) ?_
  refine lv_iconst (v := 3) hx hb dL_law_504 (by decide) ?_
  refine lv_iadd hx hb dL_law_505 ?_
  refine lv_topi (fun y_3 ey_3 => ?_)
  refine va_sld hx hb hX hbl hbA g.2.2.1 (law_in (k := 3) ey_3 rfl rfl (by omega) (by omega)) dL_law_506 ?_
  have hW0 := g.2.2.2.1
  obtain ⟨⟨a1, a2, a3, a4, a5, a6, a7⟩, ⟨t1, t2, b1, b2, b3, b4, b5, b6⟩, c1, c2⟩ := id hXI
  have g9 := g.re (md' := [(1, 0), (1, 1), (1, 2), (1, 3), (1, 4), (1, 5), (1, 6), (1, 8), (1, 11), (1, 12), (1, 13), (1, 14), (1, 15), (1, 16), (1, 17), (3, 0), (3, 4), (4, 0), (4, 1), (4, 2), (4, 3), (4, 4), (4, 5), (4, 6), (4, 14), (4, 15), (4, 16), (10, 2), (10, 3), (10, 4), (10, 5), (10, 6), (10, 7), (10, 8), (10, 9)]) (ma' := [100, 101, 102, 103, 116, 117, 122, 123, 125, 126, 127, 130, 131, 146])
  refine g_calli (va_runV (As := [.int (xs y_1.toNatClampNeg), .int (xs y_2.toNatClampNeg), .int (xs y_3.toNatClampNeg)]) (rest := []) ⟨hx, hb, hml, hown, hts⟩ (r_X11_draw l dC dI L kd tys f H.size g.2.2.2.1 ax hA.1.1 hA.1.2 (xs y_1.toNatClampNeg) (xs y_2.toNatClampNeg) (xs y_3.toNatClampNeg) q1 hA.2.2.2.1.1 hA.2.2.2.1.2 t1 b1.1 b1.2 c1 b6.2.2.2.1 (Fs.cons_ hA.1 (by decide) a2 (Fs.cons_ hA.2.2.2.1 (by decide) b5 Fs.nil))) (cwV 3 hts (gVL_ t_1666 t_1667 t_1668 t_182 t_1669) rfl rfl rfl (by decide +kernel) ⟨(Nat.le_of_ble_eq_true rfl), (Nat.le_of_ble_eq_true rfl)⟩) (pre3V g9 hK hA.1.1 hA.1.2 (by decide) (q := (RX11, TX11, 8)) rfl) rfl rfl hl.1 rfl (lv_room (Nat.le_of_ble_eq_true rfl)) dL_law_507 ⟨by show cells + 0 ≤ 601024; omega, by show slots + 0 ≤ 7293034; omega⟩) g9 hK (by decide) (by decide) (fx' := []) rfl (fun r_4 f H locs hp hM g => ?_)
  have hXI := XI.frx hXI hA hM hW0 hp.1 (by decide) (by decide)
  have hMI := MI.frx hMI hA.2.1 hM g hW0 (by decide) (by decide)
  have hTI := hTI.fr hA.1 hA.2.1 hM (by decide) (by decide)
  have g := g.re (md' := []) (ma' := [])
  refine lv_pop hx hb dL_law_510 rfl ?_
  refine lv_aload_n hx hb dL_law_511 rfl (lv_at hl 1 rfl) ?_
  refine lv_aload_n hx hb dL_law_512 rfl (lv_at hl 3 rfl) ?_
  refine lv_iload_n hx hb dL_law_513 rfl (lv_at hl 0 rfl) ?_
  refine lv_iconst (v := 1) hx hb dL_law_514 (by decide) ?_
  refine lv_iadd hx hb dL_law_515 ?_
  refine lv_topi (fun y_5 ey_5 => ?_)
  refine va_sld hx hb hX hbl hbA g.2.2.1 (law_in (k := 1) ey_5 rfl rfl (by omega) (by omega)) dL_law_516 ?_
  refine lv_aload_n hx hb dL_law_517 rfl (lv_at hl 3 rfl) ?_
  refine lv_iload_n hx hb dL_law_518 rfl (lv_at hl 0 rfl) ?_
  refine lv_iconst (v := 2) hx hb dL_law_519 (by decide) ?_
  refine lv_iadd hx hb dL_law_520 ?_
  refine lv_topi (fun y_6 ey_6 => ?_)
  refine va_sld hx hb hX hbl hbA g.2.2.1 (law_in (k := 2) ey_6 rfl rfl (by omega) (by omega)) dL_law_521 ?_
  refine lv_aload_n hx hb dL_law_522 rfl (lv_at hl 3 rfl) ?_
  refine lv_iload_n hx hb dL_law_523 rfl (lv_at hl 0 rfl) ?_
  refine lv_iconst (v := 3) hx hb dL_law_524 (by decide) ?_
  refine lv_iadd hx hb dL_law_525 ?_
  refine lv_topi (fun y_7 ey_7 => ?_)
  refine va_sld hx hb hX hbl hbA g.2.2.1 (law_in (k := 3) ey_7 rfl rfl (by omega) (by omega)) dL_law_526 ?_
  have hW0 := g.2.2.2.1
  obtain ⟨n, q, V, δ, hn, hq, hRI⟩ := id hMI
  obtain ⟨r1, r2, r3, r4, r5, r6, r7, r8⟩ := id hRI
  have g9 := g.re (md' := [(14, 30), (14, 31), (14, 32), (14, 33), (14, 34), (14, 35), (14, 36), (14, 37), (14, 38), (14, 39), (14, 40), (14, 45), (14, 51), (14, 52), (14, 53), (14, 55), (14, 58), (14, 59), (14, 60)]) (ma' := [200, 215, 216, 217, 218, 219, 220, 221, 222, 223, 224, 225, 226, 227, 228, 229])
  refine g_calli (va_runV (As := [.int (xs y_5.toNatClampNeg), .int (xs y_6.toNatClampNeg), .int (xs y_7.toNatClampNeg)]) (rest := []) ⟨hx, hb, hml, hown, hts⟩ (r_X14_draw l dC dI L kd tys f H.size g.2.2.2.1 adK adV am hA.2.1.1 hA.2.1.2 (xs y_5.toNatClampNeg) (xs y_6.toNatClampNeg) (xs y_7.toNatClampNeg) n hn.1 hn.2 V δ r2 r5 r4 r1 r3 (Fs.cons_ hA.2.1 (by decide) r7 Fs.nil)) (cwV 3 hts (gVL_ t_2724 t_2725 t_2726 t_198 t_2727) rfl rfl rfl (by decide +kernel) ⟨(Nat.le_of_ble_eq_true rfl), (Nat.le_of_ble_eq_true rfl)⟩) (pre3VA g9 hK hAm hA.2.1.1 hA.2.1.2 (by decide) (q := (RX14, TX14, 67)) rfl) rfl rfl hl.1 rfl (lv_room (Nat.le_of_ble_eq_true rfl)) dL_law_527 ⟨by show cells + 0 ≤ 601024; omega, by show slots + 0 ≤ 7293034; omega⟩) g9 hK (by decide) (by decide) (fx' := []) rfl (fun r_8 f H locs hp hM g => ?_)
  have hXI := XI.frm hXI hA hM hW0 (by decide) (by decide)
  have hMI : MI L kd f am := ⟨n, q, V, δ, hn, hq, isV.frame hM hW0 hn.1 hn.2 (by decide) (by decide) r1, r2, mOK.frame hM hW0 hn.1 hn.2 (by decide) (by decide) r3, hp.1, hp.2.1, apP.call r6 g hn.1 hn.2 hq.1 hq.2 rfl, (md_fix hM hA.2.1 (by decide) (by decide)).trans r7, (md_fix hM hA.2.1 (by decide) (by decide)).trans r8⟩
  have hTI := hTI.fr hA.1 hA.2.1 hM (by decide) (by decide)
  have g := g.re (md' := []) (ma' := [])
  refine lv_pop hx hb dL_law_530 rfl ?_
  refine lv_goto (tgt := 823) hx hb dL_law_531 (by decide) ?_
  exact kk f H locs _ _ 0 (by omega) rfl rfl g hXI hMI hTI

set_option maxHeartbeats 4000000 in
set_option maxRecDepth 100000 in
theorem law_12 {p : Program} {l : Launch} {e : Env} {s : State} {m : MethodId} {below : List Frame} {meth : Method} {c : Code} {b Ls i : Nat} {xs : Nat → Int32} {dC : Nat → ClassId} {dI : Nat → Nat → Nat} {adK adV : Nat → Nat} {L : List Nat} {kd : Nat → Nat} {tys : List (ClassId × FieldType)} {f : Nat → va_E} {H : Heap} {locs : List Loc} {ls : Array Slot} {cells slots : Nat} {Q : State → Prop} {ax am q0 q1 q4 q5 q6 : Nat} (hx : p.tables.exec = Jvm.exec) (hb : c.code = code) (hml : c.maxLocals = 4) (hown : s.vm.findClass R_law = some m.cls) (hts : ∀ w ∈ lw_tbl, w.before #[Value.ref b] s = true) (hX : va_X b Ls xs s s.heap) (hbl : b < s.heap.size) (hbA : ¬ pA L s.heap.size b) (hK : va_K (dC, dI) vwCl tys s) (hAm : ap_ adK adV (pA L s.heap.size) s s.heap) (hA : LA L kd ax am q0 q1 q4 q5 q6) (hi5 : i + 5 < Ls) (hLs : Ls ≤ 3072) (hcb : cells + 602 ≤ 601024 ∧ slots + 1806 ≤ 7293034) (g : G3 (dC, dI) L kd tys s f [] [] f H locs []) (hXI : XI L kd f ax q0 q1 q4 q5 q6) (hMI : MI L kd f am) (hTI : TI f ax am) (hl : lv_has ls 4 [(3, .int (nI i)), (2, .ref am), (1, .ref ax), (0, .ref b)]) (kk : ∀ (f1 : Nat → va_E) (H1 : Heap) (locs1 : List Loc) (cells1 slots1 k : Nat), k ≤ 601 → cells1 = cells + k → slots1 = slots + 3 * k → G3 (dC, dI) L kd tys s f1 [] [] f1 H1 locs1 [] → XI L kd f1 ax q0 q1 q4 q5 q6 → MI L kd f1 am → TI f1 ax am → W p l e room_1 s m #[Value.ref b] below meth c H1 locs1 cells1 slots1 Q (F0 m 823 ls [])) : W p l e room_1 s m #[Value.ref b] below meth c H locs cells slots Q (F0 m 534 ls []) := by
  refine lv_aload_n hx hb dL_law_534 rfl (lv_at hl 2 rfl) ?_
  refine lv_aload_n hx hb dL_law_535 rfl (lv_at hl 3 rfl) ?_
  refine lv_iload_n hx hb dL_law_536 rfl (lv_at hl 0 rfl) ?_
  refine lv_iconst (v := 1) hx hb dL_law_537 (by decide) ?_
  refine lv_iadd hx hb dL_law_538 ?_
  refine lv_topi (fun y_1 ey_1 => ?_)
  refine va_sld hx hb hX hbl hbA g.2.2.1 (law_in (k := 1) ey_1 rfl rfl (by omega) (by omega)) dL_law_539 ?_
  refine lv_aload_n hx hb dL_law_540 rfl (lv_at hl 3 rfl) ?_
  refine lv_iload_n hx hb dL_law_541 rfl (lv_at hl 0 rfl) ?_
  refine lv_iconst (v := 2) hx hb dL_law_542 (by decide) ?_
  refine lv_iadd hx hb dL_law_543 ?_
  refine lv_topi (fun y_2 ey_2 => ?_)
  refine va_sld hx hb hX hbl hbA g.2.2.1 (law_in (k := 2) ey_2 rfl rfl (by omega) (by omega)) dL_law_544 ?_
  have hW0 := g.2.2.2.1
  obtain ⟨⟨a1, a2, a3, a4, a5, a6, a7⟩, ⟨t1, t2, b1, b2, b3, b4, b5, b6⟩, c1, c2⟩ := id hXI
  have g9 := g.re (md' := [(1, 0), (1, 1), (1, 2), (1, 3), (1, 4), (1, 5), (1, 6), (1, 8), (1, 11), (1, 12), (1, 13), (1, 14), (1, 15), (1, 16), (1, 17), (3, 0), (3, 4), (4, 0), (4, 1), (4, 2), (4, 3), (4, 4), (4, 5), (4, 6), (4, 14), (4, 15), (4, 16), (10, 2), (10, 3), (10, 4), (10, 5), (10, 6), (10, 7), (10, 8)]) (ma' := [100, 101, 102, 103, 116, 117, 122, 123, 125, 126, 127, 130, 131, 146])
  refine g_calli (va_runV (As := [.int (xs y_1.toNatClampNeg), .int (xs y_2.toNatClampNeg)]) (rest := []) ⟨hx, hb, hml, hown, hts⟩ (r_X11_all l dC dI L kd tys f H.size g.2.2.2.1 ax hA.1.1 hA.1.2 (xs y_1.toNatClampNeg) (xs y_2.toNatClampNeg) q1 hA.2.2.2.1.1 hA.2.2.2.1.2 t1 b1.1 b1.2 c1 b6.2.2.2.1 (Fs.cons_ hA.1 (by decide) a2 (Fs.cons_ hA.2.2.2.1 (by decide) b5 Fs.nil))) (cwV 2 hts (gVL_ t_1707 t_1708 t_1709 t_182 t_1710) rfl rfl rfl (by decide +kernel) ⟨(Nat.le_of_ble_eq_true rfl), (Nat.le_of_ble_eq_true rfl)⟩) (pre3V g9 hK hA.1.1 hA.1.2 (by decide) (q := (RX11, TX11, 8)) rfl) rfl rfl hl.1 rfl (lv_room (Nat.le_of_ble_eq_true rfl)) dL_law_545 ⟨by show cells + 0 ≤ 601024; omega, by show slots + 0 ≤ 7293034; omega⟩) g9 hK (by decide) (by decide) (fx' := []) rfl (fun r_3 f H locs hp hM g => ?_)
  have hXI := XI.frx hXI hA hM hW0 hp.1 (by decide) (by decide)
  have hMI := MI.frx hMI hA.2.1 hM g hW0 (by decide) (by decide)
  have hTI := hTI.fr hA.1 hA.2.1 hM (by decide) (by decide)
  have g := g.re (md' := []) (ma' := [])
  refine lv_pop hx hb dL_law_548 rfl ?_
  refine lv_aload_n hx hb dL_law_549 rfl (lv_at hl 1 rfl) ?_
  refine lv_aload_n hx hb dL_law_550 rfl (lv_at hl 3 rfl) ?_
  refine lv_iload_n hx hb dL_law_551 rfl (lv_at hl 0 rfl) ?_
  refine lv_iconst (v := 1) hx hb dL_law_552 (by decide) ?_
  refine lv_iadd hx hb dL_law_553 ?_
  refine lv_topi (fun y_4 ey_4 => ?_)
  refine va_sld hx hb hX hbl hbA g.2.2.1 (law_in (k := 1) ey_4 rfl rfl (by omega) (by omega)) dL_law_554 ?_
  refine lv_aload_n hx hb dL_law_555 rfl (lv_at hl 3 rfl) ?_
  refine lv_iload_n hx hb dL_law_556 rfl (lv_at hl 0 rfl) ?_
  refine lv_iconst (v := 2) hx hb dL_law_557 (by decide) ?_
  refine lv_iadd hx hb dL_law_558 ?_
  refine lv_topi (fun y_5 ey_5 => ?_)
  refine va_sld hx hb hX hbl hbA g.2.2.1 (law_in (k := 2) ey_5 rfl rfl (by omega) (by omega)) dL_law_559 ?_
  have hW0 := g.2.2.2.1
  obtain ⟨n, q, V, δ, hn, hq, hRI⟩ := id hMI
  obtain ⟨r1, r2, r3, r4, r5, r6, r7, r8⟩ := id hRI
  have g9 := g.re (md' := [(14, 30), (14, 31), (14, 32), (14, 33), (14, 34), (14, 35), (14, 36), (14, 37), (14, 38), (14, 39), (14, 40), (14, 45), (14, 51), (14, 52), (14, 53), (14, 55), (14, 58), (14, 59), (14, 61), (14, 65), (14, 66)]) (ma' := [200, 215, 216, 217, 218, 219, 220, 221, 222, 223, 224, 225, 226, 227, 228, 229, 230, 231, 232])
  refine g_calli (va_runV (As := [.int (xs y_4.toNatClampNeg), .int (xs y_5.toNatClampNeg)]) (rest := []) ⟨hx, hb, hml, hown, hts⟩ (r_X14_all l dC dI L kd tys f H.size g.2.2.2.1 adK adV am hA.2.1.1 hA.2.1.2 (xs y_4.toNatClampNeg) (xs y_5.toNatClampNeg) n hn.1 hn.2 V δ r2 r5 r4 r1 r3 (Fs.cons_ hA.2.1 (by decide) r7 Fs.nil)) (cwV 2 hts (gVL_ t_2747 t_2748 t_2749 t_198 t_2750) rfl rfl rfl (by decide +kernel) ⟨(Nat.le_of_ble_eq_true rfl), (Nat.le_of_ble_eq_true rfl)⟩) (pre3VA g9 hK hAm hA.2.1.1 hA.2.1.2 (by decide) (q := (RX14, TX14, 67)) rfl) rfl rfl hl.1 rfl (lv_room (Nat.le_of_ble_eq_true rfl)) dL_law_560 ⟨by show cells + 0 ≤ 601024; omega, by show slots + 0 ≤ 7293034; omega⟩) g9 hK (by decide) (by decide) (fx' := []) rfl (fun r_6 f H locs hp hM g => ?_)
  have hXI := XI.frm hXI hA hM hW0 (by decide) (by decide)
  have hMI : MI L kd f am := ⟨n, q, V, δ, hn, hq, isV.frame hM hW0 hn.1 hn.2 (by decide) (by decide) r1, r2, mOK.frame hM hW0 hn.1 hn.2 (by decide) (by decide) r3, hp.1, hp.2.1, apP.call r6 g hn.1 hn.2 hq.1 hq.2 rfl, (md_fix hM hA.2.1 (by decide) (by decide)).trans r7, (md_fix hM hA.2.1 (by decide) (by decide)).trans r8⟩
  have hTI := hTI.fr hA.1 hA.2.1 hM (by decide) (by decide)
  have g := g.re (md' := []) (ma' := [])
  refine lv_pop hx hb dL_law_563 rfl ?_
  refine lv_goto (tgt := 823) hx hb dL_law_564 (by decide) ?_
  exact kk f H locs _ _ 0 (by omega) rfl rfl g hXI hMI hTI

set_option maxHeartbeats 4000000 in
set_option maxRecDepth 100000 in
theorem law_13 {p : Program} {l : Launch} {e : Env} {s : State} {m : MethodId} {below : List Frame} {meth : Method} {c : Code} {b Ls i : Nat} {xs : Nat → Int32} {dC : Nat → ClassId} {dI : Nat → Nat → Nat} {adK adV : Nat → Nat} {L : List Nat} {kd : Nat → Nat} {tys : List (ClassId × FieldType)} {f : Nat → va_E} {H : Heap} {locs : List Loc} {ls : Array Slot} {cells slots : Nat} {Q : State → Prop} {ax am q0 q1 q4 q5 q6 : Nat} (hx : p.tables.exec = Jvm.exec) (hb : c.code = code) (hml : c.maxLocals = 4) (hown : s.vm.findClass R_law = some m.cls) (hts : ∀ w ∈ lw_tbl, w.before #[Value.ref b] s = true) (hX : va_X b Ls xs s s.heap) (hbl : b < s.heap.size) (hbA : ¬ pA L s.heap.size b) (hK : va_K (dC, dI) vwCl tys s) (hAm : ap_ adK adV (pA L s.heap.size) s s.heap) (hA : LA L kd ax am q0 q1 q4 q5 q6) (hi5 : i + 5 < Ls) (hLs : Ls ≤ 3072) (hcb : cells + 602 ≤ 601024 ∧ slots + 1806 ≤ 7293034) (g : G3 (dC, dI) L kd tys s f [] [] f H locs []) (hXI : XI L kd f ax q0 q1 q4 q5 q6) (hMI : MI L kd f am) (hTI : TI f ax am) (hl : lv_has ls 4 [(3, .int (nI i)), (2, .ref am), (1, .ref ax), (0, .ref b)]) (kk : ∀ (f1 : Nat → va_E) (H1 : Heap) (locs1 : List Loc) (cells1 slots1 k : Nat), k ≤ 601 → cells1 = cells + k → slots1 = slots + 3 * k → G3 (dC, dI) L kd tys s f1 [] [] f1 H1 locs1 [] → XI L kd f1 ax q0 q1 q4 q5 q6 → MI L kd f1 am → TI f1 ax am → W p l e room_1 s m #[Value.ref b] below meth c H1 locs1 cells1 slots1 Q (F0 m 823 ls [])) : W p l e room_1 s m #[Value.ref b] below meth c H locs cells slots Q (F0 m 567 ls []) := by
  refine lv_aload_n hx hb dL_law_567 rfl (lv_at hl 2 rfl) ?_
  have hW0 := g.2.2.2.1
  obtain ⟨⟨a1, a2, a3, a4, a5, a6, a7⟩, ⟨t1, t2, b1, b2, b3, b4, b5, b6⟩, c1, c2⟩ := id hXI
  have g9 := g.re (md' := []) (ma' := [])
  refine g_calli (va_runV (As := []) (rest := []) ⟨hx, hb, hml, hown, hts⟩ (r_X11_tried l dC dI L kd tys f H.size g.2.2.2.1 ax hA.1.1 hA.1.2) (cwV 0 hts (gVL_ t_1750 t_1751 t_1752 t_182 t_1753) rfl rfl rfl (by decide +kernel) ⟨(Nat.le_of_ble_eq_true rfl), (Nat.le_of_ble_eq_true rfl)⟩) (pre3V g9 hK hA.1.1 hA.1.2 (by decide) (q := (RX11, TX11, 8)) rfl) rfl rfl hl.1 rfl (lv_room (Nat.le_of_ble_eq_true rfl)) dL_law_568 ⟨by show cells + 0 ≤ 601024; omega, by show slots + 0 ≤ 7293034; omega⟩) g9 hK (by decide) (by decide) (fx' := []) rfl (fun r_1 f H locs hp hM g => ?_)
  have hXI := XI.frx hXI hA hM hW0 (RP.frame hM hW0 hA.2.2.2.1.1 hA.2.2.2.1.2 (by decide) (by decide) c1) (by decide) (by decide)
  have hMI := MI.frx hMI hA.2.1 hM g hW0 (by decide) (by decide)
  have hTI := hTI.fr hA.1 hA.2.1 hM (by decide) (by decide)
  have g := g.re (md' := []) (ma' := [])
  refine lv_pop hx hb dL_law_571 rfl ?_
  refine lv_aload_n hx hb dL_law_572 rfl (lv_at hl 1 rfl) ?_
  have hW0 := g.2.2.2.1
  obtain ⟨n, q, V, δ, hn, hq, hRI⟩ := id hMI
  obtain ⟨r1, r2, r3, r4, r5, r6, r7, r8⟩ := id hRI
  have g9 := g.re (md' := []) (ma' := [])
  refine g_calli (va_runV (As := []) (rest := []) ⟨hx, hb, hml, hown, hts⟩ (r_X14_tried l dC dI L kd tys f H.size g.2.2.2.1 am hA.2.1.1 hA.2.1.2) (cwV 0 hts (gVL_ t_2776 t_2777 t_2778 t_198 t_2779) rfl rfl rfl (by decide +kernel) ⟨(Nat.le_of_ble_eq_true rfl), (Nat.le_of_ble_eq_true rfl)⟩) (pre3V g9 hK hA.2.1.1 hA.2.1.2 (by decide) (q := (RX14, TX14, 67)) rfl) rfl rfl hl.1 rfl (lv_room (Nat.le_of_ble_eq_true rfl)) dL_law_573 ⟨by show cells + 0 ≤ 601024; omega, by show slots + 0 ≤ 7293034; omega⟩) g9 hK (by decide) (by decide) (fx' := []) rfl (fun r_2 f H locs hp hM g => ?_)
  have hXI := XI.frm hXI hA hM hW0 (by decide) (by decide)
  have hMI : MI L kd f am := ⟨n, q, V, δ, hn, hq, isV.frame hM hW0 hn.1 hn.2 (by decide) (by decide) r1, r2, mOK.frame hM hW0 hn.1 hn.2 (by decide) (by decide) r3, rOK.frame hM hW0 hA.2.1.1 hA.2.1.2 (by decide) (by decide) r4, oOK.frame hM hW0 hA.2.1.1 hA.2.1.2 (by decide) (by decide) r5, apP.call r6 g hn.1 hn.2 hq.1 hq.2 rfl, (md_fix hM hA.2.1 (by decide) (by decide)).trans r7, (md_fix hM hA.2.1 (by decide) (by decide)).trans r8⟩
  have hTI := hTI.fr hA.1 hA.2.1 hM (by decide) (by decide)
  have g := g.re (md' := []) (ma' := [])
  refine lv_pop hx hb dL_law_576 rfl ?_
  refine lv_goto (tgt := 823) hx hb dL_law_577 (by decide) ?_
  exact kk f H locs _ _ 0 (by omega) rfl rfl g hXI hMI hTI

set_option maxHeartbeats 4000000 in
set_option maxRecDepth 100000 in
theorem law_14 {p : Program} {l : Launch} {e : Env} {s : State} {m : MethodId} {below : List Frame} {meth : Method} {c : Code} {b Ls i : Nat} {xs : Nat → Int32} {dC : Nat → ClassId} {dI : Nat → Nat → Nat} {adK adV : Nat → Nat} {L : List Nat} {kd : Nat → Nat} {tys : List (ClassId × FieldType)} {f : Nat → va_E} {H : Heap} {locs : List Loc} {ls : Array Slot} {cells slots : Nat} {Q : State → Prop} {ax am q0 q1 q4 q5 q6 : Nat} (hx : p.tables.exec = Jvm.exec) (hb : c.code = code) (hml : c.maxLocals = 4) (hown : s.vm.findClass R_law = some m.cls) (hts : ∀ w ∈ lw_tbl, w.before #[Value.ref b] s = true) (hX : va_X b Ls xs s s.heap) (hbl : b < s.heap.size) (hbA : ¬ pA L s.heap.size b) (hK : va_K (dC, dI) vwCl tys s) (hAm : ap_ adK adV (pA L s.heap.size) s s.heap) (hA : LA L kd ax am q0 q1 q4 q5 q6) (hi5 : i + 5 < Ls) (hLs : Ls ≤ 3072) (hcb : cells + 602 ≤ 601024 ∧ slots + 1806 ≤ 7293034) (g : G3 (dC, dI) L kd tys s f [] [] f H locs []) (hXI : XI L kd f ax q0 q1 q4 q5 q6) (hMI : MI L kd f am) (hTI : TI f ax am) (hl : lv_has ls 4 [(3, .int (nI i)), (2, .ref am), (1, .ref ax), (0, .ref b)]) (kk : ∀ (f1 : Nat → va_E) (H1 : Heap) (locs1 : List Loc) (cells1 slots1 k : Nat), k ≤ 601 → cells1 = cells + k → slots1 = slots + 3 * k → G3 (dC, dI) L kd tys s f1 [] [] f1 H1 locs1 [] → XI L kd f1 ax q0 q1 q4 q5 q6 → MI L kd f1 am → TI f1 ax am → W p l e room_1 s m #[Value.ref b] below meth c H1 locs1 cells1 slots1 Q (F0 m 823 ls [])) : W p l e room_1 s m #[Value.ref b] below meth c H locs cells slots Q (F0 m 580 ls []) := by
  refine lv_aload_n hx hb dL_law_580 rfl (lv_at hl 2 rfl) ?_
  have hW0 := g.2.2.2.1
  obtain ⟨⟨a1, a2, a3, a4, a5, a6, a7⟩, ⟨t1, t2, b1, b2, b3, b4, b5, b6⟩, c1, c2⟩ := id hXI
  have g9 := g.re (md' := []) (ma' := [])
  refine g_calli (va_runV (As := []) (rest := []) ⟨hx, hb, hml, hown, hts⟩ (r_X11_cut l dC dI L kd tys f H.size g.2.2.2.1 ax hA.1.1 hA.1.2) (cwV 0 hts (gVL_ t_1754 t_1755 t_1756 t_182 t_1757) rfl rfl rfl (by decide +kernel) ⟨(Nat.le_of_ble_eq_true rfl), (Nat.le_of_ble_eq_true rfl)⟩) (pre3V g9 hK hA.1.1 hA.1.2 (by decide) (q := (RX11, TX11, 8)) rfl) rfl rfl hl.1 rfl (lv_room (Nat.le_of_ble_eq_true rfl)) dL_law_581 ⟨by show cells + 0 ≤ 601024; omega, by show slots + 0 ≤ 7293034; omega⟩) g9 hK (by decide) (by decide) (fx' := []) rfl (fun r_1 f H locs hp hM g => ?_)
  have hXI := XI.frx hXI hA hM hW0 (RP.frame hM hW0 hA.2.2.2.1.1 hA.2.2.2.1.2 (by decide) (by decide) c1) (by decide) (by decide)
  have hMI := MI.frx hMI hA.2.1 hM g hW0 (by decide) (by decide)
  have hTI := hTI.fr hA.1 hA.2.1 hM (by decide) (by decide)
  have g := g.re (md' := []) (ma' := [])
  refine lv_pop hx hb dL_law_584 rfl ?_
  refine lv_aload_n hx hb dL_law_585 rfl (lv_at hl 1 rfl) ?_
  have hW0 := g.2.2.2.1
  obtain ⟨n, q, V, δ, hn, hq, hRI⟩ := id hMI
  obtain ⟨r1, r2, r3, r4, r5, r6, r7, r8⟩ := id hRI
  have g9 := g.re (md' := []) (ma' := [])
  refine g_calli (va_runV (As := []) (rest := []) ⟨hx, hb, hml, hown, hts⟩ (r_X14_cut l dC dI L kd tys f H.size g.2.2.2.1 am hA.2.1.1 hA.2.1.2) (cwV 0 hts (gVL_ t_2780 t_2781 t_2782 t_198 t_2783) rfl rfl rfl (by decide +kernel) ⟨(Nat.le_of_ble_eq_true rfl), (Nat.le_of_ble_eq_true rfl)⟩) (pre3V g9 hK hA.2.1.1 hA.2.1.2 (by decide) (q := (RX14, TX14, 67)) rfl) rfl rfl hl.1 rfl (lv_room (Nat.le_of_ble_eq_true rfl)) dL_law_586 ⟨by show cells + 0 ≤ 601024; omega, by show slots + 0 ≤ 7293034; omega⟩) g9 hK (by decide) (by decide) (fx' := []) rfl (fun r_2 f H locs hp hM g => ?_)
  have hXI := XI.frm hXI hA hM hW0 (by decide) (by decide)
  have hMI : MI L kd f am := ⟨n, q, V, δ, hn, hq, isV.frame hM hW0 hn.1 hn.2 (by decide) (by decide) r1, r2, mOK.frame hM hW0 hn.1 hn.2 (by decide) (by decide) r3, rOK.frame hM hW0 hA.2.1.1 hA.2.1.2 (by decide) (by decide) r4, oOK.frame hM hW0 hA.2.1.1 hA.2.1.2 (by decide) (by decide) r5, apP.call r6 g hn.1 hn.2 hq.1 hq.2 rfl, (md_fix hM hA.2.1 (by decide) (by decide)).trans r7, (md_fix hM hA.2.1 (by decide) (by decide)).trans r8⟩
  have hTI := hTI.fr hA.1 hA.2.1 hM (by decide) (by decide)
  have g := g.re (md' := []) (ma' := [])
  refine lv_pop hx hb dL_law_589 rfl ?_
  refine lv_goto (tgt := 823) hx hb dL_law_590 (by decide) ?_
  exact kk f H locs _ _ 0 (by omega) rfl rfl g hXI hMI hTI

set_option maxHeartbeats 4000000 in
set_option maxRecDepth 100000 in
theorem law_15 {p : Program} {l : Launch} {e : Env} {s : State} {m : MethodId} {below : List Frame} {meth : Method} {c : Code} {b Ls i : Nat} {xs : Nat → Int32} {dC : Nat → ClassId} {dI : Nat → Nat → Nat} {adK adV : Nat → Nat} {L : List Nat} {kd : Nat → Nat} {tys : List (ClassId × FieldType)} {f : Nat → va_E} {H : Heap} {locs : List Loc} {ls : Array Slot} {cells slots : Nat} {Q : State → Prop} {ax am q0 q1 q4 q5 q6 : Nat} (hx : p.tables.exec = Jvm.exec) (hb : c.code = code) (hml : c.maxLocals = 4) (hown : s.vm.findClass R_law = some m.cls) (hts : ∀ w ∈ lw_tbl, w.before #[Value.ref b] s = true) (hX : va_X b Ls xs s s.heap) (hbl : b < s.heap.size) (hbA : ¬ pA L s.heap.size b) (hK : va_K (dC, dI) vwCl tys s) (hAm : ap_ adK adV (pA L s.heap.size) s s.heap) (hA : LA L kd ax am q0 q1 q4 q5 q6) (hi5 : i + 5 < Ls) (hLs : Ls ≤ 3072) (hcb : cells + 602 ≤ 601024 ∧ slots + 1806 ≤ 7293034) (g : G3 (dC, dI) L kd tys s f [] [] f H locs []) (hXI : XI L kd f ax q0 q1 q4 q5 q6) (hMI : MI L kd f am) (hTI : TI f ax am) (hl : lv_has ls 4 [(3, .int (nI i)), (2, .ref am), (1, .ref ax), (0, .ref b)]) (kk : ∀ (f1 : Nat → va_E) (H1 : Heap) (locs1 : List Loc) (cells1 slots1 k : Nat), k ≤ 601 → cells1 = cells + k → slots1 = slots + 3 * k → G3 (dC, dI) L kd tys s f1 [] [] f1 H1 locs1 [] → XI L kd f1 ax q0 q1 q4 q5 q6 → MI L kd f1 am → TI f1 ax am → W p l e room_1 s m #[Value.ref b] below meth c H1 locs1 cells1 slots1 Q (F0 m 823 ls [])) : W p l e room_1 s m #[Value.ref b] below meth c H locs cells slots Q (F0 m 593 ls []) := by
  refine lv_aload_n hx hb dL_law_593 rfl (lv_at hl 2 rfl) ?_
  have hW0 := g.2.2.2.1
  obtain ⟨⟨a1, a2, a3, a4, a5, a6, a7⟩, ⟨t1, t2, b1, b2, b3, b4, b5, b6⟩, c1, c2⟩ := id hXI
  have g9 := g.re (md' := [(1, 0), (1, 1), (1, 2), (1, 3), (1, 4), (1, 5), (1, 6), (1, 8), (1, 11), (1, 12), (1, 13), (1, 14), (1, 15), (1, 16), (1, 17), (3, 0), (3, 4), (4, 0), (4, 1), (4, 2), (4, 3), (4, 4), (4, 5), (4, 6), (4, 14), (4, 15), (4, 16), (10, 2), (10, 3), (10, 4), (10, 5), (10, 8)]) (ma' := [100, 101, 102, 103, 116, 117, 122, 123, 125, 126, 127, 130, 131, 146])
  refine g_calli (va_runV (As := []) (rest := []) ⟨hx, hb, hml, hown, hts⟩ (r_X11_shrink l dC dI L kd tys f H.size g.2.2.2.1 ax hA.1.1 hA.1.2 q1 hA.2.2.2.1.1 hA.2.2.2.1.2 t1 b1.1 b1.2 c1 b6.2.2.2.1 (Fs.cons_ hA.1 (by decide) a2 (Fs.cons_ hA.2.2.2.1 (by decide) b5 Fs.nil))) (cwV 0 hts (gVL_ t_1758 t_1759 t_1760 t_182 t_1761) rfl rfl rfl (by decide +kernel) ⟨(Nat.le_of_ble_eq_true rfl), (Nat.le_of_ble_eq_true rfl)⟩) (pre3V g9 hK hA.1.1 hA.1.2 (by decide) (q := (RX11, TX11, 8)) rfl) rfl rfl hl.1 rfl (lv_room (Nat.le_of_ble_eq_true rfl)) dL_law_594 ⟨by show cells + 0 ≤ 601024; omega, by show slots + 0 ≤ 7293034; omega⟩) g9 hK (by decide) (by decide) (fx' := []) rfl (fun r_1 f H locs hp hM g => ?_)
  have hXI := XI.frx hXI hA hM hW0 hp.1 (by decide) (by decide)
  have hMI := MI.frx hMI hA.2.1 hM g hW0 (by decide) (by decide)
  have hTI := hTI.fr hA.1 hA.2.1 hM (by decide) (by decide)
  have g := g.re (md' := []) (ma' := [])
  refine lv_pop hx hb dL_law_597 rfl ?_
  refine lv_aload_n hx hb dL_law_598 rfl (lv_at hl 1 rfl) ?_
  have hW0 := g.2.2.2.1
  obtain ⟨n, q, V, δ, hn, hq, hRI⟩ := id hMI
  obtain ⟨r1, r2, r3, r4, r5, r6, r7, r8⟩ := id hRI
  have g9 := g.re (md' := [(14, 30), (14, 31), (14, 32), (14, 33), (14, 34), (14, 35), (14, 36), (14, 37), (14, 38), (14, 39), (14, 40), (14, 45), (14, 51), (14, 52), (14, 53), (14, 55), (14, 65), (14, 66)]) (ma' := [200, 215, 216, 217, 218, 219, 220, 221, 222, 223, 224, 225, 226, 227, 228, 229, 230, 231, 232])
  refine g_calli (va_runV (As := []) (rest := []) ⟨hx, hb, hml, hown, hts⟩ (r_X14_shrink l dC dI L kd tys f H.size g.2.2.2.1 adK adV am hA.2.1.1 hA.2.1.2 n hn.1 hn.2 V δ r2 r5 r4 r1 r3 (Fs.cons_ hA.2.1 (by decide) r7 Fs.nil)) (cwV 0 hts (gVL_ t_2784 t_2785 t_2786 t_198 t_2787) rfl rfl rfl (by decide +kernel) ⟨(Nat.le_of_ble_eq_true rfl), (Nat.le_of_ble_eq_true rfl)⟩) (pre3VA g9 hK hAm hA.2.1.1 hA.2.1.2 (by decide) (q := (RX14, TX14, 67)) rfl) rfl rfl hl.1 rfl (lv_room (Nat.le_of_ble_eq_true rfl)) dL_law_599 ⟨by show cells + 0 ≤ 601024; omega, by show slots + 0 ≤ 7293034; omega⟩) g9 hK (by decide) (by decide) (fx' := []) rfl (fun r_2 f H locs hp hM g => ?_)
  have hXI := XI.frm hXI hA hM hW0 (by decide) (by decide)
  have hMI : MI L kd f am := ⟨n, q, V, δ, hn, hq, isV.frame hM hW0 hn.1 hn.2 (by decide) (by decide) r1, r2, mOK.frame hM hW0 hn.1 hn.2 (by decide) (by decide) r3, hp.1, hp.2.1, apP.call r6 g hn.1 hn.2 hq.1 hq.2 rfl, (md_fix hM hA.2.1 (by decide) (by decide)).trans r7, (md_fix hM hA.2.1 (by decide) (by decide)).trans r8⟩
  have hTI := hTI.fr hA.1 hA.2.1 hM (by decide) (by decide)
  have g := g.re (md' := []) (ma' := [])
  refine lv_pop hx hb dL_law_602 rfl ?_
  refine lv_goto (tgt := 823) hx hb dL_law_603 (by decide) ?_
  exact kk f H locs _ _ 0 (by omega) rfl rfl g hXI hMI hTI

set_option maxHeartbeats 4000000 in
set_option maxRecDepth 100000 in
theorem law_16 {p : Program} {l : Launch} {e : Env} {s : State} {m : MethodId} {below : List Frame} {meth : Method} {c : Code} {b Ls i : Nat} {xs : Nat → Int32} {dC : Nat → ClassId} {dI : Nat → Nat → Nat} {adK adV : Nat → Nat} {L : List Nat} {kd : Nat → Nat} {tys : List (ClassId × FieldType)} {f : Nat → va_E} {H : Heap} {locs : List Loc} {ls : Array Slot} {cells slots : Nat} {Q : State → Prop} {ax am q0 q1 q4 q5 q6 : Nat} (hx : p.tables.exec = Jvm.exec) (hb : c.code = code) (hml : c.maxLocals = 4) (hown : s.vm.findClass R_law = some m.cls) (hts : ∀ w ∈ lw_tbl, w.before #[Value.ref b] s = true) (hX : va_X b Ls xs s s.heap) (hbl : b < s.heap.size) (hbA : ¬ pA L s.heap.size b) (hK : va_K (dC, dI) vwCl tys s) (hAm : ap_ adK adV (pA L s.heap.size) s s.heap) (hA : LA L kd ax am q0 q1 q4 q5 q6) (hi5 : i + 5 < Ls) (hLs : Ls ≤ 3072) (hcb : cells + 602 ≤ 601024 ∧ slots + 1806 ≤ 7293034) (g : G3 (dC, dI) L kd tys s f [] [] f H locs []) (hXI : XI L kd f ax q0 q1 q4 q5 q6) (hMI : MI L kd f am) (hTI : TI f ax am) (hl : lv_has ls 4 [(3, .int (nI i)), (2, .ref am), (1, .ref ax), (0, .ref b)]) (kk : ∀ (f1 : Nat → va_E) (H1 : Heap) (locs1 : List Loc) (cells1 slots1 k : Nat), k ≤ 601 → cells1 = cells + k → slots1 = slots + 3 * k → G3 (dC, dI) L kd tys s f1 [] [] f1 H1 locs1 [] → XI L kd f1 ax q0 q1 q4 q5 q6 → MI L kd f1 am → TI f1 ax am → W p l e room_1 s m #[Value.ref b] below meth c H1 locs1 cells1 slots1 Q (F0 m 823 ls [])) : W p l e room_1 s m #[Value.ref b] below meth c H locs cells slots Q (F0 m 606 ls []) := by
  refine lv_aload_n hx hb dL_law_606 rfl (lv_at hl 2 rfl) ?_
  have hW0 := g.2.2.2.1
  obtain ⟨⟨a1, a2, a3, a4, a5, a6, a7⟩, ⟨t1, t2, b1, b2, b3, b4, b5, b6⟩, c1, c2⟩ := id hXI
  have g9 := g.re (md' := []) (ma' := [])
  refine g_calli (va_runV (As := []) (rest := []) ⟨hx, hb, hml, hown, hts⟩ (r_X11_verdict l dC dI L kd tys f H.size g.2.2.2.1 ax hA.1.1 hA.1.2) (cwV 0 hts (gVL_ t_1786 t_1787 t_1788 t_182 t_1789) rfl rfl rfl (by decide +kernel) ⟨(Nat.le_of_ble_eq_true rfl), (Nat.le_of_ble_eq_true rfl)⟩) (pre3V g9 hK hA.1.1 hA.1.2 (by decide) (q := (RX11, TX11, 8)) rfl) rfl rfl hl.1 rfl (lv_room (Nat.le_of_ble_eq_true rfl)) dL_law_607 ⟨by show cells + 0 ≤ 601024; omega, by show slots + 0 ≤ 7293034; omega⟩) g9 hK (by decide) (by decide) (fx' := []) rfl (fun r_1 f H locs hp hM g => ?_)
  have hXI := XI.frx hXI hA hM hW0 (RP.frame hM hW0 hA.2.2.2.1.1 hA.2.2.2.1.2 (by decide) (by decide) c1) (by decide) (by decide)
  have hMI := MI.frx hMI hA.2.1 hM g hW0 (by decide) (by decide)
  have hTI := hTI.fr hA.1 hA.2.1 hM (by decide) (by decide)
  have g := g.re (md' := []) (ma' := [])
  refine lv_pop hx hb dL_law_610 rfl ?_
  refine lv_aload_n hx hb dL_law_611 rfl (lv_at hl 1 rfl) ?_
  have hW0 := g.2.2.2.1
  obtain ⟨n, q, V, δ, hn, hq, hRI⟩ := id hMI
  obtain ⟨r1, r2, r3, r4, r5, r6, r7, r8⟩ := id hRI
  have g9 := g.re (md' := []) (ma' := [])
  refine g_calli (va_runV (As := []) (rest := []) ⟨hx, hb, hml, hown, hts⟩ (r_X14_verdict l dC dI L kd tys f H.size g.2.2.2.1 am hA.2.1.1 hA.2.1.2) (cwV 0 hts (gVL_ t_2801 t_2802 t_2803 t_198 t_2804) rfl rfl rfl (by decide +kernel) ⟨(Nat.le_of_ble_eq_true rfl), (Nat.le_of_ble_eq_true rfl)⟩) (pre3V g9 hK hA.2.1.1 hA.2.1.2 (by decide) (q := (RX14, TX14, 67)) rfl) rfl rfl hl.1 rfl (lv_room (Nat.le_of_ble_eq_true rfl)) dL_law_612 ⟨by show cells + 0 ≤ 601024; omega, by show slots + 0 ≤ 7293034; omega⟩) g9 hK (by decide) (by decide) (fx' := []) rfl (fun r_2 f H locs hp hM g => ?_)
  have hXI := XI.frm hXI hA hM hW0 (by decide) (by decide)
  have hMI : MI L kd f am := ⟨n, q, V, δ, hn, hq, isV.frame hM hW0 hn.1 hn.2 (by decide) (by decide) r1, r2, mOK.frame hM hW0 hn.1 hn.2 (by decide) (by decide) r3, rOK.frame hM hW0 hA.2.1.1 hA.2.1.2 (by decide) (by decide) r4, oOK.frame hM hW0 hA.2.1.1 hA.2.1.2 (by decide) (by decide) r5, apP.call r6 g hn.1 hn.2 hq.1 hq.2 rfl, (md_fix hM hA.2.1 (by decide) (by decide)).trans r7, (md_fix hM hA.2.1 (by decide) (by decide)).trans r8⟩
  have hTI := hTI.fr hA.1 hA.2.1 hM (by decide) (by decide)
  have g := g.re (md' := []) (ma' := [])
  refine lv_pop hx hb dL_law_615 rfl ?_
  refine lv_goto (tgt := 823) hx hb dL_law_616 (by decide) ?_
  exact kk f H locs _ _ 0 (by omega) rfl rfl g hXI hMI hTI

set_option maxHeartbeats 4000000 in
set_option maxRecDepth 100000 in
theorem law_17 {p : Program} {l : Launch} {e : Env} {s : State} {m : MethodId} {below : List Frame} {meth : Method} {c : Code} {b Ls i : Nat} {xs : Nat → Int32} {dC : Nat → ClassId} {dI : Nat → Nat → Nat} {adK adV : Nat → Nat} {L : List Nat} {kd : Nat → Nat} {tys : List (ClassId × FieldType)} {f : Nat → va_E} {H : Heap} {locs : List Loc} {ls : Array Slot} {cells slots : Nat} {Q : State → Prop} {ax am q0 q1 q4 q5 q6 : Nat} (hx : p.tables.exec = Jvm.exec) (hb : c.code = code) (hml : c.maxLocals = 4) (hown : s.vm.findClass R_law = some m.cls) (hts : ∀ w ∈ lw_tbl, w.before #[Value.ref b] s = true) (hX : va_X b Ls xs s s.heap) (hbl : b < s.heap.size) (hbA : ¬ pA L s.heap.size b) (hK : va_K (dC, dI) vwCl tys s) (hAm : ap_ adK adV (pA L s.heap.size) s s.heap) (hA : LA L kd ax am q0 q1 q4 q5 q6) (hi5 : i + 5 < Ls) (hLs : Ls ≤ 3072) (hcb : cells + 602 ≤ 601024 ∧ slots + 1806 ≤ 7293034) (g : G3 (dC, dI) L kd tys s f [] [] f H locs []) (hXI : XI L kd f ax q0 q1 q4 q5 q6) (hMI : MI L kd f am) (hTI : TI f ax am) (hl : lv_has ls 4 [(3, .int (nI i)), (2, .ref am), (1, .ref ax), (0, .ref b)]) (kk : ∀ (f1 : Nat → va_E) (H1 : Heap) (locs1 : List Loc) (cells1 slots1 k : Nat), k ≤ 601 → cells1 = cells + k → slots1 = slots + 3 * k → G3 (dC, dI) L kd tys s f1 [] [] f1 H1 locs1 [] → XI L kd f1 ax q0 q1 q4 q5 q6 → MI L kd f1 am → TI f1 ax am → W p l e room_1 s m #[Value.ref b] below meth c H1 locs1 cells1 slots1 Q (F0 m 823 ls [])) : W p l e room_1 s m #[Value.ref b] below meth c H locs cells slots Q (F0 m 619 ls []) := by
  refine lv_aload_n hx hb dL_law_619 rfl (lv_at hl 2 rfl) ?_
  refine lv_aload_n hx hb dL_law_620 rfl (lv_at hl 3 rfl) ?_
  refine lv_iload_n hx hb dL_law_621 rfl (lv_at hl 0 rfl) ?_
  refine lv_iconst (v := 1) hx hb dL_law_622 (by decide) ?_
  refine lv_iadd hx hb dL_law_623 ?_
  refine lv_topi (fun y_1 ey_1 => ?_)
  refine va_sld hx hb hX hbl hbA g.2.2.1 (law_in (k := 1) ey_1 rfl rfl (by omega) (by omega)) dL_law_624 ?_
  have hW0 := g.2.2.2.1
  obtain ⟨⟨a1, a2, a3, a4, a5, a6, a7⟩, ⟨t1, t2, b1, b2, b3, b4, b5, b6⟩, c1, c2⟩ := id hXI
  have g9 := g.re (md' := []) (ma' := [])
  refine g_calli (va_runV (As := [.int (xs y_1.toNatClampNeg)]) (rest := []) ⟨hx, hb, hml, hown, hts⟩ (r_X11_condition l dC dI L kd tys f H.size g.2.2.2.1 ax hA.1.1 hA.1.2 (xs y_1.toNatClampNeg)) (cwV 1 hts (gVL_ t_1790 t_1791 t_1792 t_182 t_1793) rfl rfl rfl (by decide +kernel) ⟨(Nat.le_of_ble_eq_true rfl), (Nat.le_of_ble_eq_true rfl)⟩) (pre3V g9 hK hA.1.1 hA.1.2 (by decide) (q := (RX11, TX11, 8)) rfl) rfl rfl hl.1 rfl (lv_room (Nat.le_of_ble_eq_true rfl)) dL_law_625 ⟨by show cells + 0 ≤ 601024; omega, by show slots + 0 ≤ 7293034; omega⟩) g9 hK (by decide) (by decide) (fx' := []) rfl (fun r_2 f H locs hp hM g => ?_)
  have hXI := XI.frx hXI hA hM hW0 (RP.frame hM hW0 hA.2.2.2.1.1 hA.2.2.2.1.2 (by decide) (by decide) c1) (by decide) (by decide)
  have hMI := MI.frx hMI hA.2.1 hM g hW0 (by decide) (by decide)
  have hTI := hTI.fr hA.1 hA.2.1 hM (by decide) (by decide)
  have g := g.re (md' := []) (ma' := [])
  refine lv_pop hx hb dL_law_628 rfl ?_
  refine lv_aload_n hx hb dL_law_629 rfl (lv_at hl 1 rfl) ?_
  refine lv_aload_n hx hb dL_law_630 rfl (lv_at hl 3 rfl) ?_
  refine lv_iload_n hx hb dL_law_631 rfl (lv_at hl 0 rfl) ?_
  refine lv_iconst (v := 1) hx hb dL_law_632 (by decide) ?_
  refine lv_iadd hx hb dL_law_633 ?_
  refine lv_topi (fun y_3 ey_3 => ?_)
  refine va_sld hx hb hX hbl hbA g.2.2.1 (law_in (k := 1) ey_3 rfl rfl (by omega) (by omega)) dL_law_634 ?_
  have hW0 := g.2.2.2.1
  obtain ⟨n, q, V, δ, hn, hq, hRI⟩ := id hMI
  obtain ⟨r1, r2, r3, r4, r5, r6, r7, r8⟩ := id hRI
  have g9 := g.re (md' := []) (ma' := [])
  refine g_calli (va_runV (As := [.int (xs y_3.toNatClampNeg)]) (rest := []) ⟨hx, hb, hml, hown, hts⟩ (r_X14_condition l dC dI L kd tys f H.size g.2.2.2.1 am hA.2.1.1 hA.2.1.2 (xs y_3.toNatClampNeg)) (cwV 1 hts (gVL_ t_2805 t_2806 t_2807 t_198 t_2808) rfl rfl rfl (by decide +kernel) ⟨(Nat.le_of_ble_eq_true rfl), (Nat.le_of_ble_eq_true rfl)⟩) (pre3V g9 hK hA.2.1.1 hA.2.1.2 (by decide) (q := (RX14, TX14, 67)) rfl) rfl rfl hl.1 rfl (lv_room (Nat.le_of_ble_eq_true rfl)) dL_law_635 ⟨by show cells + 0 ≤ 601024; omega, by show slots + 0 ≤ 7293034; omega⟩) g9 hK (by decide) (by decide) (fx' := []) rfl (fun r_4 f H locs hp hM g => ?_)
  have hXI := XI.frm hXI hA hM hW0 (by decide) (by decide)
  have hMI : MI L kd f am := ⟨n, q, V, δ, hn, hq, isV.frame hM hW0 hn.1 hn.2 (by decide) (by decide) r1, r2, mOK.frame hM hW0 hn.1 hn.2 (by decide) (by decide) r3, rOK.frame hM hW0 hA.2.1.1 hA.2.1.2 (by decide) (by decide) r4, oOK.frame hM hW0 hA.2.1.1 hA.2.1.2 (by decide) (by decide) r5, apP.call r6 g hn.1 hn.2 hq.1 hq.2 rfl, (md_fix hM hA.2.1 (by decide) (by decide)).trans r7, (md_fix hM hA.2.1 (by decide) (by decide)).trans r8⟩
  have hTI := hTI.fr hA.1 hA.2.1 hM (by decide) (by decide)
  have g := g.re (md' := []) (ma' := [])
  refine lv_pop hx hb dL_law_638 rfl ?_
  refine lv_goto (tgt := 823) hx hb dL_law_639 (by decide) ?_
  exact kk f H locs _ _ 0 (by omega) rfl rfl g hXI hMI hTI

