set_option maxHeartbeats 4000000 in
set_option maxRecDepth 100000 in
theorem law_0 {p : Program} {l : Launch} {e : Env} {s : State} {m : MethodId} {below : List Frame} {meth : Method} {c : Code} {b Ls i : Nat} {xs : Nat → Int32} {dC : Nat → ClassId} {dI : Nat → Nat → Nat} {adK adV : Nat → Nat} {L : List Nat} {kd : Nat → Nat} {tys : List (ClassId × FieldType)} {f : Nat → va_E} {H : Heap} {locs : List Loc} {ls : Array Slot} {cells slots : Nat} {Q : State → Prop} {ax am q0 q1 q4 q5 q6 : Nat} (hx : p.tables.exec = Jvm.exec) (hb : c.code = code) (hml : c.maxLocals = 4) (hown : s.vm.findClass R_law = some m.cls) (hts : ∀ w ∈ lw_tbl, w.before #[Value.ref b] s = true) (hX : va_X b Ls xs s s.heap) (hbl : b < s.heap.size) (hbA : ¬ pA L s.heap.size b) (hK : va_K (dC, dI) vwCl tys s) (hAm : ap_ adK adV (pA L s.heap.size) s s.heap) (hA : LA L kd ax am q0 q1 q4 q5 q6) (hi5 : i + 5 < Ls) (hLs : Ls ≤ 3072) (hcb : cells + 602 ≤ 601024 ∧ slots + 1806 ≤ 7293034) (g : G3 (dC, dI) L kd tys s f [] [] f H locs []) (hXI : XI L kd f ax q0 q1 q4 q5 q6) (hMI : MI L kd f am) (hTI : TI f ax am) (hl : lv_has ls 4 [(3, .int (nI i)), (2, .ref am), (1, .ref ax), (0, .ref b)]) (kk : ∀ (f1 : Nat → va_E) (H1 : Heap) (locs1 : List Loc) (cells1 slots1 k : Nat), k ≤ 601 → cells1 = cells + k → slots1 = slots + 3 * k → G3 (dC, dI) L kd tys s f1 [] [] f1 H1 locs1 [] → XI L kd f1 ax q0 q1 q4 q5 q6 → MI L kd f1 am → TI f1 ax am → W p l e room_1 s m #[Value.ref b] below meth c H1 locs1 cells1 slots1 Q (F0 m 823 ls [])) : W p l e room_1 s m #[Value.ref b] below meth c H locs cells slots Q (F0 m 148 ls []) := by
  refine lv_aload_n hx hb dL_law_148 rfl (lv_at hl 2 rfl) ?_
  refine lv_aload_n hx hb dL_law_149 rfl (lv_at hl 3 rfl) ?_
  refine lv_iload_n hx hb dL_law_150 rfl (lv_at hl 0 rfl) ?_
  refine lv_iconst (v := 1) hx hb dL_law_151 (by decide) ?_
  refine lv_iadd hx hb dL_law_152 ?_
  refine lv_topi (fun y_1 ey_1 => ?_)
  refine va_sld hx hb hX hbl hbA g.2.2.1 (law_in (k := 1) ey_1 rfl rfl (by omega) (by omega)) dL_law_153 ?_
  refine lv_aload_n hx hb dL_law_154 rfl (lv_at hl 3 rfl) ?_
  refine lv_iload_n hx hb dL_law_155 rfl (lv_at hl 0 rfl) ?_
  refine lv_iconst (v := 2) hx hb dL_law_156 (by decide) ?_
  refine lv_iadd hx hb dL_law_157 ?_
  refine lv_topi (fun y_2 ey_2 => ?_)
  refine va_sld hx hb hX hbl hbA g.2.2.1 (law_in (k := 2) ey_2 rfl rfl (by omega) (by omega)) dL_law_158 ?_
  refine lv_aload_n hx hb dL_law_159 rfl (lv_at hl 3 rfl) ?_
  refine lv_iload_n hx hb dL_law_160 rfl (lv_at hl 0 rfl) ?_
  refine lv_iconst (v := 3) hx hb dL_law_161 (by decide) ?_
  refine lv_iadd hx hb dL_law_162 ?_
  refine lv_topi (fun y_3 ey_3 => ?_)
  refine va_sld hx hb hX hbl hbA g.2.2.1 (law_in (k := 3) ey_3 rfl rfl (by omega) (by omega)) dL_law_163 ?_
  refine lv_aload_n hx hb dL_law_164 rfl (lv_at hl 3 rfl) ?_
  refine lv_iload_n hx hb dL_law_165 rfl (lv_at hl 0 rfl) ?_
  refine lv_iconst (v := 4) hx hb dL_law_166 (by decide) ?_
  refine lv_iadd hx hb dL_law_167 ?_
  refine lv_topi (fun y_4 ey_4 => ?_)
  refine va_sld hx hb hX hbl hbA g.2.2.1 (law_in (k := 4) ey_4 rfl rfl (by omega) (by omega)) dL_law_168 ?_
  refine lv_aload_n hx hb dL_law_169 rfl (lv_at hl 3 rfl) ?_
  refine lv_iload_n hx hb dL_law_170 rfl (lv_at hl 0 rfl) ?_
  refine lv_iconst (v := 5) hx hb dL_law_171 (by decide) ?_
  refine lv_iadd hx hb dL_law_172 ?_
  refine lv_topi (fun y_5 ey_5 => ?_)
  refine va_sld hx hb hX hbl hbA g.2.2.1 (law_in (k := 5) ey_5 rfl rfl (by omega) (by omega)) dL_law_173 ?_
  have hW0 := g.2.2.2.1
  obtain ⟨⟨a1, a2, a3, a4, a5, a6, a7⟩, ⟨t1, t2, b1, b2, b3, b4, b5, b6⟩, c1, c2⟩ := id hXI
  obtain ⟨t, tb, t11, t14⟩ := id hTI
  have g9 := g.re (md' := [(11, 1)]) (ma' := [104])
  refine g_calli (va_runV (As := [.int (xs y_1.toNatClampNeg), .int (xs y_2.toNatClampNeg), .int (xs y_3.toNatClampNeg), .int (xs y_4.toNatClampNeg), .int (xs y_5.toNatClampNeg)]) (rest := []) ⟨hx, hb, hml, hown, hts⟩ (r_X11_feed l dC dI L kd tys f H.size g.2.2.2.1 ax hA.1.1 hA.1.2 (xs y_1.toNatClampNeg) (xs y_2.toNatClampNeg) (xs y_3.toNatClampNeg) (xs y_4.toNatClampNeg) (xs y_5.toNatClampNeg) t tb (Fs.cons_ hA.1 (by decide) t11 Fs.nil)) (cwV 5 hts (gVL_ t_973 t_974 t_975 t_182 t_976) rfl rfl rfl (by decide +kernel) ⟨(Nat.le_of_ble_eq_true rfl), (Nat.le_of_ble_eq_true rfl)⟩) (pre3V g9 hK hA.1.1 hA.1.2 (by decide) (q := (RX11, TX11, 8)) rfl) rfl rfl hl.1 rfl (lv_room (Nat.le_of_ble_eq_true rfl)) dL_law_174 ⟨by show cells + 0 ≤ 601024; omega, by show slots + 0 ≤ 7293034; omega⟩) g9 hK (by decide) (by decide) (fx' := []) rfl (fun r_6 f H locs hp hM g => ?_)
  have hXI := XI.frx hXI hA hM hW0 (RP.frame hM hW0 hA.2.2.2.1.1 hA.2.2.2.1.2 (by decide) (by decide) c1) (by decide) (by decide)
  have hMI := MI.frx hMI hA.2.1 hM g hW0 (by decide) (by decide)
  have t14 := (md_fix hM hA.2.1 (by decide) (by decide : (14, 4) ∉ ([(11, 1)] : List (Nat × Nat)))).trans t14
  have hpx := hp
  have g := g.re (md' := []) (ma' := [])
  refine lv_pop hx hb dL_law_177 rfl ?_
  refine lv_aload_n hx hb dL_law_178 rfl (lv_at hl 1 rfl) ?_
  refine lv_aload_n hx hb dL_law_179 rfl (lv_at hl 3 rfl) ?_
  refine lv_iload_n hx hb dL_law_180 rfl (lv_at hl 0 rfl) ?_
  refine lv_iconst (v := 1) hx hb dL_law_181 (by decide) ?_
  refine lv_iadd hx hb dL_law_182 ?_
  refine lv_topi (fun y_7 ey_7 => ?_)
  refine va_sld hx hb hX hbl hbA g.2.2.1 (law_in (k := 1) ey_7 rfl rfl (by omega) (by omega)) dL_law_183 ?_
  refine lv_aload_n hx hb dL_law_184 rfl (lv_at hl 3 rfl) ?_
  refine lv_iload_n hx hb dL_law_185 rfl (lv_at hl 0 rfl) ?_
  refine lv_iconst (v := 2) hx hb dL_law_186 (by decide) ?_
  refine lv_iadd hx hb dL_law_187 ?_
  refine lv_topi (fun y_8 ey_8 => ?_)
  refine va_sld hx hb hX hbl hbA g.2.2.1 (law_in (k := 2) ey_8 rfl rfl (by omega) (by omega)) dL_law_188 ?_
  refine lv_aload_n hx hb dL_law_189 rfl (lv_at hl 3 rfl) ?_
  refine lv_iload_n hx hb dL_law_190 rfl (lv_at hl 0 rfl) ?_
  refine lv_iconst (v := 3) hx hb dL_law_191 (by decide) ?_
  refine lv_iadd hx hb dL_law_192 ?_
  refine lv_topi (fun y_9 ey_9 => ?_)
  refine va_sld hx hb hX hbl hbA g.2.2.1 (law_in (k := 3) ey_9 rfl rfl (by omega) (by omega)) dL_law_193 ?_
  refine lv_aload_n hx hb dL_law_194 rfl (lv_at hl 3 rfl) ?_
  refine lv_iload_n hx hb dL_law_195 rfl (lv_at hl 0 rfl) ?_
  refine lv_iconst (v := 4) hx hb dL_law_196 (by decide) ?_
  refine lv_iadd hx hb dL_law_197 ?_
  refine lv_topi (fun y_10 ey_10 => ?_)
  refine va_sld hx hb hX hbl hbA g.2.2.1 (law_in (k := 4) ey_10 rfl rfl (by omega) (by omega)) dL_law_198 ?_
  refine lv_aload_n hx hb dL_law_199 rfl (lv_at hl 3 rfl) ?_
  refine lv_iload_n hx hb dL_law_200 rfl (lv_at hl 0 rfl) ?_
  refine lv_iconst (v := 5) hx hb dL_law_201 (by decide) ?_
  refine lv_iadd hx hb dL_law_202 ?_
  refine lv_topi (fun y_11 ey_11 => ?_)
  refine va_sld hx hb hX hbl hbA g.2.2.1 (law_in (k := 5) ey_11 rfl rfl (by omega) (by omega)) dL_law_203 ?_
  have hW0 := g.2.2.2.1
  obtain ⟨n, q, V, δ, hn, hq, hRI⟩ := id hMI
  obtain ⟨r1, r2, r3, r4, r5, r6, r7, r8⟩ := id hRI
  have g9 := g.re (md' := [(14, 4)]) (ma' := [212])
  refine g_calli (va_runV (As := [.int (xs y_7.toNatClampNeg), .int (xs y_8.toNatClampNeg), .int (xs y_9.toNatClampNeg), .int (xs y_10.toNatClampNeg), .int (xs y_11.toNatClampNeg)]) (rest := []) ⟨hx, hb, hml, hown, hts⟩ (r_X14_feed l dC dI L kd tys f H.size g.2.2.2.1 am hA.2.1.1 hA.2.1.2 (xs y_7.toNatClampNeg) (xs y_8.toNatClampNeg) (xs y_9.toNatClampNeg) (xs y_10.toNatClampNeg) (xs y_11.toNatClampNeg) t tb (Fs.cons_ hA.2.1 (by decide) t14 Fs.nil)) (cwV 5 hts (gVL_ t_2348 t_2349 t_2350 t_198 t_2351) rfl rfl rfl (by decide +kernel) ⟨(Nat.le_of_ble_eq_true rfl), (Nat.le_of_ble_eq_true rfl)⟩) (pre3V g9 hK hA.2.1.1 hA.2.1.2 (by decide) (q := (RX14, TX14, 67)) rfl) rfl rfl hl.1 rfl (lv_room (Nat.le_of_ble_eq_true rfl)) dL_law_204 ⟨by show cells + 0 ≤ 601024; omega, by show slots + 0 ≤ 7293034; omega⟩) g9 hK (by decide) (by decide) (fx' := []) rfl (fun r_12 f H locs hp hM g => ?_)
  have hXI := XI.frm hXI hA hM hW0 (by decide) (by decide)
  have hMI : MI L kd f am := ⟨n, q, V, δ, hn, hq, isV.frame hM hW0 hn.1 hn.2 (by decide) (by decide) r1, r2, mOK.frame hM hW0 hn.1 hn.2 (by decide) (by decide) r3, rOK.frame hM hW0 hA.2.1.1 hA.2.1.2 (by decide) (by decide) r4, oOK.frame hM hW0 hA.2.1.1 hA.2.1.2 (by decide) (by decide) r5, apP.call r6 g hn.1 hn.2 hq.1 hq.2 rfl, (md_fix hM hA.2.1 (by decide) (by decide)).trans r7, (md_fix hM hA.2.1 (by decide) (by decide)).trans r8⟩
  have hRT : r_6 = r_12 ∧ TI f ax am := by
    rcases hpx with ⟨u1, u2, u3⟩ | ⟨⟨u1, u2⟩, -, z1, ⟨u4, u5⟩, u3⟩ <;> rcases hp with ⟨v1, v2, v3⟩ | ⟨⟨v1, v2⟩, -, z2, ⟨v4, v5⟩, v3⟩
    · exact ⟨u2.trans v2.symm, t, tb, (md_fix hM hA.1 (by decide) (by decide)).trans ((u3.at9 (i := 0) rfl).2.2.2), (v3.at9 (i := 0) rfl).2.2.2⟩
    · omega
    · omega
    · have e9 : z1 = z2 := i32_eq (by omega)
      exact ⟨i32_eq (by omega), z1, ⟨by have h9 := u4.1; omega, u4.2⟩, (md_fix hM hA.1 (by decide) (by decide)).trans ((u3.at9 (i := 0) rfl).2.2.2), by rw [e9]; exact (v3.at9 (i := 0) rfl).2.2.2⟩
  obtain ⟨hRR, hTI⟩ := hRT
  have g := g.re (md' := []) (ma' := [])
  refine lv_pop hx hb dL_law_207 rfl ?_
  refine lv_goto (tgt := 823) hx hb dL_law_208 (by decide) ?_
  exact kk f H locs _ _ 0 (by omega) rfl rfl g hXI hMI hTI

set_option maxHeartbeats 4000000 in
set_option maxRecDepth 100000 in
theorem law_1 {p : Program} {l : Launch} {e : Env} {s : State} {m : MethodId} {below : List Frame} {meth : Method} {c : Code} {b Ls i : Nat} {xs : Nat → Int32} {dC : Nat → ClassId} {dI : Nat → Nat → Nat} {adK adV : Nat → Nat} {L : List Nat} {kd : Nat → Nat} {tys : List (ClassId × FieldType)} {f : Nat → va_E} {H : Heap} {locs : List Loc} {ls : Array Slot} {cells slots : Nat} {Q : State → Prop} {ax am q0 q1 q4 q5 q6 : Nat} (hx : p.tables.exec = Jvm.exec) (hb : c.code = code) (hml : c.maxLocals = 4) (hown : s.vm.findClass R_law = some m.cls) (hts : ∀ w ∈ lw_tbl, w.before #[Value.ref b] s = true) (hX : va_X b Ls xs s s.heap) (hbl : b < s.heap.size) (hbA : ¬ pA L s.heap.size b) (hK : va_K (dC, dI) vwCl tys s) (hAm : ap_ adK adV (pA L s.heap.size) s s.heap) (hA : LA L kd ax am q0 q1 q4 q5 q6) (hi5 : i + 5 < Ls) (hLs : Ls ≤ 3072) (hcb : cells + 602 ≤ 601024 ∧ slots + 1806 ≤ 7293034) (g : G3 (dC, dI) L kd tys s f [] [] f H locs []) (hXI : XI L kd f ax q0 q1 q4 q5 q6) (hMI : MI L kd f am) (hTI : TI f ax am) (hl : lv_has ls 4 [(3, .int (nI i)), (2, .ref am), (1, .ref ax), (0, .ref b)]) (kk : ∀ (f1 : Nat → va_E) (H1 : Heap) (locs1 : List Loc) (cells1 slots1 k : Nat), k ≤ 601 → cells1 = cells + k → slots1 = slots + 3 * k → G3 (dC, dI) L kd tys s f1 [] [] f1 H1 locs1 [] → XI L kd f1 ax q0 q1 q4 q5 q6 → MI L kd f1 am → TI f1 ax am → W p l e room_1 s m #[Value.ref b] below meth c H1 locs1 cells1 slots1 Q (F0 m 823 ls [])) : W p l e room_1 s m #[Value.ref b] below meth c H locs cells slots Q (F0 m 211 ls []) := by
  refine lv_aload_n hx hb dL_law_211 rfl (lv_at hl 2 rfl) ?_
  refine lv_aload_n hx hb dL_law_212 rfl (lv_at hl 3 rfl) ?_
  refine lv_iload_n hx hb dL_law_213 rfl (lv_at hl 0 rfl) ?_
  refine lv_iconst (v := 1) hx hb dL_law_214 (by decide) ?_
  refine lv_iadd hx hb dL_law_215 ?_
  refine lv_topi (fun y_1 ey_1 => ?_)
  refine va_sld hx hb hX hbl hbA g.2.2.1 (law_in (k := 1) ey_1 rfl rfl (by omega) (by omega)) dL_law_216 ?_
  have hW0 := g.2.2.2.1
  obtain ⟨⟨a1, a2, a3, a4, a5, a6, a7⟩, ⟨t1, t2, b1, b2, b3, b4, b5, b6⟩, c1, c2⟩ := id hXI
  obtain ⟨t, tb, t11, t14⟩ := id hTI
  have g9 := g.re (md' := [(11, 1)]) (ma' := [])
  refine g_calli (va_runV (As := [.int (xs y_1.toNatClampNeg)]) (rest := []) ⟨hx, hb, hml, hown, hts⟩ (r_X11_end l dC dI L kd tys f H.size g.2.2.2.1 ax hA.1.1 hA.1.2 (xs y_1.toNatClampNeg) t tb (Fs.cons_ hA.1 (by decide) t11 Fs.nil)) (cwV 1 hts (gVL_ t_981 t_982 t_983 t_182 t_984) rfl rfl rfl (by decide +kernel) ⟨(Nat.le_of_ble_eq_true rfl), (Nat.le_of_ble_eq_true rfl)⟩) (pre3V g9 hK hA.1.1 hA.1.2 (by decide) (q := (RX11, TX11, 8)) rfl) rfl rfl hl.1 rfl (lv_room (Nat.le_of_ble_eq_true rfl)) dL_law_217 ⟨by show cells + 0 ≤ 601024; omega, by show slots + 0 ≤ 7293034; omega⟩) g9 hK (by decide) (by decide) (fx' := []) rfl (fun r_2 f H locs hp hM g => ?_)
  have hXI := XI.frx hXI hA hM hW0 (RP.frame hM hW0 hA.2.2.2.1.1 hA.2.2.2.1.2 (by decide) (by decide) c1) (by decide) (by decide)
  have hMI := MI.frx hMI hA.2.1 hM g hW0 (by decide) (by decide)
  have t14 := (md_fix hM hA.2.1 (by decide) (by decide : (14, 4) ∉ ([(11, 1)] : List (Nat × Nat)))).trans t14
  have hpx := hp
  have g := g.re (md' := []) (ma' := [])
  refine lv_aload_n hx hb dL_law_220 rfl (lv_at hl 1 rfl) ?_
  refine lv_aload_n hx hb dL_law_221 rfl (lv_at hl 3 rfl) ?_
  refine lv_iload_n hx hb dL_law_222 rfl (lv_at hl 0 rfl) ?_
  refine lv_iconst (v := 1) hx hb dL_law_223 (by decide) ?_
  refine lv_iadd hx hb dL_law_224 ?_
  refine lv_topi (fun y_3 ey_3 => ?_)
  refine va_sld hx hb hX hbl hbA g.2.2.1 (law_in (k := 1) ey_3 rfl rfl (by omega) (by omega)) dL_law_225 ?_
  have hW0 := g.2.2.2.1
  obtain ⟨n, q, V, δ, hn, hq, hRI⟩ := id hMI
  obtain ⟨r1, r2, r3, r4, r5, r6, r7, r8⟩ := id hRI
  have g9 := g.re (md' := [(14, 4)]) (ma' := [])
  refine g_calli (va_runV (As := [.int (xs y_3.toNatClampNeg)]) (rest := [.int r_2]) ⟨hx, hb, hml, hown, hts⟩ (r_X14_end l dC dI L kd tys f H.size g.2.2.2.1 am hA.2.1.1 hA.2.1.2 (xs y_3.toNatClampNeg) t tb (Fs.cons_ hA.2.1 (by decide) t14 Fs.nil)) (cwV 1 hts (gVL_ t_2352 t_2353 t_2354 t_198 t_2355) rfl rfl rfl (by decide +kernel) ⟨(Nat.le_of_ble_eq_true rfl), (Nat.le_of_ble_eq_true rfl)⟩) (pre3V g9 hK hA.2.1.1 hA.2.1.2 (by decide) (q := (RX14, TX14, 67)) rfl) rfl rfl hl.1 rfl (lv_room (Nat.le_of_ble_eq_true rfl)) dL_law_226 ⟨by show cells + 0 ≤ 601024; omega, by show slots + 0 ≤ 7293034; omega⟩) g9 hK (by decide) (by decide) (fx' := []) rfl (fun r_4 f H locs hp hM g => ?_)
  have hXI := XI.frm hXI hA hM hW0 (by decide) (by decide)
  have hMI : MI L kd f am := ⟨n, q, V, δ, hn, hq, isV.frame hM hW0 hn.1 hn.2 (by decide) (by decide) r1, r2, mOK.frame hM hW0 hn.1 hn.2 (by decide) (by decide) r3, rOK.frame hM hW0 hA.2.1.1 hA.2.1.2 (by decide) (by decide) r4, oOK.frame hM hW0 hA.2.1.1 hA.2.1.2 (by decide) (by decide) r5, apP.call r6 g hn.1 hn.2 hq.1 hq.2 rfl, (md_fix hM hA.2.1 (by decide) (by decide)).trans r7, (md_fix hM hA.2.1 (by decide) (by decide)).trans r8⟩
  have hRT : r_2 = r_4 ∧ TI f ax am := by
    obtain rfl : y_1 = y_3 := ey_1.trans ey_3.symm
    rcases hpx with ⟨u1, u2, u3⟩ | ⟨u1, u4, u2, u3⟩ <;> rcases hp with ⟨v1, v2, v3⟩ | ⟨v1, v4, v2, v3⟩
    · exact ⟨u2.trans v2.symm, t, tb, (md_fix hM hA.1 (by decide) (by decide)).trans (u3.at9 (i := 0) rfl).2.2.2, (v3.at9 (i := 0) rfl).2.2.2⟩
    · exact absurd v1 u1
    · exact absurd u1 v1
    · exact ⟨u4.trans v4.symm, _, ⟨u1.1, by have h9 := u1.2; have h8 := tb.2; omega⟩, (md_fix hM hA.1 (by decide) (by decide)).trans (u3.at9 (i := 0) rfl).2.2.2, (v3.at9 (i := 0) rfl).2.2.2⟩
  obtain ⟨hRR, hTI⟩ := hRT
  have g := g.re (md' := []) (ma' := [])
  refine lv_icmp_eq (tgt := 823) hx hb dL_law_229 (by decide) (fun c_ => ?_) (fun c_ => absurd hRR c_)
  exact kk f H locs _ _ 0 (by omega) rfl rfl g hXI hMI hTI

set_option maxHeartbeats 4000000 in
set_option maxRecDepth 100000 in
theorem law_2 {p : Program} {l : Launch} {e : Env} {s : State} {m : MethodId} {below : List Frame} {meth : Method} {c : Code} {b Ls i : Nat} {xs : Nat → Int32} {dC : Nat → ClassId} {dI : Nat → Nat → Nat} {adK adV : Nat → Nat} {L : List Nat} {kd : Nat → Nat} {tys : List (ClassId × FieldType)} {f : Nat → va_E} {H : Heap} {locs : List Loc} {ls : Array Slot} {cells slots : Nat} {Q : State → Prop} {ax am q0 q1 q4 q5 q6 : Nat} (hx : p.tables.exec = Jvm.exec) (hb : c.code = code) (hml : c.maxLocals = 4) (hown : s.vm.findClass R_law = some m.cls) (hts : ∀ w ∈ lw_tbl, w.before #[Value.ref b] s = true) (hX : va_X b Ls xs s s.heap) (hbl : b < s.heap.size) (hbA : ¬ pA L s.heap.size b) (hK : va_K (dC, dI) vwCl tys s) (hAm : ap_ adK adV (pA L s.heap.size) s s.heap) (hA : LA L kd ax am q0 q1 q4 q5 q6) (hi5 : i + 5 < Ls) (hLs : Ls ≤ 3072) (hcb : cells + 602 ≤ 601024 ∧ slots + 1806 ≤ 7293034) (g : G3 (dC, dI) L kd tys s f [] [] f H locs []) (hXI : XI L kd f ax q0 q1 q4 q5 q6) (hMI : MI L kd f am) (hTI : TI f ax am) (hl : lv_has ls 4 [(3, .int (nI i)), (2, .ref am), (1, .ref ax), (0, .ref b)]) (kk : ∀ (f1 : Nat → va_E) (H1 : Heap) (locs1 : List Loc) (cells1 slots1 k : Nat), k ≤ 601 → cells1 = cells + k → slots1 = slots + 3 * k → G3 (dC, dI) L kd tys s f1 [] [] f1 H1 locs1 [] → XI L kd f1 ax q0 q1 q4 q5 q6 → MI L kd f1 am → TI f1 ax am → W p l e room_1 s m #[Value.ref b] below meth c H1 locs1 cells1 slots1 Q (F0 m 823 ls [])) : W p l e room_1 s m #[Value.ref b] below meth c H locs cells slots Q (F0 m 234 ls []) := by
  refine lv_aload_n hx hb dL_law_234 rfl (lv_at hl 2 rfl) ?_
  have hW0 := g.2.2.2.1
  obtain ⟨⟨a1, a2, a3, a4, a5, a6, a7⟩, ⟨t1, t2, b1, b2, b3, b4, b5, b6⟩, c1, c2⟩ := id hXI
  have g9 := g.re (md' := [(0, 2), (0, 8), (0, 10), (0, 11), (0, 12), (0, 13), (2, 3), (2, 4), (2, 5), (2, 6), (2, 11), (2, 12), (2, 13), (2, 14), (2, 15), (3, 0), (3, 4), (4, 0), (4, 1), (4, 2), (4, 3), (4, 4), (4, 5), (4, 6), (4, 14), (5, 0), (5, 1), (5, 2), (5, 4), (5, 6), (5, 7), (5, 8), (6, 0), (6, 1), (6, 2), (6, 3), (6, 6), (6, 7), (6, 8), (6, 9), (6, 10), (6, 11), (6, 12), (7, 1), (7, 3), (7, 6), (7, 13), (7, 15), (7, 17), (7, 18), (8, 4), (8, 5), (8, 6), (8, 7), (8, 8), (8, 9), (8, 108), (9, 0), (9, 1), (9, 2), (9, 7), (9, 8), (9, 10), (9, 11), (9, 12), (10, 0), (10, 6), (10, 7), (10, 8), (11, 1), (11, 4), (11, 5), (11, 6), (11, 7)]) (ma' := [110, 111, 112, 113, 114, 115, 118, 119, 120, 121, 130, 131, 132, 133, 134, 135, 138, 139, 140, 141, 142, 143, 144, 145, 146, 147, 148, 149, 150, 152, 153, 154, 155, 156])
  refine g_calli (va_runV (As := []) (rest := []) ⟨hx, hb, hml, hown, hts⟩ (r_X11_classes l dC dI L kd tys f H.size g.2.2.2.1 adK adV ax hA.1.1 hA.1.2 q0 hA.2.2.1.1 hA.2.2.1.2 q1 hA.2.2.2.1.1 hA.2.2.2.1.2 t1 b1.1 b1.2 t2 b2.1 b2.2 q4 hA.2.2.2.2.1.1 hA.2.2.2.2.1.2 q5 hA.2.2.2.2.2.1.1 hA.2.2.2.2.2.1.2 q6 hA.2.2.2.2.2.2.1 hA.2.2.2.2.2.2.2 t1 b1.1 b1.2 t1 c1 b6 c2 (Fs.cons_ hA.1 (by decide) a1 (Fs.cons_ hA.1 (by decide) a2 (Fs.cons_ hA.1 (by decide) b3 (Fs.cons_ hA.1 (by decide) b4 (Fs.cons_ hA.2.2.1 (by decide) a3 (Fs.cons_ hA.2.2.1 (by decide) a4 (Fs.cons_ hA.2.2.1 (by decide) a5 (Fs.cons_ hA.2.2.2.1 (by decide) b5 (Fs.cons_ hA.2.2.2.2.2.2 (by decide) a6 (Fs.cons_ hA.2.2.2.2.2.2 (by decide) a7 Fs.nil))))))))))) (cwV 0 hts (gVL_ t_985 t_986 t_987 t_182 t_988) rfl rfl rfl (by decide +kernel) ⟨(Nat.le_of_ble_eq_true rfl), (Nat.le_of_ble_eq_true rfl)⟩) (pre3VA g9 hK hAm hA.1.1 hA.1.2 (by decide) (q := (RX11, TX11, 8)) rfl) rfl rfl hl.1 rfl (lv_room (Nat.le_of_ble_eq_true rfl)) dL_law_235 ⟨by show cells + 0 ≤ 601024; omega, by show slots + 0 ≤ 7293034; omega⟩) g9 hK (by decide) (by decide) (fx' := []) rfl (fun r_1 f H locs hp hM g => ?_)
  have fa := fun {a ci j : Nat} (ha : a ∈ L ∧ kd a = ci) (hc : ci < 100) (hj : (ci, j) ∉ ([(0, 2), (0, 8), (0, 10), (0, 11), (0, 12), (0, 13), (2, 3), (2, 4), (2, 5), (2, 6), (2, 11), (2, 12), (2, 13), (2, 14), (2, 15), (3, 0), (3, 4), (4, 0), (4, 1), (4, 2), (4, 3), (4, 4), (4, 5), (4, 6), (4, 14), (5, 0), (5, 1), (5, 2), (5, 4), (5, 6), (5, 7), (5, 8), (6, 0), (6, 1), (6, 2), (6, 3), (6, 6), (6, 7), (6, 8), (6, 9), (6, 10), (6, 11), (6, 12), (7, 1), (7, 3), (7, 6), (7, 13), (7, 15), (7, 17), (7, 18), (8, 4), (8, 5), (8, 6), (8, 7), (8, 8), (8, 9), (8, 108), (9, 0), (9, 1), (9, 2), (9, 7), (9, 8), (9, 10), (9, 11), (9, 12), (10, 0), (10, 6), (10, 7), (10, 8), (11, 1), (11, 4), (11, 5), (11, 6), (11, 7)] : List (Nat × Nat))) => md_fix (f1 := f) (j := j) hM ha hc hj
  have hXT : XI L kd f ax q0 q1 q4 q5 q6 ∧ fV f ax 1 = .int 0 := by
    rcases hp with ⟨g1, g2, g3, g4, z0_, g5, z2_, g6, z3_, g7, z4_, g8, z5_, g9, z6_, g10, z9_, g11, hF⟩ | ⟨g1, g2, g3, g4, g5, z6_, g6, z8_, g7, z10_, g8, z11_, g9, z12_, g10, z13_, g11, z14_, g12, z17_, g13, hF⟩
    · exact ⟨⟨⟨(fa hA.1 (by decide) (by decide)).trans a1, (fa hA.1 (by decide) (by decide)).trans a2, (fa hA.2.2.1 (by decide) (by decide)).trans a3, (fa hA.2.2.1 (by decide) (by decide)).trans a4, (fa hA.2.2.1 (by decide) (by decide)).trans a5, (fa hA.2.2.2.2.2.2 (by decide) (by decide)).trans a6, (fa hA.2.2.2.2.2.2 (by decide) (by decide)).trans a7⟩, ⟨t1, t2, b1, b2, (hF.at9 (i := 10) rfl).2.2.2, (hF.at9 (i := 11) rfl).2.2.2, (hF.at9 (i := 12) rfl).2.2.2, g2⟩, g1, g3⟩, (hF.at9 (i := 1) rfl).2.2.2⟩
    · exact ⟨⟨⟨(fa hA.1 (by decide) (by decide)).trans a1, (fa hA.1 (by decide) (by decide)).trans a2, (fa hA.2.2.1 (by decide) (by decide)).trans a3, (fa hA.2.2.1 (by decide) (by decide)).trans a4, (fa hA.2.2.1 (by decide) (by decide)).trans a5, (fa hA.2.2.2.2.2.2 (by decide) (by decide)).trans a6, (fa hA.2.2.2.2.2.2 (by decide) (by decide)).trans a7⟩, ⟨t2, t1, b2, b1, (hF.at9 (i := 4) rfl).2.2.2, (hF.at9 (i := 5) rfl).2.2.2, (hF.at9 (i := 3) rfl).2.2.2, g2.sym_ b2 g4⟩, g1, g3⟩, (hF.at9 (i := 7) rfl).2.2.2⟩
  have hMI := MI.frx hMI hA.2.1 hM g hW0 (by decide) (by decide)
  obtain ⟨hXI, t11⟩ := hXT
  have g := g.re (md' := []) (ma' := [])
  refine lv_pop hx hb dL_law_238 rfl ?_
  refine lv_aload_n hx hb dL_law_239 rfl (lv_at hl 1 rfl) ?_
  have hW0 := g.2.2.2.1
  obtain ⟨n, q, V, δ, hn, hq, hRI⟩ := id hMI
  obtain ⟨r1, r2, r3, r4, r5, r6, r7, r8⟩ := id hRI
  have g9 := g.re (md' := [(12, 0), (12, 27), (12, 46), (12, 57), (12, 58), (14, 1), (14, 2), (14, 4), (14, 5), (14, 6), (14, 7), (14, 8), (14, 9), (14, 10), (14, 11), (14, 12), (14, 13), (14, 14), (14, 15), (14, 16), (14, 17), (14, 20), (14, 21), (14, 22), (14, 23), (14, 24), (14, 25), (14, 26), (14, 30), (14, 39), (14, 40), (14, 51), (14, 52), (14, 55), (14, 58), (14, 59)]) (ma' := [157, 158, 159, 160, 161, 162, 163, 164, 165, 166, 167, 168, 169, 170, 171, 172, 173, 174, 175, 176, 177, 178, 179, 180, 181, 182, 183, 184, 185, 186, 187, 188, 189, 190, 191, 192, 193, 194, 195, 196, 197, 198, 199, 200, 201, 202, 203, 204, 205, 206, 207, 208, 209, 210, 211, 213, 214, 228, 229])
  refine g_callZH (hs := [(108, 124, 127, 7)]) (As := []) (rest := []) ⟨hx, hb, hml, hown, hts⟩ (r_X14_classes l dC dI L kd tys f H.size g.2.2.2.1 adK adV am hA.2.1.1 hA.2.1.2 n hn.1 hn.2 q hq.1 hq.2 V δ hRI 602 (Nat.le_refl _) (Fs.cons_ hA.2.1 (by decide) r7 (Fs.cons_ hA.2.1 (by decide) r8 Fs.nil))) (gIL_ t_2359) List.mem_cons_self (Nat.le_of_ble_eq_true rfl) (Nat.le_of_ble_eq_true rfl) (hts _ (gt_ _ t_198)) (hts _ (gt_ _ t_2356)) (hts _ (gt_ _ t_2357)) (hts _ (gt_ _ t_2358)) (by decide +kernel) (pre3VA g9 hK hAm hA.2.1.1 hA.2.1.2 (by decide) (q := (RX14, TX14, 67)) rfl) rfl hl.1 rfl (lv_room (Nat.le_of_ble_eq_true rfl)) dL_law_240 ⟨by show cells + 602 ≤ 601024; omega, by show slots + 3 * 602 ≤ 7293034; omega⟩ g9 hK (by decide) (by decide) (fx' := []) rfl (fun r_2 f H locs k9 hp hM g => ?_)
  have hXI := XI.frm hXI hA hM hW0 (by decide) (by decide)
  obtain ⟨⟨V1, δ1, hor⟩, hk9, h14, -⟩ := hp
  have hMI : MI L kd f am := hor.elim (fun h9 => ⟨n, q, V1, δ1, hn, hq, h9⟩) (fun h9 => ⟨q, n, V1, δ1, hq, hn, h9⟩)
  have hTI : TI f ax am := ⟨0, ⟨by decide, by decide⟩, (md_fix hM hA.1 (by decide) (by decide)).trans t11, h14⟩
  have g := g.re (md' := []) (ma' := [])
  refine lv_pop hx hb dL_law_243 rfl ?_
  refine lv_goto (tgt := 823) hx hb dL_law_244 (by decide) ?_
  exact kk f H locs _ _ k9 (by omega) rfl rfl g hXI hMI hTI

set_option maxHeartbeats 4000000 in
set_option maxRecDepth 100000 in
theorem law_3 {p : Program} {l : Launch} {e : Env} {s : State} {m : MethodId} {below : List Frame} {meth : Method} {c : Code} {b Ls i : Nat} {xs : Nat → Int32} {dC : Nat → ClassId} {dI : Nat → Nat → Nat} {adK adV : Nat → Nat} {L : List Nat} {kd : Nat → Nat} {tys : List (ClassId × FieldType)} {f : Nat → va_E} {H : Heap} {locs : List Loc} {ls : Array Slot} {cells slots : Nat} {Q : State → Prop} {ax am q0 q1 q4 q5 q6 : Nat} (hx : p.tables.exec = Jvm.exec) (hb : c.code = code) (hml : c.maxLocals = 4) (hown : s.vm.findClass R_law = some m.cls) (hts : ∀ w ∈ lw_tbl, w.before #[Value.ref b] s = true) (hX : va_X b Ls xs s s.heap) (hbl : b < s.heap.size) (hbA : ¬ pA L s.heap.size b) (hK : va_K (dC, dI) vwCl tys s) (hAm : ap_ adK adV (pA L s.heap.size) s s.heap) (hA : LA L kd ax am q0 q1 q4 q5 q6) (hi5 : i + 5 < Ls) (hLs : Ls ≤ 3072) (hcb : cells + 602 ≤ 601024 ∧ slots + 1806 ≤ 7293034) (g : G3 (dC, dI) L kd tys s f [] [] f H locs []) (hXI : XI L kd f ax q0 q1 q4 q5 q6) (hMI : MI L kd f am) (hTI : TI f ax am) (hl : lv_has ls 4 [(3, .int (nI i)), (2, .ref am), (1, .ref ax), (0, .ref b)]) (kk : ∀ (f1 : Nat → va_E) (H1 : Heap) (locs1 : List Loc) (cells1 slots1 k : Nat), k ≤ 601 → cells1 = cells + k → slots1 = slots + 3 * k → G3 (dC, dI) L kd tys s f1 [] [] f1 H1 locs1 [] → XI L kd f1 ax q0 q1 q4 q5 q6 → MI L kd f1 am → TI f1 ax am → W p l e room_1 s m #[Value.ref b] below meth c H1 locs1 cells1 slots1 Q (F0 m 823 ls [])) : W p l e room_1 s m #[Value.ref b] below meth c H locs cells slots Q (F0 m 247 ls []) := by
  refine lv_aload_n hx hb dL_law_247 rfl (lv_at hl 2 rfl) ?_
  refine lv_aload_n hx hb dL_law_248 rfl (lv_at hl 3 rfl) ?_
  refine lv_iload_n hx hb dL_law_249 rfl (lv_at hl 0 rfl) ?_
  refine lv_iconst (v := 1) hx hb dL_law_250 (by decide) ?_
  refine lv_iadd hx hb dL_law_251 ?_
  refine lv_topi (fun y_1 ey_1 => ?_)
  refine va_sld hx hb hX hbl hbA g.2.2.1 (law_in (k := 1) ey_1 rfl rfl (by omega) (by omega)) dL_law_252 ?_
  have hW0 := g.2.2.2.1
  obtain ⟨⟨a1, a2, a3, a4, a5, a6, a7⟩, ⟨t1, t2, b1, b2, b3, b4, b5, b6⟩, c1, c2⟩ := id hXI
  have g9 := g.re (md' := []) (ma' := [])
  refine g_calli (va_runV (As := [.int (xs y_1.toNatClampNeg)]) (rest := []) ⟨hx, hb, hml, hown, hts⟩ (r_X11_fault l dC dI L kd tys f H.size g.2.2.2.1 ax hA.1.1 hA.1.2 (xs y_1.toNatClampNeg)) (cwV 1 hts (gVL_ t_1434 t_1435 t_1436 t_182 t_1437) rfl rfl rfl (by decide +kernel) ⟨(Nat.le_of_ble_eq_true rfl), (Nat.le_of_ble_eq_true rfl)⟩) (pre3V g9 hK hA.1.1 hA.1.2 (by decide) (q := (RX11, TX11, 8)) rfl) rfl rfl hl.1 rfl (lv_room (Nat.le_of_ble_eq_true rfl)) dL_law_253 ⟨by show cells + 0 ≤ 601024; omega, by show slots + 0 ≤ 7293034; omega⟩) g9 hK (by decide) (by decide) (fx' := []) rfl (fun r_2 f H locs hp hM g => ?_)
  have hXI := XI.frx hXI hA hM hW0 (RP.frame hM hW0 hA.2.2.2.1.1 hA.2.2.2.1.2 (by decide) (by decide) c1) (by decide) (by decide)
  have hMI := MI.frx hMI hA.2.1 hM g hW0 (by decide) (by decide)
  have hTI := hTI.fr hA.1 hA.2.1 hM (by decide) (by decide)
  have g := g.re (md' := []) (ma' := [])
  refine lv_pop hx hb dL_law_256 rfl ?_
  refine lv_aload_n hx hb dL_law_257 rfl (lv_at hl 1 rfl) ?_
  refine lv_aload_n hx hb dL_law_258 rfl (lv_at hl 3 rfl) ?_
  refine lv_iload_n hx hb dL_law_259 rfl (lv_at hl 0 rfl) ?_
  refine lv_iconst (v := 1) hx hb dL_law_260 (by decide) ?_
  refine lv_iadd hx hb dL_law_261 ?_
  refine lv_topi (fun y_3 ey_3 => ?_)
  refine va_sld hx hb hX hbl hbA g.2.2.1 (law_in (k := 1) ey_3 rfl rfl (by omega) (by omega)) dL_law_262 ?_
  have hW0 := g.2.2.2.1
  obtain ⟨n, q, V, δ, hn, hq, hRI⟩ := id hMI
  obtain ⟨r1, r2, r3, r4, r5, r6, r7, r8⟩ := id hRI
  have g9 := g.re (md' := []) (ma' := [])
  refine g_calli (va_runV (As := [.int (xs y_3.toNatClampNeg)]) (rest := []) ⟨hx, hb, hml, hown, hts⟩ (r_X14_fault l dC dI L kd tys f H.size g.2.2.2.1 am hA.2.1.1 hA.2.1.2 (xs y_3.toNatClampNeg)) (cwV 1 hts (gVL_ t_2566 t_2567 t_2568 t_198 t_2569) rfl rfl rfl (by decide +kernel) ⟨(Nat.le_of_ble_eq_true rfl), (Nat.le_of_ble_eq_true rfl)⟩) (pre3V g9 hK hA.2.1.1 hA.2.1.2 (by decide) (q := (RX14, TX14, 67)) rfl) rfl rfl hl.1 rfl (lv_room (Nat.le_of_ble_eq_true rfl)) dL_law_263 ⟨by show cells + 0 ≤ 601024; omega, by show slots + 0 ≤ 7293034; omega⟩) g9 hK (by decide) (by decide) (fx' := []) rfl (fun r_4 f H locs hp hM g => ?_)
  have hXI := XI.frm hXI hA hM hW0 (by decide) (by decide)
  have hMI : MI L kd f am := ⟨n, q, V, δ, hn, hq, isV.frame hM hW0 hn.1 hn.2 (by decide) (by decide) r1, r2, mOK.frame hM hW0 hn.1 hn.2 (by decide) (by decide) r3, rOK.frame hM hW0 hA.2.1.1 hA.2.1.2 (by decide) (by decide) r4, oOK.frame hM hW0 hA.2.1.1 hA.2.1.2 (by decide) (by decide) r5, apP.call r6 g hn.1 hn.2 hq.1 hq.2 rfl, (md_fix hM hA.2.1 (by decide) (by decide)).trans r7, (md_fix hM hA.2.1 (by decide) (by decide)).trans r8⟩
  have hTI := hTI.fr hA.1 hA.2.1 hM (by decide) (by decide)
  have g := g.re (md' := []) (ma' := [])
  refine lv_pop hx hb dL_law_266 rfl ?_
  refine lv_goto (tgt := 823) hx hb dL_law_267 (by decide) ?_
  exact kk f H locs _ _ 0 (by omega) rfl rfl g hXI hMI hTI

set_option maxHeartbeats 4000000 in
set_option maxRecDepth 100000 in
theorem law_4 {p : Program} {l : Launch} {e : Env} {s : State} {m : MethodId} {below : List Frame} {meth : Method} {c : Code} {b Ls i : Nat} {xs : Nat → Int32} {dC : Nat → ClassId} {dI : Nat → Nat → Nat} {adK adV : Nat → Nat} {L : List Nat} {kd : Nat → Nat} {tys : List (ClassId × FieldType)} {f : Nat → va_E} {H : Heap} {locs : List Loc} {ls : Array Slot} {cells slots : Nat} {Q : State → Prop} {ax am q0 q1 q4 q5 q6 : Nat} (hx : p.tables.exec = Jvm.exec) (hb : c.code = code) (hml : c.maxLocals = 4) (hown : s.vm.findClass R_law = some m.cls) (hts : ∀ w ∈ lw_tbl, w.before #[Value.ref b] s = true) (hX : va_X b Ls xs s s.heap) (hbl : b < s.heap.size) (hbA : ¬ pA L s.heap.size b) (hK : va_K (dC, dI) vwCl tys s) (hAm : ap_ adK adV (pA L s.heap.size) s s.heap) (hA : LA L kd ax am q0 q1 q4 q5 q6) (hi5 : i + 5 < Ls) (hLs : Ls ≤ 3072) (hcb : cells + 602 ≤ 601024 ∧ slots + 1806 ≤ 7293034) (g : G3 (dC, dI) L kd tys s f [] [] f H locs []) (hXI : XI L kd f ax q0 q1 q4 q5 q6) (hMI : MI L kd f am) (hTI : TI f ax am) (hl : lv_has ls 4 [(3, .int (nI i)), (2, .ref am), (1, .ref ax), (0, .ref b)]) (kk : ∀ (f1 : Nat → va_E) (H1 : Heap) (locs1 : List Loc) (cells1 slots1 k : Nat), k ≤ 601 → cells1 = cells + k → slots1 = slots + 3 * k → G3 (dC, dI) L kd tys s f1 [] [] f1 H1 locs1 [] → XI L kd f1 ax q0 q1 q4 q5 q6 → MI L kd f1 am → TI f1 ax am → W p l e room_1 s m #[Value.ref b] below meth c H1 locs1 cells1 slots1 Q (F0 m 823 ls [])) : W p l e room_1 s m #[Value.ref b] below meth c H locs cells slots Q (F0 m 270 ls []) := by
  refine lv_aload_n hx hb dL_law_270 rfl (lv_at hl 2 rfl) ?_
  refine lv_aload_n hx hb dL_law_271 rfl (lv_at hl 3 rfl) ?_
  refine lv_iload_n hx hb dL_law_272 rfl (lv_at hl 0 rfl) ?_
  refine lv_iconst (v := 1) hx hb dL_law_273 (by decide) ?_
  refine lv_iadd hx hb dL_law_274 ?_
  refine lv_topi (fun y_1 ey_1 => ?_)
  refine va_sld hx hb hX hbl hbA g.2.2.1 (law_in (k := 1) ey_1 rfl rfl (by omega) (by omega)) dL_law_275 ?_
  refine lv_aload_n hx hb dL_law_276 rfl (lv_at hl 3 rfl) ?_
  refine lv_iload_n hx hb dL_law_277 rfl (lv_at hl 0 rfl) ?_
  refine lv_iconst (v := 2) hx hb dL_law_278 (by decide) ?_
  refine lv_iadd hx hb dL_law_279 ?_
  refine lv_topi (fun y_2 ey_2 => ?_)
  refine va_sld hx hb hX hbl hbA g.2.2.1 (law_in (k := 2) ey_2 rfl rfl (by omega) (by omega)) dL_law_280 ?_
  have hW0 := g.2.2.2.1
  obtain ⟨⟨a1, a2, a3, a4, a5, a6, a7⟩, ⟨t1, t2, b1, b2, b3, b4, b5, b6⟩, c1, c2⟩ := id hXI
  have g9 := g.re (md' := []) (ma' := [])
  refine g_calli (va_runV (As := [.int (xs y_1.toNatClampNeg), .int (xs y_2.toNatClampNeg)]) (rest := []) ⟨hx, hb, hml, hown, hts⟩ (r_X11_about l dC dI L kd tys f H.size g.2.2.2.1 ax hA.1.1 hA.1.2 (xs y_1.toNatClampNeg) (xs y_2.toNatClampNeg)) (cwV 2 hts (gVL_ t_1438 t_1439 t_1440 t_182 t_1441) rfl rfl rfl (by decide +kernel) ⟨(Nat.le_of_ble_eq_true rfl), (Nat.le_of_ble_eq_true rfl)⟩) (pre3V g9 hK hA.1.1 hA.1.2 (by decide) (q := (RX11, TX11, 8)) rfl) rfl rfl hl.1 rfl (lv_room (Nat.le_of_ble_eq_true rfl)) dL_law_281 ⟨by show cells + 0 ≤ 601024; omega, by show slots + 0 ≤ 7293034; omega⟩) g9 hK (by decide) (by decide) (fx' := []) rfl (fun r_3 f H locs hp hM g => ?_)
  have hXI := XI.frx hXI hA hM hW0 (RP.frame hM hW0 hA.2.2.2.1.1 hA.2.2.2.1.2 (by decide) (by decide) c1) (by decide) (by decide)
  have hMI := MI.frx hMI hA.2.1 hM g hW0 (by decide) (by decide)
  have hTI := hTI.fr hA.1 hA.2.1 hM (by decide) (by decide)
  have g := g.re (md' := []) (ma' := [])
  refine lv_pop hx hb dL_law_284 rfl ?_
  refine lv_aload_n hx hb dL_law_285 rfl (lv_at hl 1 rfl) ?_
  refine lv_aload_n hx hb dL_law_286 rfl (lv_at hl 3 rfl) ?_
  refine lv_iload_n hx hb dL_law_287 rfl (lv_at hl 0 rfl) ?_
  refine lv_iconst (v := 1) hx hb dL_law_288 (by decide) ?_
  refine lv_iadd hx hb dL_law_289 ?_
  refine lv_topi (fun y_4 ey_4 => ?_)
  refine va_sld hx hb hX hbl hbA g.2.2.1 (law_in (k := 1) ey_4 rfl rfl (by omega) (by omega)) dL_law_290 ?_
  refine lv_aload_n hx hb dL_law_291 rfl (lv_at hl 3 rfl) ?_
  refine lv_iload_n hx hb dL_law_292 rfl (lv_at hl 0 rfl) ?_
  refine lv_iconst (v := 2) hx hb dL_law_293 (by decide) ?_
  refine lv_iadd hx hb dL_law_294 ?_
  refine lv_topi (fun y_5 ey_5 => ?_)
  refine va_sld hx hb hX hbl hbA g.2.2.1 (law_in (k := 2) ey_5 rfl rfl (by omega) (by omega)) dL_law_295 ?_
  have hW0 := g.2.2.2.1
  obtain ⟨n, q, V, δ, hn, hq, hRI⟩ := id hMI
  obtain ⟨r1, r2, r3, r4, r5, r6, r7, r8⟩ := id hRI
  have g9 := g.re (md' := []) (ma' := [])
  refine g_calli (va_runV (As := [.int (xs y_4.toNatClampNeg), .int (xs y_5.toNatClampNeg)]) (rest := []) ⟨hx, hb, hml, hown, hts⟩ (r_X14_about l dC dI L kd tys f H.size g.2.2.2.1 am hA.2.1.1 hA.2.1.2 (xs y_4.toNatClampNeg) (xs y_5.toNatClampNeg)) (cwV 2 hts (gVL_ t_2570 t_2571 t_2572 t_198 t_2573) rfl rfl rfl (by decide +kernel) ⟨(Nat.le_of_ble_eq_true rfl), (Nat.le_of_ble_eq_true rfl)⟩) (pre3V g9 hK hA.2.1.1 hA.2.1.2 (by decide) (q := (RX14, TX14, 67)) rfl) rfl rfl hl.1 rfl (lv_room (Nat.le_of_ble_eq_true rfl)) dL_law_296 ⟨by show cells + 0 ≤ 601024; omega, by show slots + 0 ≤ 7293034; omega⟩) g9 hK (by decide) (by decide) (fx' := []) rfl (fun r_6 f H locs hp hM g => ?_)
  have hXI := XI.frm hXI hA hM hW0 (by decide) (by decide)
  have hMI : MI L kd f am := ⟨n, q, V, δ, hn, hq, isV.frame hM hW0 hn.1 hn.2 (by decide) (by decide) r1, r2, mOK.frame hM hW0 hn.1 hn.2 (by decide) (by decide) r3, rOK.frame hM hW0 hA.2.1.1 hA.2.1.2 (by decide) (by decide) r4, oOK.frame hM hW0 hA.2.1.1 hA.2.1.2 (by decide) (by decide) r5, apP.call r6 g hn.1 hn.2 hq.1 hq.2 rfl, (md_fix hM hA.2.1 (by decide) (by decide)).trans r7, (md_fix hM hA.2.1 (by decide) (by decide)).trans r8⟩
  have hTI := hTI.fr hA.1 hA.2.1 hM (by decide) (by decide)
  have g := g.re (md' := []) (ma' := [])
  refine lv_pop hx hb dL_law_299 rfl ?_
  refine lv_goto (tgt := 823) hx hb dL_law_300 (by decide) ?_
  exact kk f H locs _ _ 0 (by omega) rfl rfl g hXI hMI hTI

set_option maxHeartbeats 4000000 in
set_option maxRecDepth 100000 in
theorem law_5 {p : Program} {l : Launch} {e : Env} {s : State} {m : MethodId} {below : List Frame} {meth : Method} {c : Code} {b Ls i : Nat} {xs : Nat → Int32} {dC : Nat → ClassId} {dI : Nat → Nat → Nat} {adK adV : Nat → Nat} {L : List Nat} {kd : Nat → Nat} {tys : List (ClassId × FieldType)} {f : Nat → va_E} {H : Heap} {locs : List Loc} {ls : Array Slot} {cells slots : Nat} {Q : State → Prop} {ax am q0 q1 q4 q5 q6 : Nat} (hx : p.tables.exec = Jvm.exec) (hb : c.code = code) (hml : c.maxLocals = 4) (hown : s.vm.findClass R_law = some m.cls) (hts : ∀ w ∈ lw_tbl, w.before #[Value.ref b] s = true) (hX : va_X b Ls xs s s.heap) (hbl : b < s.heap.size) (hbA : ¬ pA L s.heap.size b) (hK : va_K (dC, dI) vwCl tys s) (hAm : ap_ adK adV (pA L s.heap.size) s s.heap) (hA : LA L kd ax am q0 q1 q4 q5 q6) (hi5 : i + 5 < Ls) (hLs : Ls ≤ 3072) (hcb : cells + 602 ≤ 601024 ∧ slots + 1806 ≤ 7293034) (g : G3 (dC, dI) L kd tys s f [] [] f H locs []) (hXI : XI L kd f ax q0 q1 q4 q5 q6) (hMI : MI L kd f am) (hTI : TI f ax am) (hl : lv_has ls 4 [(3, .int (nI i)), (2, .ref am), (1, .ref ax), (0, .ref b)]) (kk : ∀ (f1 : Nat → va_E) (H1 : Heap) (locs1 : List Loc) (cells1 slots1 k : Nat), k ≤ 601 → cells1 = cells + k → slots1 = slots + 3 * k → G3 (dC, dI) L kd tys s f1 [] [] f1 H1 locs1 [] → XI L kd f1 ax q0 q1 q4 q5 q6 → MI L kd f1 am → TI f1 ax am → W p l e room_1 s m #[Value.ref b] below meth c H1 locs1 cells1 slots1 Q (F0 m 823 ls [])) : W p l e room_1 s m #[Value.ref b] below meth c H locs cells slots Q (F0 m 303 ls []) := by
  refine lv_aload_n hx hb dL_law_303 rfl (lv_at hl 2 rfl) ?_
  refine lv_aload_n hx hb dL_law_304 rfl (lv_at hl 3 rfl) ?_
  refine lv_iload_n hx hb dL_law_305 rfl (lv_at hl 0 rfl) ?_
  refine lv_iconst (v := 1) hx hb dL_law_306 (by decide) ?_
  refine lv_iadd hx hb dL_law_307 ?_
  refine lv_topi (fun y_1 ey_1 => ?_)
  refine va_sld hx hb hX hbl hbA g.2.2.1 (law_in (k := 1) ey_1 rfl rfl (by omega) (by omega)) dL_law_308 ?_
  refine lv_aload_n hx hb dL_law_309 rfl (lv_at hl 3 rfl) ?_
  refine lv_iload_n hx hb dL_law_310 rfl (lv_at hl 0 rfl) ?_
  refine lv_iconst (v := 2) hx hb dL_law_311 (by decide) ?_
  refine lv_iadd hx hb dL_law_312 ?_
  refine lv_topi (fun y_2 ey_2 => ?_)
  refine va_sld hx hb hX hbl hbA g.2.2.1 (law_in (k := 2) ey_2 rfl rfl (by omega) (by omega)) dL_law_313 ?_
  refine lv_aload_n hx hb dL_law_314 rfl (lv_at hl 3 rfl) ?_
  refine lv_iload_n hx hb dL_law_315 rfl (lv_at hl 0 rfl) ?_
  refine lv_iconst (v := 3) hx hb dL_law_316 (by decide) ?_
  refine lv_iadd hx hb dL_law_317 ?_
  refine lv_topi (fun y_3 ey_3 => ?_)
  refine va_sld hx hb hX hbl hbA g.2.2.1 (law_in (k := 3) ey_3 rfl rfl (by omega) (by omega)) dL_law_318 ?_
  have hW0 := g.2.2.2.1
  obtain ⟨⟨a1, a2, a3, a4, a5, a6, a7⟩, ⟨t1, t2, b1, b2, b3, b4, b5, b6⟩, c1, c2⟩ := id hXI
  have g9 := g.re (md' := []) (ma' := [])
  refine g_calli (va_runV (As := [.int (xs y_1.toNatClampNeg), .int (xs y_2.toNatClampNeg), .int (xs y_3.toNatClampNeg)]) (rest := []) ⟨hx, hb, hml, hown, hts⟩ (r_X11_member l dC dI L kd tys f H.size g.2.2.2.1 ax hA.1.1 hA.1.2 (xs y_1.toNatClampNeg) (xs y_2.toNatClampNeg) (xs y_3.toNatClampNeg)) (cwV 3 hts (gVL_ t_1443 t_1444 t_1445 t_182 t_1446) rfl rfl rfl (by decide +kernel) ⟨(Nat.le_of_ble_eq_true rfl), (Nat.le_of_ble_eq_true rfl)⟩) (pre3V g9 hK hA.1.1 hA.1.2 (by decide) (q := (RX11, TX11, 8)) rfl) rfl rfl hl.1 rfl (lv_room (Nat.le_of_ble_eq_true rfl)) dL_law_319 ⟨by show cells + 0 ≤ 601024; omega, by show slots + 0 ≤ 7293034; omega⟩) g9 hK (by decide) (by decide) (fx' := []) rfl (fun r_4 f H locs hp hM g => ?_)
  have hXI := XI.frx hXI hA hM hW0 (RP.frame hM hW0 hA.2.2.2.1.1 hA.2.2.2.1.2 (by decide) (by decide) c1) (by decide) (by decide)
  have hMI := MI.frx hMI hA.2.1 hM g hW0 (by decide) (by decide)
  have hTI := hTI.fr hA.1 hA.2.1 hM (by decide) (by decide)
  have g := g.re (md' := []) (ma' := [])
  refine lv_pop hx hb dL_law_322 rfl ?_
  refine lv_aload_n hx hb dL_law_323 rfl (lv_at hl 1 rfl) ?_
  refine lv_aload_n hx hb dL_law_324 rfl (lv_at hl 3 rfl) ?_
  refine lv_iload_n hx hb dL_law_325 rfl (lv_at hl 0 rfl) ?_
  refine lv_iconst (v := 1) hx hb dL_law_326 (by decide) ?_
  refine lv_iadd hx hb dL_law_327 ?_
  refine lv_topi (fun y_5 ey_5 => ?_)
  refine va_sld hx hb hX hbl hbA g.2.2.1 (law_in (k := 1) ey_5 rfl rfl (by omega) (by omega)) dL_law_328 ?_
  refine lv_aload_n hx hb dL_law_329 rfl (lv_at hl 3 rfl) ?_
  refine lv_iload_n hx hb dL_law_330 rfl (lv_at hl 0 rfl) ?_
  refine lv_iconst (v := 2) hx hb dL_law_331 (by decide) ?_
  refine lv_iadd hx hb dL_law_332 ?_
  refine lv_topi (fun y_6 ey_6 => ?_)
  refine va_sld hx hb hX hbl hbA g.2.2.1 (law_in (k := 2) ey_6 rfl rfl (by omega) (by omega)) dL_law_333 ?_
  refine lv_aload_n hx hb dL_law_334 rfl (lv_at hl 3 rfl) ?_
  refine lv_iload_n hx hb dL_law_335 rfl (lv_at hl 0 rfl) ?_
  refine lv_iconst (v := 3) hx hb dL_law_336 (by decide) ?_
  refine lv_iadd hx hb dL_law_337 ?_
  refine lv_topi (fun y_7 ey_7 => ?_)
  refine va_sld hx hb hX hbl hbA g.2.2.1 (law_in (k := 3) ey_7 rfl rfl (by omega) (by omega)) dL_law_338 ?_
  have hW0 := g.2.2.2.1
  obtain ⟨n, q, V, δ, hn, hq, hRI⟩ := id hMI
  obtain ⟨r1, r2, r3, r4, r5, r6, r7, r8⟩ := id hRI
  have g9 := g.re (md' := []) (ma' := [])
  refine g_calli (va_runV (As := [.int (xs y_5.toNatClampNeg), .int (xs y_6.toNatClampNeg), .int (xs y_7.toNatClampNeg)]) (rest := []) ⟨hx, hb, hml, hown, hts⟩ (r_X14_member l dC dI L kd tys f H.size g.2.2.2.1 am hA.2.1.1 hA.2.1.2 (xs y_5.toNatClampNeg) (xs y_6.toNatClampNeg) (xs y_7.toNatClampNeg)) (cwV 3 hts (gVL_ t_2578 t_2579 t_2580 t_198 t_2581) rfl rfl rfl (by decide +kernel) ⟨(Nat.le_of_ble_eq_true rfl), (Nat.le_of_ble_eq_true rfl)⟩) (pre3V g9 hK hA.2.1.1 hA.2.1.2 (by decide) (q := (RX14, TX14, 67)) rfl) rfl rfl hl.1 rfl (lv_room (Nat.le_of_ble_eq_true rfl)) dL_law_339 ⟨by show cells + 0 ≤ 601024; omega, by show slots + 0 ≤ 7293034; omega⟩) g9 hK (by decide) (by decide) (fx' := []) rfl (fun r_8 f H locs hp hM g => ?_)
  have hXI := XI.frm hXI hA hM hW0 (by decide) (by decide)
  have hMI : MI L kd f am := ⟨n, q, V, δ, hn, hq, isV.frame hM hW0 hn.1 hn.2 (by decide) (by decide) r1, r2, mOK.frame hM hW0 hn.1 hn.2 (by decide) (by decide) r3, rOK.frame hM hW0 hA.2.1.1 hA.2.1.2 (by decide) (by decide) r4, oOK.frame hM hW0 hA.2.1.1 hA.2.1.2 (by decide) (by decide) r5, apP.call r6 g hn.1 hn.2 hq.1 hq.2 rfl, (md_fix hM hA.2.1 (by decide) (by decide)).trans r7, (md_fix hM hA.2.1 (by decide) (by decide)).trans r8⟩
  have hTI := hTI.fr hA.1 hA.2.1 hM (by decide) (by decide)
  have g := g.re (md' := []) (ma' := [])
  refine lv_pop hx hb dL_law_342 rfl ?_
  refine lv_goto (tgt := 823) hx hb dL_law_343 (by decide) ?_
  exact kk f H locs _ _ 0 (by omega) rfl rfl g hXI hMI hTI

set_option maxHeartbeats 4000000 in
set_option maxRecDepth 100000 in
theorem law_6 {p : Program} {l : Launch} {e : Env} {s : State} {m : MethodId} {below : List Frame} {meth : Method} {c : Code} {b Ls i : Nat} {xs : Nat → Int32} {dC : Nat → ClassId} {dI : Nat → Nat → Nat} {adK adV : Nat → Nat} {L : List Nat} {kd : Nat → Nat} {tys : List (ClassId × FieldType)} {f : Nat → va_E} {H : Heap} {locs : List Loc} {ls : Array Slot} {cells slots : Nat} {Q : State → Prop} {ax am q0 q1 q4 q5 q6 : Nat} (hx : p.tables.exec = Jvm.exec) (hb : c.code = code) (hml : c.maxLocals = 4) (hown : s.vm.findClass R_law = some m.cls) (hts : ∀ w ∈ lw_tbl, w.before #[Value.ref b] s = true) (hX : va_X b Ls xs s s.heap) (hbl : b < s.heap.size) (hbA : ¬ pA L s.heap.size b) (hK : va_K (dC, dI) vwCl tys s) (hAm : ap_ adK adV (pA L s.heap.size) s s.heap) (hA : LA L kd ax am q0 q1 q4 q5 q6) (hi5 : i + 5 < Ls) (hLs : Ls ≤ 3072) (hcb : cells + 602 ≤ 601024 ∧ slots + 1806 ≤ 7293034) (g : G3 (dC, dI) L kd tys s f [] [] f H locs []) (hXI : XI L kd f ax q0 q1 q4 q5 q6) (hMI : MI L kd f am) (hTI : TI f ax am) (hl : lv_has ls 4 [(3, .int (nI i)), (2, .ref am), (1, .ref ax), (0, .ref b)]) (kk : ∀ (f1 : Nat → va_E) (H1 : Heap) (locs1 : List Loc) (cells1 slots1 k : Nat), k ≤ 601 → cells1 = cells + k → slots1 = slots + 3 * k → G3 (dC, dI) L kd tys s f1 [] [] f1 H1 locs1 [] → XI L kd f1 ax q0 q1 q4 q5 q6 → MI L kd f1 am → TI f1 ax am → W p l e room_1 s m #[Value.ref b] below meth c H1 locs1 cells1 slots1 Q (F0 m 823 ls [])) : W p l e room_1 s m #[Value.ref b] below meth c H locs cells slots Q (F0 m 346 ls []) := by
  refine lv_aload_n hx hb dL_law_346 rfl (lv_at hl 2 rfl) ?_
  refine lv_aload_n hx hb dL_law_347 rfl (lv_at hl 3 rfl) ?_
  refine lv_iload_n hx hb dL_law_348 rfl (lv_at hl 0 rfl) ?_
  refine lv_iconst (v := 1) hx hb dL_law_349 (by decide) ?_
  refine lv_iadd hx hb dL_law_350 ?_
  refine lv_topi (fun y_1 ey_1 => ?_)
  refine va_sld hx hb hX hbl hbA g.2.2.1 (law_in (k := 1) ey_1 rfl rfl (by omega) (by omega)) dL_law_351 ?_
  refine lv_aload_n hx hb dL_law_352 rfl (lv_at hl 3 rfl) ?_
  refine lv_iload_n hx hb dL_law_353 rfl (lv_at hl 0 rfl) ?_
  refine lv_iconst (v := 2) hx hb dL_law_354 (by decide) ?_
  refine lv_iadd hx hb dL_law_355 ?_
  refine lv_topi (fun y_2 ey_2 => ?_)
  refine va_sld hx hb hX hbl hbA g.2.2.1 (law_in (k := 2) ey_2 rfl rfl (by omega) (by omega)) dL_law_356 ?_
  have hW0 := g.2.2.2.1
  obtain ⟨⟨a1, a2, a3, a4, a5, a6, a7⟩, ⟨t1, t2, b1, b2, b3, b4, b5, b6⟩, c1, c2⟩ := id hXI
  have g9 := g.re (md' := [(9, 12)]) (ma' := [])
  refine g_calli (va_runV (As := [.int (xs y_1.toNatClampNeg), .int (xs y_2.toNatClampNeg)]) (rest := []) ⟨hx, hb, hml, hown, hts⟩ (r_X11_model l dC dI L kd tys f H.size g.2.2.2.1 ax hA.1.1 hA.1.2 (xs y_1.toNatClampNeg) (xs y_2.toNatClampNeg)) (cwV 2 hts (gVL_ t_1456 t_1457 t_1458 t_182 t_1459) rfl rfl rfl (by decide +kernel) ⟨(Nat.le_of_ble_eq_true rfl), (Nat.le_of_ble_eq_true rfl)⟩) (pre3V g9 hK hA.1.1 hA.1.2 (by decide) (q := (RX11, TX11, 8)) rfl) rfl rfl hl.1 rfl (lv_room (Nat.le_of_ble_eq_true rfl)) dL_law_357 ⟨by show cells + 0 ≤ 601024; omega, by show slots + 0 ≤ 7293034; omega⟩) g9 hK (by decide) (by decide) (fx' := []) rfl (fun r_3 f H locs hp hM g => ?_)
  have hXI := XI.frx hXI hA hM hW0 (RP.frame hM hW0 hA.2.2.2.1.1 hA.2.2.2.1.2 (by decide) (by decide) c1) (by decide) (by decide)
  have hMI := MI.frx hMI hA.2.1 hM g hW0 (by decide) (by decide)
  have hTI := hTI.fr hA.1 hA.2.1 hM (by decide) (by decide)
  have g := g.re (md' := []) (ma' := [])
  refine lv_pop hx hb dL_law_360 rfl ?_
  refine lv_aload_n hx hb dL_law_361 rfl (lv_at hl 1 rfl) ?_
  refine lv_aload_n hx hb dL_law_362 rfl (lv_at hl 3 rfl) ?_
  refine lv_iload_n hx hb dL_law_363 rfl (lv_at hl 0 rfl) ?_
  refine lv_iconst (v := 1) hx hb dL_law_364 (by decide) ?_
  refine lv_iadd hx hb dL_law_365 ?_
  refine lv_topi (fun y_4 ey_4 => ?_)
  refine va_sld hx hb hX hbl hbA g.2.2.1 (law_in (k := 1) ey_4 rfl rfl (by omega) (by omega)) dL_law_366 ?_
  refine lv_aload_n hx hb dL_law_367 rfl (lv_at hl 3 rfl) ?_
  refine lv_iload_n hx hb dL_law_368 rfl (lv_at hl 0 rfl) ?_
  refine lv_iconst (v := 2) hx hb dL_law_369 (by decide) ?_
  refine lv_iadd hx hb dL_law_370 ?_
  refine lv_topi (fun y_5 ey_5 => ?_)
  refine va_sld hx hb hX hbl hbA g.2.2.1 (law_in (k := 2) ey_5 rfl rfl (by omega) (by omega)) dL_law_371 ?_
  have hW0 := g.2.2.2.1
  obtain ⟨n, q, V, δ, hn, hq, hRI⟩ := id hMI
  obtain ⟨r1, r2, r3, r4, r5, r6, r7, r8⟩ := id hRI
  have g9 := g.re (md' := []) (ma' := [211])
  refine g_calli (va_runV (As := [.int (xs y_4.toNatClampNeg), .int (xs y_5.toNatClampNeg)]) (rest := []) ⟨hx, hb, hml, hown, hts⟩ (r_X14_model l dC dI L kd tys f H.size g.2.2.2.1 am hA.2.1.1 hA.2.1.2 (xs y_4.toNatClampNeg) (xs y_5.toNatClampNeg) n hn.1 hn.2 V δ r2 r1 r3 (Fs.cons_ hA.2.1 (by decide) r7 Fs.nil)) (cwV 2 hts (gVL_ t_2582 t_2583 t_2584 t_198 t_2585) rfl rfl rfl (by decide +kernel) ⟨(Nat.le_of_ble_eq_true rfl), (Nat.le_of_ble_eq_true rfl)⟩) (pre3V g9 hK hA.2.1.1 hA.2.1.2 (by decide) (q := (RX14, TX14, 67)) rfl) rfl rfl hl.1 rfl (lv_room (Nat.le_of_ble_eq_true rfl)) dL_law_372 ⟨by show cells + 0 ≤ 601024; omega, by show slots + 0 ≤ 7293034; omega⟩) g9 hK (by decide) (by decide) (fx' := []) rfl (fun r_6 f H locs hp hM g => ?_)
  have hXI := XI.frm hXI hA hM hW0 (by decide) (by decide)
  have hMI : MI L kd f am := ⟨n, q, V, δ, hn, hq, isV.frame hM hW0 hn.1 hn.2 (by decide) (by decide) r1, r2, (hp.elim (fun h9 => h9.1) (fun h9 => h9.1)), rOK.frame hM hW0 hA.2.1.1 hA.2.1.2 (by decide) (by decide) r4, oOK.frame hM hW0 hA.2.1.1 hA.2.1.2 (by decide) (by decide) r5, apP.call r6 g hn.1 hn.2 hq.1 hq.2 rfl, (md_fix hM hA.2.1 (by decide) (by decide)).trans r7, (md_fix hM hA.2.1 (by decide) (by decide)).trans r8⟩
  have hTI := hTI.fr hA.1 hA.2.1 hM (by decide) (by decide)
  have g := g.re (md' := []) (ma' := [])
  refine lv_pop hx hb dL_law_375 rfl ?_
  refine lv_goto (tgt := 823) hx hb dL_law_376 (by decide) ?_
  exact kk f H locs _ _ 0 (by omega) rfl rfl g hXI hMI hTI

set_option maxHeartbeats 4000000 in
set_option maxRecDepth 100000 in
theorem law_7 {p : Program} {l : Launch} {e : Env} {s : State} {m : MethodId} {below : List Frame} {meth : Method} {c : Code} {b Ls i : Nat} {xs : Nat → Int32} {dC : Nat → ClassId} {dI : Nat → Nat → Nat} {adK adV : Nat → Nat} {L : List Nat} {kd : Nat → Nat} {tys : List (ClassId × FieldType)} {f : Nat → va_E} {H : Heap} {locs : List Loc} {ls : Array Slot} {cells slots : Nat} {Q : State → Prop} {ax am q0 q1 q4 q5 q6 : Nat} (hx : p.tables.exec = Jvm.exec) (hb : c.code = code) (hml : c.maxLocals = 4) (hown : s.vm.findClass R_law = some m.cls) (hts : ∀ w ∈ lw_tbl, w.before #[Value.ref b] s = true) (hX : va_X b Ls xs s s.heap) (hbl : b < s.heap.size) (hbA : ¬ pA L s.heap.size b) (hK : va_K (dC, dI) vwCl tys s) (hAm : ap_ adK adV (pA L s.heap.size) s s.heap) (hA : LA L kd ax am q0 q1 q4 q5 q6) (hi5 : i + 5 < Ls) (hLs : Ls ≤ 3072) (hcb : cells + 602 ≤ 601024 ∧ slots + 1806 ≤ 7293034) (g : G3 (dC, dI) L kd tys s f [] [] f H locs []) (hXI : XI L kd f ax q0 q1 q4 q5 q6) (hMI : MI L kd f am) (hTI : TI f ax am) (hl : lv_has ls 4 [(3, .int (nI i)), (2, .ref am), (1, .ref ax), (0, .ref b)]) (kk : ∀ (f1 : Nat → va_E) (H1 : Heap) (locs1 : List Loc) (cells1 slots1 k : Nat), k ≤ 601 → cells1 = cells + k → slots1 = slots + 3 * k → G3 (dC, dI) L kd tys s f1 [] [] f1 H1 locs1 [] → XI L kd f1 ax q0 q1 q4 q5 q6 → MI L kd f1 am → TI f1 ax am → W p l e room_1 s m #[Value.ref b] below meth c H1 locs1 cells1 slots1 Q (F0 m 823 ls [])) : W p l e room_1 s m #[Value.ref b] below meth c H locs cells slots Q (F0 m 379 ls []) := by
  refine lv_aload_n hx hb dL_law_379 rfl (lv_at hl 2 rfl) ?_
  have hW0 := g.2.2.2.1
  obtain ⟨⟨a1, a2, a3, a4, a5, a6, a7⟩, ⟨t1, t2, b1, b2, b3, b4, b5, b6⟩, c1, c2⟩ := id hXI
  have g9 := g.re (md' := [(3, 0), (3, 4), (10, 8)]) (ma' := [])
  refine g_calli (va_runV (As := []) (rest := []) ⟨hx, hb, hml, hown, hts⟩ (r_X11_clear l dC dI L kd tys f H.size g.2.2.2.1 ax hA.1.1 hA.1.2 q1 hA.2.2.2.1.1 hA.2.2.2.1.2 c1 (Fs.cons_ hA.1 (by decide) a2 Fs.nil)) (cwV 0 hts (gVL_ t_1460 t_1461 t_1462 t_182 t_1463) rfl rfl rfl (by decide +kernel) ⟨(Nat.le_of_ble_eq_true rfl), (Nat.le_of_ble_eq_true rfl)⟩) (pre3V g9 hK hA.1.1 hA.1.2 (by decide) (q := (RX11, TX11, 8)) rfl) rfl rfl hl.1 rfl (lv_room (Nat.le_of_ble_eq_true rfl)) dL_law_380 ⟨by show cells + 0 ≤ 601024; omega, by show slots + 0 ≤ 7293034; omega⟩) g9 hK (by decide) (by decide) (fx' := []) rfl (fun r_1 f H locs hp hM g => ?_)
  have hXI := XI.frx hXI hA hM hW0 hp.1 (by decide) (by decide)
  have hMI := MI.frx hMI hA.2.1 hM g hW0 (by decide) (by decide)
  have hTI := hTI.fr hA.1 hA.2.1 hM (by decide) (by decide)
  have g := g.re (md' := []) (ma' := [])
  refine lv_pop hx hb dL_law_383 rfl ?_
  refine lv_aload_n hx hb dL_law_384 rfl (lv_at hl 1 rfl) ?_
  have hW0 := g.2.2.2.1
  obtain ⟨n, q, V, δ, hn, hq, hRI⟩ := id hMI
  obtain ⟨r1, r2, r3, r4, r5, r6, r7, r8⟩ := id hRI
  have g9 := g.re (md' := [(14, 51), (14, 52), (14, 53)]) (ma' := [])
  refine g_calli (va_runV (As := []) (rest := []) ⟨hx, hb, hml, hown, hts⟩ (r_X14_clear l dC dI L kd tys f H.size g.2.2.2.1 am hA.2.1.1 hA.2.1.2) (cwV 0 hts (gVL_ t_2586 t_2587 t_2588 t_198 t_2589) rfl rfl rfl (by decide +kernel) ⟨(Nat.le_of_ble_eq_true rfl), (Nat.le_of_ble_eq_true rfl)⟩) (pre3V g9 hK hA.2.1.1 hA.2.1.2 (by decide) (q := (RX14, TX14, 67)) rfl) rfl rfl hl.1 rfl (lv_room (Nat.le_of_ble_eq_true rfl)) dL_law_385 ⟨by show cells + 0 ≤ 601024; omega, by show slots + 0 ≤ 7293034; omega⟩) g9 hK (by decide) (by decide) (fx' := []) rfl (fun r_2 f H locs hp hM g => ?_)
  have hXI := XI.frm hXI hA hM hW0 (by decide) (by decide)
  have hMI : MI L kd f am := ⟨n, q, V, δ, hn, hq, isV.frame hM hW0 hn.1 hn.2 (by decide) (by decide) r1, r2, mOK.frame hM hW0 hn.1 hn.2 (by decide) (by decide) r3, (rOK.zero isW.refl (g.more hp.2) 2 1 rfl rfl), oOK.frame hM hW0 hA.2.1.1 hA.2.1.2 (by decide) (by decide) r5, apP.call r6 g hn.1 hn.2 hq.1 hq.2 rfl, (md_fix hM hA.2.1 (by decide) (by decide)).trans r7, (md_fix hM hA.2.1 (by decide) (by decide)).trans r8⟩
  have hTI := hTI.fr hA.1 hA.2.1 hM (by decide) (by decide)
  have g := g.re (md' := []) (ma' := [])
  refine lv_pop hx hb dL_law_388 rfl ?_
  refine lv_goto (tgt := 823) hx hb dL_law_389 (by decide) ?_
  exact kk f H locs _ _ 0 (by omega) rfl rfl g hXI hMI hTI

set_option maxHeartbeats 4000000 in
set_option maxRecDepth 100000 in
theorem law_8 {p : Program} {l : Launch} {e : Env} {s : State} {m : MethodId} {below : List Frame} {meth : Method} {c : Code} {b Ls i : Nat} {xs : Nat → Int32} {dC : Nat → ClassId} {dI : Nat → Nat → Nat} {adK adV : Nat → Nat} {L : List Nat} {kd : Nat → Nat} {tys : List (ClassId × FieldType)} {f : Nat → va_E} {H : Heap} {locs : List Loc} {ls : Array Slot} {cells slots : Nat} {Q : State → Prop} {ax am q0 q1 q4 q5 q6 : Nat} (hx : p.tables.exec = Jvm.exec) (hb : c.code = code) (hml : c.maxLocals = 4) (hown : s.vm.findClass R_law = some m.cls) (hts : ∀ w ∈ lw_tbl, w.before #[Value.ref b] s = true) (hX : va_X b Ls xs s s.heap) (hbl : b < s.heap.size) (hbA : ¬ pA L s.heap.size b) (hK : va_K (dC, dI) vwCl tys s) (hAm : ap_ adK adV (pA L s.heap.size) s s.heap) (hA : LA L kd ax am q0 q1 q4 q5 q6) (hi5 : i + 5 < Ls) (hLs : Ls ≤ 3072) (hcb : cells + 602 ≤ 601024 ∧ slots + 1806 ≤ 7293034) (g : G3 (dC, dI) L kd tys s f [] [] f H locs []) (hXI : XI L kd f ax q0 q1 q4 q5 q6) (hMI : MI L kd f am) (hTI : TI f ax am) (hl : lv_has ls 4 [(3, .int (nI i)), (2, .ref am), (1, .ref ax), (0, .ref b)]) (kk : ∀ (f1 : Nat → va_E) (H1 : Heap) (locs1 : List Loc) (cells1 slots1 k : Nat), k ≤ 601 → cells1 = cells + k → slots1 = slots + 3 * k → G3 (dC, dI) L kd tys s f1 [] [] f1 H1 locs1 [] → XI L kd f1 ax q0 q1 q4 q5 q6 → MI L kd f1 am → TI f1 ax am → W p l e room_1 s m #[Value.ref b] below meth c H1 locs1 cells1 slots1 Q (F0 m 823 ls [])) : W p l e room_1 s m #[Value.ref b] below meth c H locs cells slots Q (F0 m 392 ls []) := by
  refine lv_aload_n hx hb dL_law_392 rfl (lv_at hl 2 rfl) ?_
  refine lv_aload_n hx hb dL_law_393 rfl (lv_at hl 3 rfl) ?_
  refine lv_iload_n hx hb dL_law_394 rfl (lv_at hl 0 rfl) ?_
  refine lv_iconst (v := 1) hx hb dL_law_395 (by decide) ?_
  refine lv_iadd hx hb dL_law_396 ?_
  refine lv_topi (fun y_1 ey_1 => ?_)
  refine va_sld hx hb hX hbl hbA g.2.2.1 (law_in (k := 1) ey_1 rfl rfl (by omega) (by omega)) dL_law_397 ?_
  have hW0 := g.2.2.2.1
  obtain ⟨⟨a1, a2, a3, a4, a5, a6, a7⟩, ⟨t1, t2, b1, b2, b3, b4, b5, b6⟩, c1, c2⟩ := id hXI
  have g9 := g.re (md' := [(3, 0), (3, 4), (10, 8)]) (ma' := [103, 122, 123, 125, 130, 131])
  refine g_calli (va_runV (As := [.int (xs y_1.toNatClampNeg)]) (rest := []) ⟨hx, hb, hml, hown, hts⟩ (r_X11_make l dC dI L kd tys f H.size g.2.2.2.1 ax hA.1.1 hA.1.2 (xs y_1.toNatClampNeg) q1 hA.2.2.2.1.1 hA.2.2.2.1.2 c1 (Fs.cons_ hA.1 (by decide) a2 Fs.nil)) (cwV 1 hts (gVL_ t_1468 t_1469 t_1470 t_182 t_1471) rfl rfl rfl (by decide +kernel) ⟨(Nat.le_of_ble_eq_true rfl), (Nat.le_of_ble_eq_true rfl)⟩) (pre3V g9 hK hA.1.1 hA.1.2 (by decide) (q := (RX11, TX11, 8)) rfl) rfl rfl hl.1 rfl (lv_room (Nat.le_of_ble_eq_true rfl)) dL_law_398 ⟨by show cells + 0 ≤ 601024; omega, by show slots + 0 ≤ 7293034; omega⟩) g9 hK (by decide) (by decide) (fx' := []) rfl (fun r_2 f H locs hp hM g => ?_)
  have hXI := XI.frx hXI hA hM hW0 hp.1 (by decide) (by decide)
  have hMI := MI.frx hMI hA.2.1 hM g hW0 (by decide) (by decide)
  have hTI := hTI.fr hA.1 hA.2.1 hM (by decide) (by decide)
  have g := g.re (md' := []) (ma' := [])
  refine lv_pop hx hb dL_law_401 rfl ?_
  refine lv_aload_n hx hb dL_law_402 rfl (lv_at hl 1 rfl) ?_
  refine lv_aload_n hx hb dL_law_403 rfl (lv_at hl 3 rfl) ?_
  refine lv_iload_n hx hb dL_law_404 rfl (lv_at hl 0 rfl) ?_
  refine lv_iconst (v := 1) hx hb dL_law_405 (by decide) ?_
  refine lv_iadd hx hb dL_law_406 ?_
  refine lv_topi (fun y_3 ey_3 => ?_)
  refine va_sld hx hb hX hbl hbA g.2.2.1 (law_in (k := 1) ey_3 rfl rfl (by omega) (by omega)) dL_law_407 ?_
  have hW0 := g.2.2.2.1
  obtain ⟨n, q, V, δ, hn, hq, hRI⟩ := id hMI
  obtain ⟨r1, r2, r3, r4, r5, r6, r7, r8⟩ := id hRI
  have g9 := g.re (md' := [(14, 51), (14, 52), (14, 53)]) (ma' := [222, 223, 224, 225, 226, 227])
  refine g_calli (va_runV (As := [.int (xs y_3.toNatClampNeg)]) (rest := []) ⟨hx, hb, hml, hown, hts⟩ (r_X14_make l dC dI L kd tys f H.size g.2.2.2.1 am hA.2.1.1 hA.2.1.2 (xs y_3.toNatClampNeg) n hn.1 hn.2 V δ r2 r4 r1 (Fs.cons_ hA.2.1 (by decide) r7 Fs.nil)) (cwV 1 hts (gVL_ t_2590 t_2591 t_2592 t_198 t_2593) rfl rfl rfl (by decide +kernel) ⟨(Nat.le_of_ble_eq_true rfl), (Nat.le_of_ble_eq_true rfl)⟩) (pre3V g9 hK hA.2.1.1 hA.2.1.2 (by decide) (q := (RX14, TX14, 67)) rfl) rfl rfl hl.1 rfl (lv_room (Nat.le_of_ble_eq_true rfl)) dL_law_408 ⟨by show cells + 0 ≤ 601024; omega, by show slots + 0 ≤ 7293034; omega⟩) g9 hK (by decide) (by decide) (fx' := []) rfl (fun r_4 f H locs hp hM g => ?_)
  have hXI := XI.frm hXI hA hM hW0 (by decide) (by decide)
  have hMI : MI L kd f am := ⟨n, q, V, δ, hn, hq, isV.frame hM hW0 hn.1 hn.2 (by decide) (by decide) r1, r2, mOK.frame hM hW0 hn.1 hn.2 (by decide) (by decide) r3, hp.1, oOK.frame hM hW0 hA.2.1.1 hA.2.1.2 (by decide) (by decide) r5, apP.call r6 g hn.1 hn.2 hq.1 hq.2 rfl, (md_fix hM hA.2.1 (by decide) (by decide)).trans r7, (md_fix hM hA.2.1 (by decide) (by decide)).trans r8⟩
  have hTI := hTI.fr hA.1 hA.2.1 hM (by decide) (by decide)
  have g := g.re (md' := []) (ma' := [])
  refine lv_pop hx hb dL_law_411 rfl ?_
  refine lv_goto (tgt := 823) hx hb dL_law_412 (by decide) ?_
  exact kk f H locs _ _ 0 (by omega) rfl rfl g hXI hMI hTI

