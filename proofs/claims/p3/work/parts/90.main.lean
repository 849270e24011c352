set_option maxHeartbeats 4000000 in
set_option maxRecDepth 100000 in
theorem whole_start {p : Program} {e : Env} {s : State} {m : MethodId} {below : List Frame} {meth : Method} {c : Code} (l : Launch) {b L : Nat} {xs : Nat → Int32} (hL : L ≤ 3072) (C0 : lw_At p s m meth c b L xs) : W p l e room_1 s m #[Value.ref b] below meth c s.heap [] 0 0 (lw_Z below #[Value.ref b] s) (entryFrame m ([Value.ref b] : List Value).toArray 4) := by
  obtain ⟨hx, hb, hr, hml, hown, hts, hX, hbl, hlocks, hgv⟩ := id C0
  obtain ⟨A, hAd⟩ : ∃ A : Nat → Prop, A = fun q : Nat => s.heap.size ≤ q := ⟨_, rfl⟩
  have hA : ∀ q : Nat, s.heap.size ≤ q → A q := fun q h => by rw [hAd]; exact h
  have hfg : ∀ q : Nat, A q → s.heap.size ≤ q := fun q h => by rw [hAd] at h; exact h
  have hnA : ∀ a : Nat, a < s.heap.size → ¬ A a := fun a h z => Nat.lt_irrefl _ (Nat.lt_of_lt_of_le h (hfg a z))
  obtain ⟨dC, dI, hKc⟩ := law_known hts
  obtain ⟨adK, adV, hAm⟩ := law_amb hts hgv hnA
  obtain ⟨adK2, adV2, hAp⟩ := law_ap hts hgv hnA
  have hS : va_S A s.heap s.heap [] := va_S.rf
  have hK : va_K (dC, dI) vwCl [] s := ⟨hKc, fun k q h => by simp at h⟩
  have hP : va_P (dC, dI) vwCl [] s.heap := fun k q h => by simp at h
  have hD : va_D A [] := ⟨fun i j p q h => by simp at h, fun k q h => by simp at h⟩
  have hl := lv_entry ([.ref b]) (n := 4) (Nat.le_of_ble_eq_true rfl)
  rw [lg_entry_eq]
  generalize (lg_sl ([.ref b]) ++ List.replicate (4 - (lg_sl ([.ref b])).length) Slot.unset).toArray = ls at hl ⊢
  have hl : lv_has ls 4 [(0, .ref b)] := hl
  refine va_new (ws := []) (ci := 11) (fs := [.null, .int 0, .null, .null, .null, .null, .int 0, .int 0]) (C := RX11) (T := TX11) (N := 8) hx hb hts (mcL_ inX11) tyX11 tyX11_ok hown (hts _ (gt_ _ t_207)) (hts _ (gt_ _ t_208)) (hts _ (gt_ _ t_182)) hK hP hD hS hA rfl dfX11 (Nat.le_of_ble_eq_true rfl) (Nat.le_of_ble_eq_true rfl) dL_law_0 (fun ax H1 hP1 hD1 hS1 => ?_)
  have hP1 : va_P (dC, dI) vwCl [(ax, .inr (11, [.null, .int 0, .null, .null, .null, .null, .int 0, .int 0]))] H1 := hP1
  have hD1 : va_D A [(ax, .inr (11, [.null, .int 0, .null, .null, .null, .null, .int 0, .int 0]))] := hD1
  refine lv_dup hx hb dL_law_3 rfl ?_
  have hN1 : ∀ y, va_A [(ax, .inr (11, [.null, .int 0, .null, .null, .null, .null, .int 0, .int 0]))] H1.size y → A y := fun y hy => (A_one hy).elim (fun z => z ▸ hD1.2 0 _ rfl) (fun z => hA y (Nat.le_trans hS1.1 z))
  refine va_callv (va_runI (As := []) (rest := [.ref ax]) ⟨hx, hb, hml, hown, hts⟩ (k_X11_init l dC dI adK adV ax (fun _ => 0) H1.size) (cwI 0 hts (gIL_ t_211) rfl rfl rfl (hts _ (gt_ _ t_182)) (hts _ (gt_ _ t_209)) (hts _ (gt_ _ t_210)) rfl (by decide +kernel) ⟨(Nat.le_of_ble_eq_true rfl), (Nat.le_of_ble_eq_true rfl)⟩) (pre_new hP1 hK hAm hS1.2.1 hN1) rfl rfl hl.1 rfl (lv_room (Nat.le_of_ble_eq_true rfl)) dL_law_4 ⟨(Nat.le_of_ble_eq_true rfl), (Nat.le_of_ble_eq_true rfl)⟩) hS1 (fun q _ h => hN1 q h) hN1 (fun u_ t H2 locs2 ht hvm hw hB hz1 hk1 hS2 => ?_)
  obtain ⟨L1, kd1, tys1, f1, b1, b2, b3, -, hPa, hKa, hDa, hG⟩ := hB
  rw [ht] at hPa
  have hKa := va_K.moved hvm.symm hKa
  refine lv_astore_n (lv' := [(1, .ref ax), (0, .ref b)]) hx hb dL_law_7 rfl hl (by decide) rfl (fun ls hl => ?_)
  have hDa2 : va_D A (va_pl L1 f1) := hDa.weaken (fun _ y _ hy => hN1 y.1 hy)
  refine va_new (ws := va_pl L1 f1) (ci := 14) (fs := [.null, .null, .null, .null, .int 0, .int 0, .int 0, .int 0, .int 0, .int 0, .int 0, .long 0, .long 0, .long 0, .int 0, .int 0, .int 0, .int 0, .null, .null, .int 0, .int 0, .int 0, .int 0, .int 0, .int 0, .int 0, .null, .null, .null, .int 0, .int 0, .long 0, .long 0, .int 0, .int 0, .int 0, .int 0, .int 0, .long 0, .long 0, .null, .null, .null, .null, .int 0, .null, .null, .null, .null, .null, .int 0, .int 0, .int 0, .null, .int 0, .null, .null, .int 0, .int 0, .int 0, .int 0, .null, .null, .null, .int 0, .int 0]) (C := RX14) (T := TX14) (N := 67) hx hb hts (mcL_ inX14) tyX14 tyX14_ok hown (hts _ (gt_ _ t_1830)) (hts _ (gt_ _ t_1831)) (hts _ (gt_ _ t_198)) hKa hPa hDa2 hS2 hA rfl dfX14 (Nat.le_of_ble_eq_true rfl) (Nat.le_of_ble_eq_true rfl) dL_law_8 (fun am H3 hP3 hD3 hS3 => ?_)
  refine lv_dup hx hb dL_law_11 rfl ?_
  have hN3 : ∀ y, va_A [(am, .inr (14, [.null, .null, .null, .null, .int 0, .int 0, .int 0, .int 0, .int 0, .int 0, .int 0, .long 0, .long 0, .long 0, .int 0, .int 0, .int 0, .int 0, .null, .null, .int 0, .int 0, .int 0, .int 0, .int 0, .int 0, .int 0, .null, .null, .null, .int 0, .int 0, .long 0, .long 0, .int 0, .int 0, .int 0, .int 0, .int 0, .long 0, .long 0, .null, .null, .null, .null, .int 0, .null, .null, .null, .null, .null, .int 0, .int 0, .int 0, .null, .int 0, .null, .null, .int 0, .int 0, .int 0, .int 0, .null, .null, .null, .int 0, .int 0]))] H3.size y → A y := fun y hy => (A_one hy).elim (fun z => z ▸ (va_Dn.mp hD3).2 (am, _) (List.mem_append_right _ (List.mem_singleton.mpr rfl))) (fun z => hA y (Nat.le_trans hS3.1 z))
  have hP3m : va_P (dC, dI) vwCl [(am, .inr (14, [.null, .null, .null, .null, .int 0, .int 0, .int 0, .int 0, .int 0, .int 0, .int 0, .long 0, .long 0, .long 0, .int 0, .int 0, .int 0, .int 0, .null, .null, .int 0, .int 0, .int 0, .int 0, .int 0, .int 0, .int 0, .null, .null, .null, .int 0, .int 0, .long 0, .long 0, .int 0, .int 0, .int 0, .int 0, .int 0, .long 0, .long 0, .null, .null, .null, .null, .int 0, .null, .null, .null, .null, .null, .int 0, .int 0, .int 0, .null, .int 0, .null, .null, .int 0, .int 0, .int 0, .int 0, .null, .null, .null, .int 0, .int 0]))] H3 := va_Pm hP3 (fun x hx => List.mem_append_right _ hx)
  refine va_callv (va_runI (As := []) (rest := [.ref am]) ⟨hx, hb, hml, hown, hts⟩ (k_X14_init l dC dI adK adV am (fun _ => 0) H3.size) (cwI 0 hts (gIL_ t_1834) rfl rfl rfl (hts _ (gt_ _ t_198)) (hts _ (gt_ _ t_1832)) (hts _ (gt_ _ t_1833)) rfl (by decide +kernel) ⟨(Nat.le_of_ble_eq_true rfl), (Nat.le_of_ble_eq_true rfl)⟩) (pre_new hP3m hK hAm hS3.2.1 hN3) rfl rfl hl.1 rfl (lv_room (Nat.le_of_ble_eq_true rfl)) dL_law_12 ⟨(Nat.le_of_ble_eq_true rfl), (Nat.le_of_ble_eq_true rfl)⟩) hS3 (fun q _ h => hN3 q h) hN3 (fun u_ t H locs ht hvm hw hB hz3 hk3 hS4 => ?_)
  obtain ⟨L2, kd2, tys2, f2, hm2, hW2, hPb, hKb, hDb, n, q, hn2, hq2, hap2, hF2⟩ := hB
  rw [ht] at hPb
  have hKb := va_K.moved hvm.symm hKb
  obtain ⟨kd, f, mo1, mo2, hP5, hD5, hW5⟩ := law_merge hP3 hD3 hk3 hPb hDb (fun a ha => (b3 a ha).1) hW2 hN3
  have hK5 : va_K (dC, dI) vwCl (tys1 ++ tys2) s := hKa.app hKb
  refine lv_astore_n (lv' := [(2, .ref am), (1, .ref ax), (0, .ref b)]) hx hb dL_law_15 rfl hl (by decide) rfl (fun ls hl => ?_)
  refine lv_iconst (v := 0) hx hb dL_law_16 (by decide) ?_
  refine lv_istore_n (lv' := [(3, .int 0), (2, .ref am), (1, .ref ax), (0, .ref b)]) hx hb dL_law_17 rfl hl (by decide) rfl (fun ls hl => ?_)
  have hgL : ∀ a ∈ L1 ++ L2, s.heap.size ≤ a := fun a ha => hfg a ((va_Dn.mp hD5).2 (a, f a) (pl_mem.mpr ⟨ha, rfl⟩))
  have hpa : ∀ y, pA (L1 ++ L2) s.heap.size y → A y := fun y hy => hy.elim (fun z => hA y (hgL y z)) (hA y)
  have hap : ∀ y, A y → pA (L1 ++ L2) s.heap.size y := fun y hy => Or.inr (hfg y hy)
  have g : G3 (dC, dI) (L1 ++ L2) kd (tys1 ++ tys2) s f [] [] f H locs [] := ⟨hP5, hD5.weaken (fun _ y _ hy => hap y.1 hy), ⟨hS4.1, fun y h1 h2 => hS4.2.1 y h1 (fun z => h2 (hap y z)), fun y hy => hap _ (hS4.2.2 y hy)⟩, hW5, Fs.nil, Md.rf⟩
  have hMI : MI (L1 ++ L2) kd f am := mi_of (g.more (Mo.fs hF2 mo2)) (mo2.at_ hn2) (mo2.at_ hq2) (Mo.ap hap2 mo2 hn2.1 hq2.1)
  obtain ⟨q0, q1, q2, q3, q4, q5, q6, r, r', p', p'', m', m'', A', A'', ⟨k0, k1, k2, k3, k4, k5, k6⟩, ⟨u1, u2, u3, u4, u5, u6, u7, u8, u9, u10, u11, u12, u13, u14, u15⟩, ⟨v1, v2, v3⟩, w1, w2⟩ := hG
  have hxx : ax ∈ L1 ∧ kd1 ax = 11 := ⟨b1, b2⟩
  have hLA : LA (L1 ++ L2) kd ax am q0 q1 q4 q5 q6 := ⟨mo1.at_ hxx, mo2.at_ hm2, mo1.at_ k0, mo1.at_ k1, mo1.at_ k4, mo1.at_ k5, mo1.at_ k6⟩
  have hz : ∀ a ∈ L1, ∀ i, aI f1 a i = 0 := fun a ha => (b3 a ha).2
  have he1 : eOK f1 q6 := eOK.zero_ hz (by have h9 := (b3 q6 k6.1).1; rw [k6.2] at h9; exact h9)
  have he : eOK f q6 := fun o a h3 h5 i hi => by
    have e3 := (mo1.fv k6.1).symm.trans h3
    have e5 := (mo1.fv k6.1).symm.trans h5
    have h9 := (b3 q6 k6.1).1
    rw [k6.2] at h9
    have ho := own_ref h9 (by decide) e3
    have ha := own_ref h9 (by decide) e5
    have x1 : aI f o i = aI f1 o i := by unfold aI; rw [(mo1 o ho).2.2]
    have x2 : aI f a i = aI f1 a i := by unfold aI; rw [(mo1 a ha).2.2]
    rw [x1, x2]
    exact he1 o a e3 e5 i hi
  have hd : dOK (L1 ++ L2) kd f q3 q2 := ⟨(mo1.at_ k2).1, (mo1.at_ k2).2, w1, zero_c ((mo1.fv k2.1).trans u12) (by decide), fun i j b _ _ e1 e2 => w2 i j b ((mo1.fv k3.1).symm.trans e1) ((mo1.fv k2.1).symm.trans e2)⟩
  have hR : RP (L1 ++ L2) kd f q1 := RP.of_ (v1.mo mo1) (v2.mo mo1) v3 ((mo1.fv k1.1).trans u14) ((mo1.fv k1.1).trans u15)
  have hXI : XI (L1 ++ L2) kd f ax q0 q1 q4 q5 q6 := ⟨⟨(mo1.fv b1).trans u2, (mo1.fv b1).trans u3, (mo1.fv k0.1).trans u6, (mo1.fv k0.1).trans u7, (mo1.fv k0.1).trans u8, (mo1.fv k6.1).trans u9, (mo1.fv k6.1).trans u10⟩, ⟨q2, q3, mo1.at_ k2, mo1.at_ k3, (mo1.fv b1).trans u4, (mo1.fv b1).trans u5, (mo1.fv k1.1).trans u11, hd⟩, hR, he⟩
  have hTI : TI f ax am := ⟨0, ⟨by decide, by decide⟩, (mo1.fv b1).trans u1, (mo2.fv hm2.1).trans ((hF2.at9 (i := 2) rfl).2.2.2)⟩
  have hbA : ¬ pA (L1 ++ L2) s.heap.size b := fun z => hnA b hbl (hpa b z)
  refine W.widen (k := 1000) (n := 130000) (Nat.le_of_ble_eq_true rfl) (Nat.le_of_ble_eq_true rfl) ?_
  exact law_loop hx hb hml hown hts hX hbl hbA hK5 (hAp.narrow hpa) hLA hr hlocks hL hgL 512 0 (by omega) (by omega) 0 1000 130000 f H locs ls (by omega) rfl rfl g hXI hMI hTI hl
-- ===== YOUR PART ENDS =====
set_option maxHeartbeats 4000000 in
theorem lw_walk (l : Launch) (b : Addr) (xs : List Int32) : MetFree l x (headSpec (Jvm.Cond.code x code maxLocals ret :: tables_1) room_1) (lw_P b xs) (fun _ _ _ _ _ => True) lw_Q := by
  refine MetFree.of_bodyS (code := code) (maxLocals := maxLocals) (ret := ret) (by decide) ?_ ?_
  · intro args s m h hn
    obtain ⟨meth, c, h1, h2, h3, h4, h5, h6, -, -⟩ := Cond.code_spec hn (atoms_spec (ws := Jvm.Cond.code x code maxLocals ret :: tables_1) h _ List.mem_cons_self)
    exact ⟨meth, c, h1, h2, h3, h4, h5, h6⟩
  · intro p e s m args below meth c s₁ B hml0 hP _
    obtain ⟨rfl, hx, hbd, hgv⟩ := hP
    obtain ⟨scr, harrAt, hlist, hof, hsmall⟩ := hx
    obtain ⟨hcb, hkn, -, -⟩ := State.arrayAt?_spec harrAt
    have hown : s.vm.findClass R_law = some m.cls := findClass_of_methodNamed B.named
    have hts0 : ∀ c ∈ (Jvm.Cond.code x code maxLocals ret :: tables_1), c.before #[Value.ref b] s = true := atoms_spec (ws := Jvm.Cond.code x code maxLocals ret :: tables_1) B.pre
    have hts : ∀ w ∈ lw_tbl, w.before #[Value.ref b] s = true := k2_hts_sels lw_privs (fun w hw => hts0 w (List.mem_cons_of_mem _ hw)) lw_privs_ok
    have hml : c.maxLocals = 4 := B.maxLocals_eq (hts0 _ List.mem_cons_self)
    have X₀ : Stand p l e room_1 s m #[Value.ref b] below meth c s₁ [] 0 0 := Stand.of_body B
    have hh0 : s₁.heap = s.heap := by rw [B.state]; rfl
    have hsz : scr.slots.size = xs.length := by rw [← Array.length_toList, hlist, List.length_map]
    have hval : ∀ j : Nat, j < xs.length → scr.slots[j]? = some (.int (xs.getD j 0)) := fun j hj => by
      rw [← Array.getElem?_toList, hlist]
      simp [hj]
    have hbl : b < s.heap.size := (Array.getElem?_eq_some_iff.mp hcb).1
    have hX : va_X b xs.length (fun j => xs.getD j 0) s s.heap := ⟨scr, hcb, hof, hkn, hsz, hval⟩
    have K : W p l e room_1 s m #[Value.ref b] below meth c s₁.heap [] 0 0 (lw_Z below #[Value.ref b] s) (entryFrame m ([Value.ref b] : List Value).toArray 4) := by
      rw [hh0]
      exact whole_start l hbd ⟨B.exec, B.bytes, B.returns, hml, hown, hts, hX, hbl, B.notSynchronized, hgv⟩
    obtain ⟨t, a1, o, b1, b2, b3⟩ := K s₁ rfl X₀
    exact ⟨t, o, a1, b1, b2, b3⟩
theorem lw_pre_spec {args : Array Value} {s : State} (h : (Jvm.Cond.and given_1 narrow_1).before args s = true) (hr : rest_1_c.before args s = true) : ∃ (b : Addr) (xs : List Int32), lw_P b xs args s := by
  have hs := flat_of_before _ h
  have hq := flat_of_before _ hr
  have hc : (Cond.count 1).before args s = true := hs _ (by decide +kernel)
  have harr : (Cond.arrayOf (.arg 0) .int).before args s = true := hs _ (by decide +kernel)
  have hle : (Cond.le (.length (.arg 0)) (.int 3072)).before args s = true := hs _ (by decide +kernel)
  have hlen : (Cond.isInt (.length (.arg 0))).before args s = true := hq _ (by decide +kernel)
  have hall : (Cond.all (.arg 0) (.isInt (.elem (.arg 0) (.index 0)))).before args s = true := hq _ (by decide +kernel)
  obtain ⟨b, xs, hb, hx⟩ := State.ints_of_pre rfl harr hlen hall
  have hsm : xs.length < 2 ^ 31 := hx.choose_spec.2.2.2
  have hev : (Term.length (.arg 0)).eval args s none [] s = some (.int xs.length.toInt32) := hx.length_eval hb
  have hv := Cond.le_ints hev (show (Term.int 3072).eval args s none [] s = some (.int 3072) from rfl)
  have hd : xs.length.toInt32 ≤ 3072 := by
    simpa [Cond.before, Cond.holds, hv] using hle
  have hN : xs.length ≤ 3072 := (Int32.ofNat_le_ofNat hsm (by decide)).mp (show Int32.ofNat xs.length ≤ Int32.ofNat 3072 from hd)
  exact ⟨b, xs, Cond.one_arg hc (show args[0]? = some (.ref b) from hb), hx, hN, h⟩
theorem lw_comes (l : Launch) : Comes l x (Jvm.Cond.code x code maxLocals ret :: tables_1) room_1 (fun tb e args s => Calls_1 tb e args s ∧ rest_1 tb e args s ∧ Pre_1 tb e args s)
    (fun _ _ args s o t => lw_Q args s o t) := by
  intro p e ha hc hk s m args below hf hfit hheap happ hpre
  obtain ⟨b, xs, hP⟩ := lw_pre_spec hpre.2.2 hpre.2.1
  obtain ⟨k, o, h1, h2, h3, hQ⟩ := lw_walk l b xs p e ha hc hk s m args below hf ((Spec.applies_iff_loose hf).mp happ).1 hP trivial
  exact ⟨k, o, h1, h2, h3, hQ⟩
theorem lw_frame {s t : State} {o : Outcome} {args : Array Value} (h : Framed s o t [] 601024 7293034) :
    Framed s o t (fieldLocs frame_1_writes args s ++ arrayLocs frame_1_arrays args s ++ staticLocs frame_1_statics s) 601024 7293034 := h
theorem lw_limb (L : Cond) (hL : ∀ (args : Array Value) (s t : State), L.after args s (.returned (some (.int 1))) t = true) :
    ArmFor flags0 classFile x code maxLocals ret World_1 tables_1 room_1 Calls_1 rest_1 Pre_1
      (fun tb e a s o t => postC L tb e a s o t ∧ Framed s o t (fieldLocs frame_1_writes a s ++ arrayLocs frame_1_arrays a s ++ staticLocs frame_1_statics s) 601024 7293034) := by
  intro l _ _ _ p e ha hc hk s m args below hf hfit hheap happ hpre
  obtain ⟨k, o, h1, h2, h3, rfl, hF⟩ := lw_comes l p e ha hc hk s m args below hf hfit hheap happ hpre
  exact ⟨k, _, h1, h2, h3, hL args s _, lw_frame hF⟩
theorem i_vc : Claimed_1_1 ∧ Claimed_1_2 := ⟨lw_limb limb_1_1 (fun args s t => by simp [limb_1_1, Cond.after, Cond.holds, Cond.value]), lw_limb limb_1_2 (fun args s t => Cond.after_iff.mpr (by
  first | (rw [show limb_1_2 = Cond.eq .result (.int 1) from rfl, Cond.eq_ints (x := 1) (y := 1) rfl rfl]; simp; done) | (simp [limb_1_2, Cond.value, Term.eval]; done)))⟩
