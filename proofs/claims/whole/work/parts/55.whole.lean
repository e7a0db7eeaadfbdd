section LW5
variable {D : DX} {p : Program} {e : Env} {s : State} {m : MethodId} {below : List Frame} {meth : Method} {c : Code} {b L : Nat} {xs : Nat → Int32}
set_option maxHeartbeats 4000000 in
set_option maxRecDepth 20000 in
theorem law_J {a : Nat → Nat} (hz : zT D a) (hX : va_X b L xs s s.heap) (hbl : b < s.heap.size) (hL : L ≤ 2560) : J D (GL p e s m b below meth c) (yLw meth) code 4 ret room_1 (lw_Z below #[Value.ref b] s) 0 0 [] 0 [(0, .ref b)] [] := by
  refine j_new (own := RL) (C := RX4) (T := TX4) (N := 7) (ci := 4) (fs := f0X4) rfl m_us_X4 tyX4 tyX4_ok m_cl_L_7 m_is_X4 m_in_X4 rfl fsX4 ⟨Nat.le_of_ble_eq_true rfl, Nat.le_of_ble_eq_true rfl⟩ dL_law_0 (fun O => ?_)
  refine j_dup dL_law_3 rfl ?_
  refine j_init (wr := []) (c_X4_init O) rfl cw_L_9 ⟨Nat.le_of_ble_eq_true rfl, Nat.le_of_ble_eq_true rfl⟩ ⟨Nat.le_of_ble_eq_true rfl, Nat.le_of_ble_eq_true rfl⟩ dL_law_4 (Nat.le_of_ble_eq_true rfl) rfl (fun v w1 hf => ?_)
  obtain ⟨rfl, X, E, F, Y, Z, V, P, G, rfl⟩ := hf
  generalize hwC : CW D O X E F Y Z V P G s0 s0 (fun _ => 0) (fun _ => 0) (fun _ => 0) 0 0 0 (fun _ => s0) 5 0 (fun _ => 0) (fun _ => 0) 0 (fun _ => 0) (fun _ => s0) = wC
  have hC : CE D O X E F Y Z V P G (s0, fun _ => 0, 0, fun _ => s0, 5, 0, fun _ => 0, fun _ => 0, 0, fun _ => 0, fun _ => s0, fun _ => 0, fun _ => 0) wC := ⟨_, _, _, _, _, hwC.symm⟩
  refine j_ws (w2 := wC) (st2 := [.ref O]) rfl rfl ?_
  refine j_astore_n (x := O) (lv2 := [(0, .ref b), (1, .ref O)]) dL_law_7 (by decide) [1, 0] rfl ?_
  refine j_new (own := RL) (C := RX5) (T := TX5) (N := 17) (ci := 5) (fs := f0X5) rfl m_us_X5 tyX5 tyX5_ok m_cl_L_10 m_is_X5 m_in_X5 rfl fsX5 ⟨Nat.le_of_ble_eq_true rfl, Nat.le_of_ble_eq_true rfl⟩ dL_law_8 (fun O5 => ?_)
  refine j_dup dL_law_11 rfl ?_
  refine j_init (wr := wC) (c_X5_init O5) rfl cw_L_12 ⟨Nat.le_of_ble_eq_true rfl, Nat.le_of_ble_eq_true rfl⟩ ⟨Nat.le_of_ble_eq_true rfl, Nat.le_of_ble_eq_true rfl⟩ dL_law_12 (Nat.le_of_ble_eq_true rfl) rfl (fun v w1 hf => ?_)
  obtain ⟨rfl, M, rfl, rfl⟩ := hf
  generalize hwM : MW D M 0 0 0 0 0 0 0 0 s0 (fun _ => 0) (fun _ => 0) (fun _ => 0) (fun _ => 0) (fun _ => 0) (fun _ => 0) (fun _ => 0) (fun _ => 0) = wM
  have hM : ME D M (s0, fun _ => 0, 0, fun _ => s0, 5, 0, fun _ => 0, fun _ => 0, 0, fun _ => 0, fun _ => s0, fun _ => 0, fun _ => 0) wM := ⟨_, _, _, _, _, _, _, hwM.symm⟩
  refine j_ws (w2 := wC ++ wM) (st2 := [.ref (M 0)]) rfl rfl ?_
  refine j_astore_n (x := M 0) (lv2 := [(0, .ref b), (1, .ref O), (2, .ref (M 0))]) dL_law_15 (by decide) [1, 2, 0] rfl ?_
  refine j_iconst (v := nI 0) dL_law_16 rfl ?_
  refine j_istore_n (x := nI 0) (lv2 := lvL b O (M 0) 0) dL_law_17 (by decide) [1, 2, 3, 0] rfl ?_
  refine jl_kn (k2 := 72) (n2 := 9486) rfl rfl ?_
  exact law_loop hz hX hbl hL (L + 1) 0 (Nat.zero_le L) (by omega) _ wC wM Rel_0 hC hM
end LW5
set_option maxHeartbeats 4000000 in
set_option maxRecDepth 20000 in
theorem whole_start {p : Program} {e : Env} {s : State} {m : MethodId} {below : List Frame} {meth : Method} {c : Code} (l : Launch) (hflags : l.flags = flags0) {b L : Nat} {xs : Nat → Int32} (hL : L ≤ 2560) (C0 : lw_At p s m meth c b L xs) : W p l e room_1 s m #[Value.ref b] below meth c s.heap [] 0 0 (lw_Z below #[Value.ref b] s) (entryFrame m ([Value.ref b] : List Value).toArray 4) := by
  obtain ⟨hx, hb, hr, hml, hown, hts, hX, hbl, hlocks, hgv⟩ := id C0
  have htg : ∀ w ∈ lw_g, w.before #[Value.ref b] s = true := fun w hw => hts w (List.mem_filter.mp hw).1
  have hao : va_AO RX0 s := va_AO.of (hts _ m_ao)
  have hnw : va_Nw (.methodLinkNest RX3 66 yX4_within RX4) s := va_Nw.of rfl (hts _ m_mn_X3_66)
  obtain ⟨Gd, cI, cE, cZ, hK⟩ := kn_s htg hao
  obtain ⟨t0, z0, y0⟩ := sta_of (N := 10) (f := tLL) (by decide) (hts _ m_ls_LETTER_LEAST) (htg _ m_in_X3) (sta_LETTER_LEAST hgv).1 (sta_LETTER_LEAST hgv).2.1 (sta_LETTER_LEAST hgv).2.2
  obtain ⟨t1, z1, y1⟩ := sta_of (N := 10) (f := tLM) (by decide) (hts _ m_ls_LETTER_MOST) (htg _ m_in_X3) (sta_LETTER_MOST hgv).1 (sta_LETTER_MOST hgv).2.1 (sta_LETTER_MOST hgv).2.2
  obtain ⟨t2, z2, y2⟩ := sta_of (N := 2) (f := tFL) (by decide) (hts _ m_ls_FILL_LEAST) (htg _ m_in_X3) (sta_FILL_LEAST hgv).1 (sta_FILL_LEAST hgv).2.1 (sta_FILL_LEAST hgv).2.2
  obtain ⟨t3, z3, y3⟩ := sta_of (N := 2) (f := tFM) (by decide) (hts _ m_ls_FILL_MOST) (htg _ m_in_X3) (sta_FILL_MOST hgv).1 (sta_FILL_MOST hgv).2.1 (sta_FILL_MOST hgv).2.2
  obtain ⟨t4, z4, y4⟩ := sta_of (N := 3) (f := tTL) (by decide) (hts _ m_ls_TUNE_LEAST) (htg _ m_in_X3) (sta_TUNE_LEAST hgv).1 (sta_TUNE_LEAST hgv).2.1 (sta_TUNE_LEAST hgv).2.2
  obtain ⟨t5, z5, y5⟩ := sta_of (N := 3) (f := tTM) (by decide) (hts _ m_ls_TUNE_MOST) (htg _ m_in_X3) (sta_TUNE_MOST hgv).1 (sta_TUNE_MOST hgv).2.1 (sta_TUNE_MOST hgv).2.2
  obtain ⟨D, hDl, hD⟩ : ∃ D : DX, dl D = l ∧ D = (l, Gd, (cI, cE, cZ), [("TransferRings$Text", "LETTER_LEAST", "[I", t0, 10, tLL), ("TransferRings$Text", "LETTER_MOST", "[I", t1, 10, tLM), ("TransferRings$Text", "FILL_LEAST", "[I", t2, 2, tFL), ("TransferRings$Text", "FILL_MOST", "[I", t3, 2, tFM), ("TransferRings$Text", "TUNE_LEAST", "[I", t4, 3, tTL), ("TransferRings$Text", "TUNE_MOST", "[I", t5, 3, tTM)]) := ⟨_, rfl, rfl⟩
  have hz : zT D (fun k => [t0, t1, t2, t3, t4, t5].getD k 0) := by
    rw [hD]
    exact ⟨List.mem_of_getElem? (i := 0) rfl, List.mem_of_getElem? (i := 1) rfl, List.mem_of_getElem? (i := 2) rfl, List.mem_of_getElem? (i := 3) rfl, List.mem_of_getElem? (i := 4) rfl, List.mem_of_getElem? (i := 5) rfl⟩
  have hzo : zOk D (fun q => s.heap.size ≤ q) s s.heap := by
    rw [hD]
    show ∀ q ∈ [("TransferRings$Text", "LETTER_LEAST", "[I", t0, 10, tLL), ("TransferRings$Text", "LETTER_MOST", "[I", t1, 10, tLM), ("TransferRings$Text", "FILL_LEAST", "[I", t2, 2, tFL), ("TransferRings$Text", "FILL_MOST", "[I", t3, 2, tFM), ("TransferRings$Text", "TUNE_LEAST", "[I", t4, 3, tTL), ("TransferRings$Text", "TUNE_MOST", "[I", t5, 3, tTM)], va_Z q.1 q.2.1 q.2.2.1 (.ref q.2.2.2.1) (fun q => s.heap.size ≤ q) s s.heap ∧ va_T .int q.2.2.2.1 q.2.2.2.2.1 (fun k => .int (q.2.2.2.2.2 k)) (fun q => s.heap.size ≤ q) s s.heap
    exact List.forall_mem_cons.mpr ⟨⟨z0, y0⟩, List.forall_mem_cons.mpr ⟨⟨z1, y1⟩, List.forall_mem_cons.mpr ⟨⟨z2, y2⟩, List.forall_mem_cons.mpr ⟨⟨z3, y3⟩, List.forall_mem_cons.mpr ⟨⟨z4, y4⟩, List.forall_mem_cons.mpr ⟨⟨z5, y5⟩, fun _ h => absurd h List.not_mem_nil⟩⟩⟩⟩⟩⟩
  have hKD : va_K (dG D) classes (dT D) s := by rw [hD]; exact hK
  have hl := lv_entry ([.ref b]) (n := 4) (Nat.le_of_ble_eq_true rfl)
  rw [lg_entry_eq]
  have hj := law_J (p := p) (e := e) (m := m) (below := below) (meth := meth) (c := c) hz hX hbl hL
  rw [← hDl]
  exact hj ⟨hx, hb, hr, hml, hown, htg, hlocks, hKD, fun q h => h, rfl, hzo, ⟨hnw, hao⟩⟩ s.heap [] _ (fun k q h => by simp at h) ⟨fun i j p q h => by simp at h, fun k q h => by simp at h⟩ va_S.rf hl
set_option maxHeartbeats 4000000 in
theorem lw_walk (l : Launch) (hflags : l.flags = flags0) (b : Addr) (xs : List Int32) : MetFree l x (headSpec (Jvm.Cond.code x code maxLocals ret :: tables_1) room_1) (lw_P b xs) (fun _ _ _ _ _ => True) lw_Q := by
  refine MetFree.of_bodyS (code := code) (maxLocals := maxLocals) (ret := ret) (by decide) ?_ ?_
  · intro args s m h hn
    obtain ⟨meth, c, h1, h2, h3, h4, h5, h6, -, -⟩ := Cond.code_spec hn (atoms_spec (ws := Jvm.Cond.code x code maxLocals ret :: tables_1) h _ List.mem_cons_self)
    exact ⟨meth, c, h1, h2, h3, h4, h5, h6⟩
  · intro p e s m args below meth c s₁ B hml0 hP _
    obtain ⟨rfl, hx, hbd, hgv⟩ := hP
    obtain ⟨scr, harrAt, hlist, hof, hsmall⟩ := hx
    obtain ⟨hcb, hkn, -, -⟩ := State.arrayAt?_spec harrAt
    have hown : s.vm.findClass R_law = some m.cls := findClass_of_methodNamed B.named
    have hts0 : ∀ c ∈ (Jvm.Cond.code x code maxLocals ret :: tables_1), c.before #[Value.ref b] s = true := atoms_spec (ws := Jvm.Cond.code x code maxLocals ret :: tables_1) B.pre
    have hts : ∀ w ∈ lw_tbl, w.before #[Value.ref b] s = true := k2_hts_sels lw_privs (fun w hw => hts0 w (List.mem_cons_of_mem _ hw)) lw_privs_ok
    have hml : c.maxLocals = 4 := B.maxLocals_eq (hts0 _ List.mem_cons_self)
    have X₀ : Stand p l e room_1 s m #[Value.ref b] below meth c s₁ [] 0 0 := Stand.of_body B
    have hh0 : s₁.heap = s.heap := by rw [B.state]; rfl
    have hsz : scr.slots.size = xs.length := by rw [← Array.length_toList, hlist, List.length_map]
    have hval : ∀ j : Nat, j < xs.length → scr.slots[j]? = some (.int (xs.getD j 0)) := fun j hj => by
      rw [← Array.getElem?_toList, hlist]
      simp [hj]
    have hbl : b < s.heap.size := (Array.getElem?_eq_some_iff.mp hcb).1
    have hX : va_X b xs.length (fun j => xs.getD j 0) s s.heap := ⟨scr, hcb, hof, hkn, hsz, hval⟩
    have K : W p l e room_1 s m #[Value.ref b] below meth c s₁.heap [] 0 0 (lw_Z below #[Value.ref b] s) (entryFrame m ([Value.ref b] : List Value).toArray 4) := by
      rw [hh0]
      exact whole_start l hflags hbd ⟨B.exec, B.bytes, B.returns, hml, hown, hts, hX, hbl, B.notSynchronized, hgv⟩
    obtain ⟨t, a1, o, b1, b2, b3⟩ := K s₁ rfl X₀
    exact ⟨t, o, a1, b1, b2, b3⟩
theorem lw_pre_spec {args : Array Value} {s : State} (h : (Jvm.Cond.and given_1 narrow_1).before args s = true) (hr : rest_1_c.before args s = true) : ∃ (b : Addr) (xs : List Int32), lw_P b xs args s := by
  have hs := flat_of_before _ h
  have hq := flat_of_before _ hr
  have hc : (Cond.count 1).before args s = true := hs _ (by decide +kernel)
  have harr : (Cond.arrayOf (.arg 0) .int).before args s = true := hs _ (by decide +kernel)
  have hle : (Cond.le (.length (.arg 0)) (.int 2560)).before args s = true := hs _ (by decide +kernel)
  have hlen : (Cond.isInt (.length (.arg 0))).before args s = true := hq _ (by decide +kernel)
  have hall : (Cond.all (.arg 0) (.isInt (.elem (.arg 0) (.index 0)))).before args s = true := hq _ (by decide +kernel)
  obtain ⟨b, xs, hb, hx⟩ := State.ints_of_pre rfl harr hlen hall
  have hsm : xs.length < 2 ^ 31 := hx.choose_spec.2.2.2
  have hev : (Term.length (.arg 0)).eval args s none [] s = some (.int xs.length.toInt32) := hx.length_eval hb
  have hv := Cond.le_ints hev (show (Term.int 2560).eval args s none [] s = some (.int 2560) from rfl)
  have hd : xs.length.toInt32 ≤ 2560 := by
    simpa [Cond.before, Cond.holds, hv] using hle
  have hN : xs.length ≤ 2560 := (Int32.ofNat_le_ofNat hsm (by decide)).mp (show Int32.ofNat xs.length ≤ Int32.ofNat 2560 from hd)
  exact ⟨b, xs, Cond.one_arg hc (show args[0]? = some (.ref b) from hb), hx, hN, h⟩
theorem lw_comes (l : Launch) (hflags : l.flags = flags0) : Comes l x (Jvm.Cond.code x code maxLocals ret :: tables_1) room_1 (fun tb e args s => Calls_1 tb e args s ∧ rest_1 tb e args s ∧ Pre_1 tb e args s)
    (fun _ _ args s o t => lw_Q args s o t) := by
  intro p e ha hc hk s m args below hf hfit hheap happ hpre
  obtain ⟨b, xs, hP⟩ := lw_pre_spec hpre.2.2 hpre.2.1
  obtain ⟨k, o, h1, h2, h3, hQ⟩ := lw_walk l hflags b xs p e ha hc hk s m args below hf ((Spec.applies_iff_loose hf).mp happ).1 hP trivial
  exact ⟨k, o, h1, h2, h3, hQ⟩
theorem lw_frame {s t : State} {o : Outcome} {args : Array Value} (h : Framed s o t [] 600000 7302250) :
    Framed s o t (fieldLocs frame_1_writes args s ++ arrayLocs frame_1_arrays args s ++ staticLocs frame_1_statics s) 600000 7302250 := h
theorem lw_limb (L : Cond) (hL : ∀ (args : Array Value) (s t : State), L.after args s (.returned (some (.int 1))) t = true) :
    ArmFor flags0 classFile x code maxLocals ret World_1 tables_1 room_1 Calls_1 rest_1 Pre_1
      (fun tb e a s o t => postC L tb e a s o t ∧ Framed s o t (fieldLocs frame_1_writes a s ++ arrayLocs frame_1_arrays a s ++ staticLocs frame_1_statics s) 600000 7302250) := by
  intro l hflags _ _ p e ha hc hk s m args below hf hfit hheap happ hpre
  obtain ⟨k, o, h1, h2, h3, rfl, hF⟩ := lw_comes l hflags p e ha hc hk s m args below hf hfit hheap happ hpre
  exact ⟨k, _, h1, h2, h3, hL args s _, lw_frame hF⟩
theorem i_vc : Claimed_1_1 ∧ Claimed_1_2 := ⟨lw_limb limb_1_1 (fun args s t => by simp [limb_1_1, Cond.after, Cond.holds, Cond.value]), lw_limb limb_1_2 (fun args s t => Cond.after_iff.mpr (by
  first | (rw [show limb_1_2 = Cond.eq .result (.int 1) from rfl, Cond.eq_ints (x := 1) (y := 1) rfl rfl]; simp; done) | (simp [limb_1_2, Cond.value, Term.eval]; done)))⟩
