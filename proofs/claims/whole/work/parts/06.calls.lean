theorem zOk.moved {D : DX} {A : Nat → Prop} {u U : State} {H : Heap} (hvm : u.vm.Alike U.vm) (h : zOk D A u H) : zOk D A U H := fun q hq => ⟨(h q hq).1.moved hvm, (h q hq).2.moved hvm⟩
theorem zOk.kept {D : DX} {A : Nat → Prop} {U : State} {H H1 : Heap} (h : zOk D A U H) (hk : ∀ a : Nat, a < H.size → ¬ A a → H1[a]? = H[a]?) : zOk D A U H1 := fun q hq => ⟨(h q hq).1.kept hk, (h q hq).2.kept hk⟩
theorem zOk.narrow {D : DX} {A B : Nat → Prop} {U : State} {H : Heap} (h : zOk D A U H) (hAB : ∀ q, B q → A q) : zOk D B U H := fun q hq => ⟨(h q hq).1.narrow hAB, (h q hq).2.narrow hAB⟩
theorem xOk.warm {s U : State} (hW : s.WarmedH U.vm) (h : xOk s) : xOk U := ⟨va_Nw.warmM hW h.1, va_AO.moved hW.alike h.2⟩
theorem cP_blind (D : DX) (av : List Value) (w : va_W) (sz : Nat) : FrameBlind (cP D av w sz) := by
  intro a U g mk q
  obtain ⟨q0, q1, qP, qK, qD, qZ, qX⟩ := q
  have al : U.vm.Alike (U.calling g mk a).vm := Vm.Alike.refl U.vm
  exact ⟨q0, q1, qP, va_K.moved (u := U) (U := U.calling g mk a) al qK, qD, zOk.moved (u := U) (U := U.calling g mk a) al qZ, va_Nw.same (u := U) (U := U.calling g mk a) rfl rfl qX.1, va_AO.moved (u := U) (U := U.calling g mk a) al qX.2⟩
/-- the words that a call needs -/
def CwB (own : String) (idx : Nat) (y : MethodName) (b : ByteArray) (n : Nat) (r : Option FieldType) (np : Nat) : Prop :=
  Cond.methodLink own idx y ∈ lw_g ∧ Cond.initialized y.cls ∈ lw_g ∧ Cond.code y b n r ∈ lw_g ∧ (y.cls ≠ "java/lang/invoke/MethodHandle" ∧ y.cls ≠ "java/lang/invoke/VarHandle" ∧ (parseMethodDescriptor y.desc).map (fun d => d.parameters.length) = some np)
def CwV (own : String) (idx : Nat) (y : MethodName) (b : ByteArray) (n : Nat) (r : Option FieldType) (np : Nat) : Prop := CwB own idx y b n r np ∧ Cond.instanceMethod y ∈ lw_g ∧ Cond.selects y.cls y y ∈ lw_g
def CwS (own : String) (idx : Nat) (y : MethodName) (b : ByteArray) (n : Nat) (r : Option FieldType) (np : Nat) : Prop := CwB own idx y b n r np ∧ Cond.static y ∈ lw_g
section CA1
variable {p : Program} {e : Env} {R : Room} {s : State} {m : MethodId} {args : Array Value} {below : List Frame} {meth : Method} {c : Code} {H : Heap} {locs : List Loc} {Q : State → Prop} {A : Nat → Prop} {D : DX}
theorem wsub {ws wc : va_W} {is : List Nat} (hP : va_P (dG D) classes ws H) (hC : is.map (fun i => ws[i]?) = wc.map some) : va_P (dG D) classes wc H := by
  intro k q hk
  obtain ⟨i, -, hi⟩ := wat hC k q hk
  exact hP i q hi
/-- what a callee may take as given -/
theorem pre_of {av : List Value} {ws wc : va_W} {is : List Nat} {y : MethodName} {cc : ByteArray} {nL : Nat} {ret : Option FieldType} (h : Ok D (p, e, s, m, args, below, meth, c, A) y cc nL ret) (hP : va_P (dG D) classes ws H) (hD : va_D A ws) (hS : va_S A s.heap H locs) (hC : is.map (fun i => ws[i]?) = wc.map some) (hn : va_nd is = true) (U : State) (hU : U.heap = H) (hW : s.WarmedH U.vm) : cP D av wc H.size av.toArray U := by
  obtain ⟨h1, h2, h3, h4, h5, h6, h7, h8, h9, h10, h11, h12⟩ := h
  refine ⟨rfl, by rw [hU], by rw [hU]; exact wsub hP hC, va_K.moved hW.alike h8, (hD.sub is hn hC).weaken (fun _ _ _ _ => trivial), ?_, h12.warm hW⟩
  rw [hU]
  exact ((h11.kept hS.2.1).narrow (va_free hD hS h9 is hC)).moved hW.alike
/-- behind a call that makes no cell: the callee's cells as they are now, all others as they were -/
theorem run_in {k n mc ms pc : Nat} {ls : Array Slot} {st0 rest : List Value} {a : Array Value} {ws wc : va_W} {is : List Nat} {finC : Option Value → va_W → Prop} (h9 : ∀ q, s.heap.size ≤ q → A q) (hP : va_P (dG D) classes ws H) (hD : va_D A ws) (hS : va_S A s.heap H locs) (hC : is.map (fun i => ws[i]?) = wc.map some) (hn : va_nd is = true)
    (hr : va_Run p (dl D) e R s m args below meth c H locs k n mc ms (F0 m pc ls st0) rest (cQ D finC (va_A wc H.size) a) (va_A wc H.size))
    (kk : ∀ (v : Option Value) (w1 : va_W), finC v w1 → w1.map Prod.fst = wc.map Prod.fst ∧ ∀ (H1 : Heap) (locs1 : List Loc), va_P (dG D) classes (updw ws is w1) H1 → va_D A (updw ws is w1) → va_S A s.heap H1 locs1 → W p (dl D) e R s m args below meth c H1 locs1 (k + mc) (n + ms) Q (F0 m (pc + 3) ls (v.toList ++ rest))) : W p (dl D) e R s m args below meth c H locs k n Q (F0 m pc ls st0) := by
  intro T hT X
  obtain ⟨v, st₀, t, T', L, h0, X', hL, e1, e2, ⟨⟨v', w1, hv, hfin, hP1, hD1⟩, hz, hk⟩, stp⟩ := hr T hT X
  cases hv
  rw [h0] at hz hk
  obtain ⟨ha, kk⟩ := kk v w1 hfin
  have hF := va_free hD hS h9 is hC
  have hlen : is.length = w1.length := by
    have g1 := congrArg List.length hC
    have g2 := congrArg List.length ha
    simp only [List.length_map] at g1 g2
    omega
  have hS' : va_S A s.heap T'.heap (locs ++ L) := ⟨Nat.le_trans hS.1 (by rw [e1]; exact hz), fun q h1 h2 => by rw [e1, hk q (Nat.lt_of_lt_of_le h1 hS.1) (fun z => h2 (hF q z))]; exact hS.2.1 q h1 h2, fun q hq => by
      rcases List.mem_append.mp hq with h | h
      · exact hS.2.2 q h
      · exact hF _ (hL q h)⟩
  have hP' : va_P (dG D) classes (updw ws is w1) T'.heap := by
    intro j q hq
    rw [e1]
    rcases updw_at is ws w1 j q hq hlen with ⟨i, h1, h2⟩ | ⟨h1, h2⟩
    · exact hP1 i q h2
    · refine (hP j q h2).kept (hk q.1 (hP j q h2).lt (fun hz => ?_))
      rcases hz with ⟨k2, e', h⟩ | h
      · obtain ⟨i, h3, h4⟩ := wat hC k2 (q.1, e') h
        have hij := hD.1 j i q (q.1, e') h2 h4 rfl
        subst hij
        exact h1 (List.mem_of_getElem? h3)
      · exact absurd (hP j q h2).lt (Nat.not_lt.mpr h)
  have hA' : (updw ws is w1).map Prod.fst = ws.map Prod.fst := by
    refine updw_addr is ws wc w1 ?_ ha
    have g := congrArg (List.map (Option.map Prod.fst)) hC
    simp only [List.map_map] at g
    rw [List.map_map]
    refine Eq.trans (List.map_congr_left (fun i _ => ?_)) (g.trans (List.map_congr_left (fun i _ => rfl)))
    simp [List.getElem?_map]
  obtain ⟨t2, a1, b1⟩ := kk T'.heap (locs ++ L) hP' (va_D_addr hD hA') hS' T' rfl X'
  exact ⟨t2, stp t2 a1, b1⟩
end CA1
section CA2
variable {D : DX} {Γ : GX} {y : MethodName} {cc : ByteArray} {nL : Nat} {ret : Option FieldType} {R : Room} {Q : State → Prop} {k n : Nat} {w : va_W} {pc : Nat} {lv : List (Nat × Value)} {st : List Value}
variable {y' : MethodName} {b' : ByteArray} {n' np idx : Nat} {r' : Option FieldType} {rm : Room} {a : Nat} {As rest : List Value} {wc : va_W} {finC : Option Value → va_W → Prop} {own : String}
theorem j_callV (hM : Ct D y' b' n' r' rm (.ref a :: As) wc finC) (hy : y.cls = own) (cw : CwV own idx y' b' n' r' np) (hnp : As.length = np) (hR : rm.frames + 1 ≤ R.frames ∧ 8 + (n' + 11) + rm.locals ≤ R.locals) (h0 : rm.cells = 0 ∧ rm.slots = 0) (hkn : k ≤ R.cells ∧ n ≤ R.slots) (hdg : decode cc pc = .ok (.invokevirtual idx, 3)) (hst : st = As.reverse ++ .ref a :: rest) (hcat : (rest.map fun v => v.category).sum ≤ 8)
    (is : List Nat) (hC : is.map (fun i => w[i]?) = wc.map some) (hn : va_nd is = true) (ci q0 : Nat) {fs : List Value} {rc : vw_C} (he : wc[q0]? = some (a, .inr (ci, fs))) (hcl : classes[ci]? = some rc) (hrc : rc.1 = y'.cls)
    (kk : ∀ (v : Option Value) (w1 : va_W), finC v w1 → w1.map Prod.fst = wc.map Prod.fst ∧ J D Γ y cc nL ret R Q k n (updw w is w1) (pc + 3) lv (v.toList ++ rest)) : J D Γ y cc nL ret R Q k n w pc lv st := by
  subst hst
  subst hy
  obtain ⟨p, e, s, m, args, below, meth, c, A⟩ := Γ
  intro h H locs ls hP hD hS hl
  obtain ⟨⟨c1, c2, c3, c4⟩, c5, c6⟩ := cw
  have ht := h.2.2.2.2.2.1
  have hB : CallB R s args y.cls idx y' b' n' r' (.code y' b' n' r' :: lw_g) rm rm.cells rm.slots np := callB_of np ht (gd_c c3) rfl rfl rfl (ht _ c2) (ht _ c1) c4 hR
  refine run_in h.2.2.2.2.2.2.2.2.1 hP hD hS hC hn (va_runV (As := As) (rest := rest) ⟨h.1, h.2.1, h.2.2.2.1, h.2.2.2.2.1, ht⟩ (hM H.size) ⟨hB, ht _ c5, ht _ c6⟩ ⟨cP_blind _ _ _ _, ?_, fun U hU hW => pre_of h hP hD hS hC hn U hU hW⟩ rfl hnp hl.1 rfl (lv_room hcat) hdg ⟨by rw [h0.1]; exact hkn.1, by rw [h0.2]; exact hkn.2⟩) (fun v w1 hf => ?_)
  · rw [← hrc]
    exact va_recv h.2.2.2.2.2.2.2.1 (wsub hP hC) hcl he
  · obtain ⟨g1, g2⟩ := kk v w1 hf
    refine ⟨g1, fun H1 locs1 hP1 hD1 hS1 => ?_⟩
    rw [h0.1, h0.2]
    exact g2 h H1 locs1 ls hP1 hD1 hS1 hl
theorem j_callS (hM : Ct D y' b' n' r' rm As wc finC) (hy : y.cls = own) (cw : CwS own idx y' b' n' r' np) (hnp : As.length = np) (hR : rm.frames + 1 ≤ R.frames ∧ 8 + (n' + 11) + rm.locals ≤ R.locals) (h0 : rm.cells = 0 ∧ rm.slots = 0) (hkn : k ≤ R.cells ∧ n ≤ R.slots) (hdg : decode cc pc = .ok (.invokestatic idx, 3)) (hst : st = As.reverse ++ rest) (hcat : (rest.map fun v => v.category).sum ≤ 8)
    (is : List Nat) (hC : is.map (fun i => w[i]?) = wc.map some) (hn : va_nd is = true)
    (kk : ∀ (v : Option Value) (w1 : va_W), finC v w1 → w1.map Prod.fst = wc.map Prod.fst ∧ J D Γ y cc nL ret R Q k n (updw w is w1) (pc + 3) lv (v.toList ++ rest)) : J D Γ y cc nL ret R Q k n w pc lv st := by
  subst hst
  subst hy
  obtain ⟨p, e, s, m, args, below, meth, c, A⟩ := Γ
  intro h H locs ls hP hD hS hl
  obtain ⟨⟨c1, c2, c3, c4⟩, c5⟩ := cw
  have ht := h.2.2.2.2.2.1
  have hB : CallB R s args y.cls idx y' b' n' r' (.code y' b' n' r' :: lw_g) rm rm.cells rm.slots np := callB_of np ht (gd_c c3) rfl rfl rfl (ht _ c2) (ht _ c1) c4 hR
  refine run_in h.2.2.2.2.2.2.2.2.1 hP hD hS hC hn (va_runS (As := As) (rest := rest) ⟨h.1, h.2.1, h.2.2.2.1, h.2.2.2.2.1, ht⟩ (hM H.size) ⟨hB, ht _ c5⟩ ⟨cP_blind _ _ _ _, fun U hU hW => pre_of h hP hD hS hC hn U hU hW⟩ rfl hnp hl.1 rfl (lv_room hcat) hdg ⟨by rw [h0.1]; exact hkn.1, by rw [h0.2]; exact hkn.2⟩) (fun v w1 hf => ?_)
  obtain ⟨g1, g2⟩ := kk v w1 hf
  refine ⟨g1, fun H1 locs1 hP1 hD1 hS1 => ?_⟩
  rw [h0.1, h0.2]
  exact g2 h H1 locs1 ls hP1 hD1 hS1 hl
/-- the one call of a private method of a nest mate -/
theorem j_callN {rm : Room} (hM : Ct D yX4_within cX4_within 3 (some .boolean) rm As wc finC) (hy : y.cls = RX3) (hnp : As.length = 3) (hR : rm.frames + 1 ≤ R.frames ∧ 8 + (3 + 11) + rm.locals ≤ R.locals) (h0 : rm.cells = 0 ∧ rm.slots = 0) (hkn : k ≤ R.cells ∧ n ≤ R.slots) (hdg : decode cc pc = .ok (.invokestatic 66, 3)) (hst : st = As.reverse ++ rest) (hcat : (rest.map fun v => v.category).sum ≤ 8)
    (is : List Nat) (hC : is.map (fun i => w[i]?) = wc.map some) (hn : va_nd is = true)
    (kk : ∀ (v : Option Value) (w1 : va_W), finC v w1 → w1.map Prod.fst = wc.map Prod.fst ∧ J D Γ y cc nL ret R Q k n (updw w is w1) (pc + 3) lv (v.toList ++ rest)) : J D Γ y cc nL ret R Q k n w pc lv st := by
  subst hst
  obtain ⟨p, e, s, m, args, below, meth, c, A⟩ := Γ
  intro h H locs ls hP hD hS hl
  have ht := h.2.2.2.2.2.1
  have hB : va_CN R s args RX3 66 yX4_within RX4 cX4_within 3 (some .boolean) (.code yX4_within cX4_within 3 (some .boolean) :: lw_g) rm rm.cells rm.slots 3 := va_cnB 3 ht (gd_c m_co_X4_within) rfl rfl rfl h.2.2.2.2.2.2.2.2.2.2.2.1 (ht _ m_in_X4) (by decide +kernel) hR
  have h5 := h.2.2.2.2.1
  rw [hy] at h5
  refine run_in h.2.2.2.2.2.2.2.2.1 hP hD hS hC hn (va_runSN (As := As) (rest := rest) ⟨h.1, h.2.1, h.2.2.2.1, h5, ht⟩ (hM H.size) ⟨hB, ht _ m_st_X4_within, trivial⟩ ⟨cP_blind _ _ _ _, fun U hU hW => pre_of h hP hD hS hC hn U hU hW⟩ rfl hnp hl.1 rfl (lv_room hcat) hdg ⟨by rw [h0.1]; exact hkn.1, by rw [h0.2]; exact hkn.2⟩) (fun v w1 hf => ?_)
  obtain ⟨g1, g2⟩ := kk v w1 hf
  refine ⟨g1, fun H1 locs1 hP1 hD1 hS1 => ?_⟩
  rw [h0.1, h0.2]
  exact g2 h H1 locs1 ls hP1 hD1 hS1 hl
end CA2
/-- a contract that tells just what is answered and what the world is then -/
abbrev Cd (D : DX) (y : MethodName) (b : ByteArray) (n : Nat) (r : Option FieldType) (rm : Room) (av : List Value) (w : va_W) (rv : Option Value) (w' : va_W) : Prop := Ct D y b n r rm av w (fun v u => v = rv ∧ u = w')
section CA3
variable {D : DX} {Γ : GX} {y : MethodName} {cc : ByteArray} {nL : Nat} {ret : Option FieldType} {R : Room} {Q : State → Prop} {k n : Nat} {w : va_W} {pc : Nat} {lv : List (Nat × Value)} {st : List Value}
variable {y' : MethodName} {b' : ByteArray} {n' np idx : Nat} {r' : Option FieldType} {rm : Room} {a : Nat} {As : List Value} {wc w1 w2 : va_W} {rv : Option Value} {own : String} {st2 : List Value}
theorem j_V (hM : Cd D y' b' n' r' rm (.ref a :: As) wc rv w1) (hy : y.cls = own) (cw : CwV own idx y' b' n' r' np) (hdg : decode cc pc = .ok (.invokevirtual idx, 3)) (rest : List Value) (hst : st = As.reverse ++ .ref a :: rest) (is : List Nat) (hC : is.map (fun i => w[i]?) = wc.map some) (hw : updw w is w1 = w2) (hst2 : rv.toList ++ rest = st2) (ci : Nat)
    (kk : J D Γ y cc nL ret R Q k n w2 (pc + 3) lv st2) (hsd : As.length = np ∧ (rm.frames + 1 ≤ R.frames ∧ 8 + (n' + 11) + rm.locals ≤ R.locals) ∧ (rm.cells = 0 ∧ rm.slots = 0) ∧ (k ≤ R.cells ∧ n ≤ R.slots) ∧ (rest.map fun v => v.category).sum ≤ 8 ∧ va_nd is = true ∧ w1.map Prod.fst = wc.map Prod.fst) {fs : List Value} (he : wc[0]? = some (a, .inr (ci, fs))) {rc : vw_C} (hcl : classes[ci]? = some rc) (hrc : rc.1 = y'.cls) : J D Γ y cc nL ret R Q k n w pc lv st := by
  obtain ⟨s1, s2, s3, s4, s5, s6, s7⟩ := hsd
  refine j_callV hM hy cw s1 s2 s3 s4 hdg hst s5 is hC s6 ci 0 he hcl hrc (fun v u hf => ?_)
  obtain ⟨rfl, rfl⟩ := hf
  exact ⟨s7, by rw [hw, hst2]; exact kk⟩
theorem j_S (hM : Cd D y' b' n' r' rm As wc rv w1) (hy : y.cls = own) (cw : CwS own idx y' b' n' r' np) (hdg : decode cc pc = .ok (.invokestatic idx, 3)) (rest : List Value) (hst : st = As.reverse ++ rest) (is : List Nat) (hC : is.map (fun i => w[i]?) = wc.map some) (hw : updw w is w1 = w2) (hst2 : rv.toList ++ rest = st2)
    (kk : J D Γ y cc nL ret R Q k n w2 (pc + 3) lv st2) (hsd : As.length = np ∧ (rm.frames + 1 ≤ R.frames ∧ 8 + (n' + 11) + rm.locals ≤ R.locals) ∧ (rm.cells = 0 ∧ rm.slots = 0) ∧ (k ≤ R.cells ∧ n ≤ R.slots) ∧ (rest.map fun v => v.category).sum ≤ 8 ∧ va_nd is = true ∧ w1.map Prod.fst = wc.map Prod.fst) : J D Γ y cc nL ret R Q k n w pc lv st := by
  obtain ⟨s1, s2, s3, s4, s5, s6, s7⟩ := hsd
  refine j_callS hM hy cw s1 s2 s3 s4 hdg hst s5 is hC s6 (fun v u hf => ?_)
  obtain ⟨rfl, rfl⟩ := hf
  exact ⟨s7, by rw [hw, hst2]; exact kk⟩
theorem j_N (hM : Cd D yX4_within cX4_within 3 (some .boolean) rm As wc rv w1) (hy : y.cls = RX3) (hdg : decode cc pc = .ok (.invokestatic 66, 3)) (rest : List Value) (hst : st = As.reverse ++ rest) (is : List Nat) (hC : is.map (fun i => w[i]?) = wc.map some) (hw : updw w is w1 = w2) (hst2 : rv.toList ++ rest = st2)
    (kk : J D Γ y cc nL ret R Q k n w2 (pc + 3) lv st2) (hsd : As.length = 3 ∧ (rm.frames + 1 ≤ R.frames ∧ 8 + (3 + 11) + rm.locals ≤ R.locals) ∧ (rm.cells = 0 ∧ rm.slots = 0) ∧ (k ≤ R.cells ∧ n ≤ R.slots) ∧ (rest.map fun v => v.category).sum ≤ 8 ∧ va_nd is = true ∧ w1.map Prod.fst = wc.map Prod.fst) : J D Γ y cc nL ret R Q k n w pc lv st := by
  obtain ⟨s1, s2, s3, s4, s5, s6, s7⟩ := hsd
  refine j_callN hM hy s1 s2 s3 s4 hdg hst s5 is hC s6 (fun v u hf => ?_)
  obtain ⟨rfl, rfl⟩ := hf
  exact ⟨s7, by rw [hw, hst2]; exact kk⟩
end CA3

theorem cw_L_13 : CwV RL 13 yX4_type cX4_type 2 (some .int) 1 := ⟨⟨m_ml_L_13, m_in_X4, m_co_X4_type, by decide +kernel⟩, m_im_X4_type, m_se_X4_type⟩
theorem cw_L_17 : CwV RL 17 yX5_type cX5_type 2 (some .int) 1 := ⟨⟨m_ml_L_17, m_in_X5, m_co_X5_type, by decide +kernel⟩, m_im_X5_type, m_se_X5_type⟩
theorem cw_L_18 : CwV RL 18 yX4_clear cX4_clear 2 (some .int) 0 := ⟨⟨m_ml_L_18, m_in_X4, m_co_X4_clear, by decide +kernel⟩, m_im_X4_clear, m_se_X4_clear⟩
theorem cw_L_22 : CwV RL 22 yX5_clear cX5_clear 2 (some .int) 0 := ⟨⟨m_ml_L_22, m_in_X5, m_co_X5_clear, by decide +kernel⟩, m_im_X5_clear, m_se_X5_clear⟩
theorem cw_L_23 : CwV RL 23 yX4_posts cX4_posts 3 (some .int) 0 := ⟨⟨m_ml_L_23, m_in_X4, m_co_X4_posts, by decide +kernel⟩, m_im_X4_posts, m_se_X4_posts⟩
theorem cw_L_26 : CwV RL 26 yX5_posts cX5_posts 1 (some .int) 0 := ⟨⟨m_ml_L_26, m_in_X5, m_co_X5_posts, by decide +kernel⟩, m_im_X5_posts, m_se_X5_posts⟩
theorem cw_L_27 : CwV RL 27 yX4_ticks cX4_ticks 4 (some .int) 1 := ⟨⟨m_ml_L_27, m_in_X4, m_co_X4_ticks, by decide +kernel⟩, m_im_X4_ticks, m_se_X4_ticks⟩
theorem cw_L_30 : CwV RL 30 yX5_ticks cX5_ticks 4 (some .int) 1 := ⟨⟨m_ml_L_30, m_in_X5, m_co_X5_ticks, by decide +kernel⟩, m_im_X5_ticks, m_se_X5_ticks⟩
theorem cw_L_31 : CwV RL 31 yX4_cancels cX4_cancels 2 (some .int) 1 := ⟨⟨m_ml_L_31, m_in_X4, m_co_X4_cancels, by decide +kernel⟩, m_im_X4_cancels, m_se_X4_cancels⟩
theorem cw_L_34 : CwV RL 34 yX5_cancels cX5_cancels 6 (some .int) 1 := ⟨⟨m_ml_L_34, m_in_X5, m_co_X5_cancels, by decide +kernel⟩, m_im_X5_cancels, m_se_X5_cancels⟩
theorem cw_L_35 : CwV RL 35 yX4_switches cX4_switches 3 (some .int) 1 := ⟨⟨m_ml_L_35, m_in_X4, m_co_X4_switches, by decide +kernel⟩, m_im_X4_switches, m_se_X4_switches⟩
theorem cw_L_38 : CwV RL 38 yX5_switches cX5_switches 3 (some .int) 1 := ⟨⟨m_ml_L_38, m_in_X5, m_co_X5_switches, by decide +kernel⟩, m_im_X5_switches, m_se_X5_switches⟩
theorem cw_L_39 : CwV RL 39 yX4_tunes cX4_tunes 4 (some .int) 3 := ⟨⟨m_ml_L_39, m_in_X4, m_co_X4_tunes, by decide +kernel⟩, m_im_X4_tunes, m_se_X4_tunes⟩
theorem cw_L_43 : CwV RL 43 yX5_tunes cX5_tunes 5 (some .int) 3 := ⟨⟨m_ml_L_43, m_in_X5, m_co_X5_tunes, by decide +kernel⟩, m_im_X5_tunes, m_se_X5_tunes⟩
theorem cw_L_44 : CwV RL 44 yX4_undo cX4_undo 1 (some .int) 0 := ⟨⟨m_ml_L_44, m_in_X4, m_co_X4_undo, by decide +kernel⟩, m_im_X4_undo, m_se_X4_undo⟩
theorem cw_L_47 : CwV RL 47 yX5_undo cX5_undo 2 (some .int) 0 := ⟨⟨m_ml_L_47, m_in_X5, m_co_X5_undo, by decide +kernel⟩, m_im_X5_undo, m_se_X5_undo⟩
theorem cw_L_48 : CwV RL 48 yX4_at cX4_at 2 (some .int) 1 := ⟨⟨m_ml_L_48, m_in_X4, m_co_X4_at, by decide +kernel⟩, m_im_X4_at, m_se_X4_at⟩
theorem cw_L_51 : CwV RL 51 yX5_at cX5_at 2 (some .int) 1 := ⟨⟨m_ml_L_51, m_in_X5, m_co_X5_at, by decide +kernel⟩, m_im_X5_at, m_se_X5_at⟩
theorem cw_L_52 : CwV RL 52 yX4_channel cX4_channel 3 (some .int) 2 := ⟨⟨m_ml_L_52, m_in_X4, m_co_X4_channel, by decide +kernel⟩, m_im_X4_channel, m_se_X4_channel⟩
theorem cw_L_56 : CwV RL 56 yX5_channel cX5_channel 4 (some .int) 2 := ⟨⟨m_ml_L_56, m_in_X5, m_co_X5_channel, by decide +kernel⟩, m_im_X5_channel, m_se_X5_channel⟩
theorem cw_L_57 : CwV RL 57 yX4_slot cX4_slot 5 (some .int) 3 := ⟨⟨m_ml_L_57, m_in_X4, m_co_X4_slot, by decide +kernel⟩, m_im_X4_slot, m_se_X4_slot⟩
theorem cw_L_60 : CwV RL 60 yX5_slot cX5_slot 5 (some .int) 3 := ⟨⟨m_ml_L_60, m_in_X5, m_co_X5_slot, by decide +kernel⟩, m_im_X5_slot, m_se_X5_slot⟩
theorem cw_L_61 : CwV RL 61 yX4_unit cX4_unit 6 (some .int) 4 := ⟨⟨m_ml_L_61, m_in_X4, m_co_X4_unit, by decide +kernel⟩, m_im_X4_unit, m_se_X4_unit⟩
theorem cw_L_65 : CwV RL 65 yX5_unit cX5_unit 6 (some .int) 4 := ⟨⟨m_ml_L_65, m_in_X5, m_co_X5_unit, by decide +kernel⟩, m_im_X5_unit, m_se_X5_unit⟩
theorem cw_L_66 : CwV RL 66 yX4_waiting cX4_waiting 3 (some .int) 1 := ⟨⟨m_ml_L_66, m_in_X4, m_co_X4_waiting, by decide +kernel⟩, m_im_X4_waiting, m_se_X4_waiting⟩
theorem cw_L_69 : CwV RL 69 yX5_waiting cX5_waiting 2 (some .int) 1 := ⟨⟨m_ml_L_69, m_in_X5, m_co_X5_waiting, by decide +kernel⟩, m_im_X5_waiting, m_se_X5_waiting⟩
theorem cw_L_70 : CwV RL 70 yX4_both cX4_both 7 (some .int) 4 := ⟨⟨m_ml_L_70, m_in_X4, m_co_X4_both, by decide +kernel⟩, m_im_X4_both, m_se_X4_both⟩
theorem cw_L_73 : CwV RL 73 yX5_both cX5_both 11 (some .int) 4 := ⟨⟨m_ml_L_73, m_in_X5, m_co_X5_both, by decide +kernel⟩, m_im_X5_both, m_se_X5_both⟩
theorem cw_L_74 : CwV RL 74 yX4_over cX4_over 2 (some .int) 1 := ⟨⟨m_ml_L_74, m_in_X4, m_co_X4_over, by decide +kernel⟩, m_im_X4_over, m_se_X4_over⟩
theorem cw_L_77 : CwV RL 77 yX5_over cX5_over 3 (some .int) 1 := ⟨⟨m_ml_L_77, m_in_X5, m_co_X5_over, by decide +kernel⟩, m_im_X5_over, m_se_X5_over⟩
theorem cw_L_78 : CwV RL 78 yX4_lands cX4_lands 2 (some .int) 1 := ⟨⟨m_ml_L_78, m_in_X4, m_co_X4_lands, by decide +kernel⟩, m_im_X4_lands, m_se_X4_lands⟩
theorem cw_L_81 : CwV RL 81 yX5_lands cX5_lands 6 (some .int) 1 := ⟨⟨m_ml_L_81, m_in_X5, m_co_X5_lands, by decide +kernel⟩, m_im_X5_lands, m_se_X5_lands⟩
theorem cw_L_82 : CwV RL 82 yX4_enough cX4_enough 4 (some .int) 2 := ⟨⟨m_ml_L_82, m_in_X4, m_co_X4_enough, by decide +kernel⟩, m_im_X4_enough, m_se_X4_enough⟩
theorem cw_L_85 : CwV RL 85 yX5_enough cX5_enough 6 (some .int) 2 := ⟨⟨m_ml_L_85, m_in_X5, m_co_X5_enough, by decide +kernel⟩, m_im_X5_enough, m_se_X5_enough⟩
theorem cw_L_86 : CwV RL 86 yX4_granted cX4_granted 3 (some .int) 1 := ⟨⟨m_ml_L_86, m_in_X4, m_co_X4_granted, by decide +kernel⟩, m_im_X4_granted, m_se_X4_granted⟩
theorem cw_L_89 : CwV RL 89 yX5_granted cX5_granted 4 (some .int) 1 := ⟨⟨m_ml_L_89, m_in_X5, m_co_X5_granted, by decide +kernel⟩, m_im_X5_granted, m_se_X5_granted⟩
theorem cw_L_90 : CwV RL 90 yX4_sees cX4_sees 3 (some .int) 2 := ⟨⟨m_ml_L_90, m_in_X4, m_co_X4_sees, by decide +kernel⟩, m_im_X4_sees, m_se_X4_sees⟩
theorem cw_L_93 : CwV RL 93 yX5_sees cX5_sees 3 (some .int) 2 := ⟨⟨m_ml_L_93, m_in_X5, m_co_X5_sees, by decide +kernel⟩, m_im_X5_sees, m_se_X5_sees⟩
theorem cw_L_94 : CwV RL 94 yX4_forget cX4_forget 2 (some .int) 0 := ⟨⟨m_ml_L_94, m_in_X4, m_co_X4_forget, by decide +kernel⟩, m_im_X4_forget, m_se_X4_forget⟩
theorem cw_L_97 : CwV RL 97 yX5_forget cX5_forget 2 (some .int) 0 := ⟨⟨m_ml_L_97, m_in_X5, m_co_X5_forget, by decide +kernel⟩, m_im_X5_forget, m_se_X5_forget⟩
theorem cw_L_98 : CwV RL 98 yX4_ranks cX4_ranks 4 (some .int) 1 := ⟨⟨m_ml_L_98, m_in_X4, m_co_X4_ranks, by decide +kernel⟩, m_im_X4_ranks, m_se_X4_ranks⟩
theorem cw_L_101 : CwV RL 101 yX5_ranks cX5_ranks 4 (some .int) 1 := ⟨⟨m_ml_L_101, m_in_X5, m_co_X5_ranks, by decide +kernel⟩, m_im_X5_ranks, m_se_X5_ranks⟩
theorem cw_L_102 : CwV RL 102 yX4_keep cX4_keep 2 (some .int) 1 := ⟨⟨m_ml_L_102, m_in_X4, m_co_X4_keep, by decide +kernel⟩, m_im_X4_keep, m_se_X4_keep⟩
theorem cw_L_105 : CwV RL 105 yX5_keep cX5_keep 3 (some .int) 1 := ⟨⟨m_ml_L_105, m_in_X5, m_co_X5_keep, by decide +kernel⟩, m_im_X5_keep, m_se_X5_keep⟩
theorem cw_L_106 : CwV RL 106 yX4_back cX4_back 2 (some .int) 1 := ⟨⟨m_ml_L_106, m_in_X4, m_co_X4_back, by decide +kernel⟩, m_im_X4_back, m_se_X4_back⟩
theorem cw_L_109 : CwV RL 109 yX5_back cX5_back 3 (some .int) 1 := ⟨⟨m_ml_L_109, m_in_X5, m_co_X5_back, by decide +kernel⟩, m_im_X5_back, m_se_X5_back⟩
theorem cw_L_110 : CwV RL 110 yX4_count cX4_count 2 (some .int) 1 := ⟨⟨m_ml_L_110, m_in_X4, m_co_X4_count, by decide +kernel⟩, m_im_X4_count, m_se_X4_count⟩
theorem cw_L_113 : CwV RL 113 yX5_count cX5_count 2 (some .int) 1 := ⟨⟨m_ml_L_113, m_in_X5, m_co_X5_count, by decide +kernel⟩, m_im_X5_count, m_se_X5_count⟩
theorem cw_X0_40 : CwV RX0 40 yX0_ofLetter cX0_ofLetter 3 (some .int) 2 := ⟨⟨m_ml_X0_40, m_in_X0, m_co_X0_ofLetter, by decide +kernel⟩, m_im_X0_ofLetter, m_se_X0_ofLetter⟩
theorem cw_X0_44 : CwS RX0 44 yJ9_floorMod_7cf53 cJ9_floorMod_7cf53 3 (some .int) 2 := ⟨⟨m_ml_X0_44, m_in_J9, m_co_J9_floorMod_7cf53, by decide +kernel⟩, m_st_J9_floorMod_7cf53⟩
theorem cw_X0_49 : CwV RX0 49 yX0_unitsOf cX0_unitsOf 2 (some .int) 1 := ⟨⟨m_ml_X0_49, m_in_X0, m_co_X0_unitsOf, by decide +kernel⟩, m_im_X0_unitsOf, m_se_X0_unitsOf⟩
theorem cw_X0_53 : CwV RX0 53 yX0_addressOf cX0_addressOf 8 (some .int) 3 := ⟨⟨m_ml_X0_53, m_in_X0, m_co_X0_addressOf, by decide +kernel⟩, m_im_X0_addressOf, m_se_X0_addressOf⟩
theorem cw_X0_57 : CwV RX0 57 yX0_isToCarry cX0_isToCarry 3 (some .boolean) 1 := ⟨⟨m_ml_X0_57, m_in_X0, m_co_X0_isToCarry, by decide +kernel⟩, m_im_X0_isToCarry, m_se_X0_isToCarry⟩
theorem cw_X0_61 : CwV RX0 61 yX0_uncarriedBoundFor cX0_uncarriedBoundFor 6 (some .int) 2 := ⟨⟨m_ml_X0_61, m_in_X0, m_co_X0_uncarriedBoundFor, by decide +kernel⟩, m_im_X0_uncarriedBoundFor, m_se_X0_uncarriedBoundFor⟩
theorem cw_X0_64 : CwS RX0 64 yX0_placeOf cX0_placeOf 2 (some .int) 2 := ⟨⟨m_ml_X0_64, m_in_X0, m_co_X0_placeOf, by decide +kernel⟩, m_st_X0_placeOf⟩
theorem cw_X0_67 : CwV RX0 67 yX0_isEngines cX0_isEngines 2 (some .boolean) 1 := ⟨⟨m_ml_X0_67, m_in_X0, m_co_X0_isEngines, by decide +kernel⟩, m_im_X0_isEngines, m_se_X0_isEngines⟩
theorem cw_X0_70 : CwV RX0 70 yX0_engineLettersOf cX0_engineLettersOf 4 (some .int) 1 := ⟨⟨m_ml_X0_70, m_in_X0, m_co_X0_engineLettersOf, by decide +kernel⟩, m_im_X0_engineLettersOf, m_se_X0_engineLettersOf⟩
theorem cw_X0_73 : CwV RX0 73 yX0_ofChannel cX0_ofChannel 3 (some .int) 2 := ⟨⟨m_ml_X0_73, m_in_X0, m_co_X0_ofChannel, by decide +kernel⟩, m_im_X0_ofChannel, m_se_X0_ofChannel⟩
theorem cw_X0_76 : CwV RX0 76 yX0_presentOf cX0_presentOf 3 (some .int) 1 := ⟨⟨m_ml_X0_76, m_in_X0, m_co_X0_presentOf, by decide +kernel⟩, m_im_X0_presentOf, m_se_X0_presentOf⟩
theorem cw_X0_79 : CwV RX0 79 yX3_number cX3_number 3 (some .int) 2 := ⟨⟨m_ml_X0_79, m_in_X3, m_co_X3_number, by decide +kernel⟩, m_im_X3_number, m_se_X3_number⟩
theorem cw_X0_84 : CwV RX0 84 yX3_kind cX3_kind 2 (some .int) 1 := ⟨⟨m_ml_X0_84, m_in_X3, m_co_X3_kind, by decide +kernel⟩, m_im_X3_kind, m_se_X3_kind⟩
theorem cw_X0_87 : CwV RX0 87 yX0_post cX0_post 7 (some .boolean) 3 := ⟨⟨m_ml_X0_87, m_in_X0, m_co_X0_post, by decide +kernel⟩, m_im_X0_post, m_se_X0_post⟩
theorem cw_X0_91 : CwV RX0 91 yX0_setChannel cX0_setChannel 4 none 3 := ⟨⟨m_ml_X0_91, m_in_X0, m_co_X0_setChannel, by decide +kernel⟩, m_im_X0_setChannel, m_se_X0_setChannel⟩
theorem cw_X0_95 : CwV RX0 95 yX0_setLetter cX0_setLetter 4 none 3 := ⟨⟨m_ml_X0_95, m_in_X0, m_co_X0_setLetter, by decide +kernel⟩, m_im_X0_setLetter, m_se_X0_setLetter⟩
theorem cw_X0_98 : CwS RX0 98 yX0_slotBehind cX0_slotBehind 1 (some .int) 1 := ⟨⟨m_ml_X0_98, m_in_X0, m_co_X0_slotBehind, by decide +kernel⟩, m_st_X0_slotBehind⟩
theorem cw_X0_101 : CwV RX0 101 yX0_writeBack cX0_writeBack 4 none 1 := ⟨⟨m_ml_X0_101, m_in_X0, m_co_X0_writeBack, by decide +kernel⟩, m_im_X0_writeBack, m_se_X0_writeBack⟩
theorem cw_X0_105 : CwV RX0 105 yX0_nextToGrant cX0_nextToGrant 4 (some .int) 0 := ⟨⟨m_ml_X0_105, m_in_X0, m_co_X0_nextToGrant, by decide +kernel⟩, m_im_X0_nextToGrant, m_se_X0_nextToGrant⟩
theorem cw_X0_109 : CwV RX0 109 yX0_grant cX0_grant 6 none 2 := ⟨⟨m_ml_X0_109, m_in_X0, m_co_X0_grant, by decide +kernel⟩, m_im_X0_grant, m_se_X0_grant⟩
theorem cw_X0_113 : CwV RX0 113 yX0_addOneTo cX0_addOneTo 3 none 2 := ⟨⟨m_ml_X0_113, m_in_X0, m_co_X0_addOneTo, by decide +kernel⟩, m_im_X0_addOneTo, m_se_X0_addOneTo⟩
theorem cw_X0_117 : CwV RX0 117 yX0_isReady cX0_isReady 3 (some .boolean) 1 := ⟨⟨m_ml_X0_117, m_in_X0, m_co_X0_isReady, by decide +kernel⟩, m_im_X0_isReady, m_se_X0_isReady⟩
theorem cw_X0_120 : CwS RX0 120 yJ9_min_7cf53 cJ9_min_7cf53 2 (some .int) 2 := ⟨⟨m_ml_X0_120, m_in_J9, m_co_J9_min_7cf53, by decide +kernel⟩, m_st_J9_min_7cf53⟩
theorem cw_X0_123 : CwV RX0 123 yX0_carry cX0_carry 5 none 3 := ⟨⟨m_ml_X0_123, m_in_X0, m_co_X0_carry, by decide +kernel⟩, m_im_X0_carry, m_se_X0_carry⟩
theorem cw_X0_126 : CwV RX0 126 yX0_letWait cX0_letWait 3 none 2 := ⟨⟨m_ml_X0_126, m_in_X0, m_co_X0_letWait, by decide +kernel⟩, m_im_X0_letWait, m_se_X0_letWait⟩
theorem cw_X0_129 : CwV RX0 129 yX0_writeBackAllOf cX0_writeBackAllOf 4 none 1 := ⟨⟨m_ml_X0_129, m_in_X0, m_co_X0_writeBackAllOf, by decide +kernel⟩, m_im_X0_writeBackAllOf, m_se_X0_writeBackAllOf⟩
theorem cw_X1_23 : CwV RX1 23 yX0_copyFrom cX0_copyFrom 2 none 1 := ⟨⟨m_ml_X1_23, m_in_X0, m_co_X0_copyFrom, by decide +kernel⟩, m_im_X0_copyFrom, m_se_X0_copyFrom⟩
theorem cw_X1_27 : CwS RX1 27 yJ9_min_7cf53 cJ9_min_7cf53 2 (some .int) 2 := ⟨⟨m_ml_X1_27, m_in_J9, m_co_J9_min_7cf53, by decide +kernel⟩, m_st_J9_min_7cf53⟩
theorem cw_X2_20 : CwV RX2 20 yX2_lastTick cX2_lastTick 3 (some .int) 0 := ⟨⟨m_ml_X2_20, m_in_X2, m_co_X2_lastTick, by decide +kernel⟩, m_im_X2_lastTick, m_se_X2_lastTick⟩
theorem cw_X2_24 : CwV RX2 24 yX0_tick cX0_tick 3 (some .int) 1 := ⟨⟨m_ml_X2_24, m_in_X0, m_co_X0_tick, by decide +kernel⟩, m_im_X0_tick, m_se_X0_tick⟩
theorem cw_X2_30 : CwV RX2 30 yX2_allowsInTick cX2_allowsInTick 4 (some .boolean) 2 := ⟨⟨m_ml_X2_30, m_in_X2, m_co_X2_allowsInTick, by decide +kernel⟩, m_im_X2_allowsInTick, m_se_X2_allowsInTick⟩
theorem cw_X2_34 : CwS RX2 34 yJ9_max_7cf53 cJ9_max_7cf53 2 (some .int) 2 := ⟨⟨m_ml_X2_34, m_in_J9, m_co_J9_max_7cf53, by decide +kernel⟩, m_st_J9_max_7cf53⟩
theorem cw_X3_29 : CwV RX3 29 yX3_skipBlanks cX3_skipBlanks 1 none 0 := ⟨⟨m_ml_X3_29, m_in_X3, m_co_X3_skipBlanks, by decide +kernel⟩, m_im_X3_skipBlanks, m_se_X3_skipBlanks⟩
theorem cw_X3_32 : CwV RX3 32 yX3_readItem cX3_readItem 2 (some .boolean) 0 := ⟨⟨m_ml_X3_32, m_in_X3, m_co_X3_readItem, by decide +kernel⟩, m_im_X3_readItem, m_se_X3_readItem⟩
theorem cw_X3_42 : CwV RX3 42 yX3_readForm cX3_readForm 5 (some .boolean) 3 := ⟨⟨m_ml_X3_42, m_in_X3, m_co_X3_readForm, by decide +kernel⟩, m_im_X3_readForm, m_se_X3_readForm⟩
theorem cw_X3_58 : CwV RX3 58 yX3_readNumber cX3_readNumber 8 (some .boolean) 3 := ⟨⟨m_ml_X3_58, m_in_X3, m_co_X3_readNumber, by decide +kernel⟩, m_im_X3_readNumber, m_se_X3_readNumber⟩
theorem cw_X3_62 : CwS RX3 62 yX3_isFigure cX3_isFigure 1 (some .boolean) 1 := ⟨⟨m_ml_X3_62, m_in_X3, m_co_X3_isFigure, by decide +kernel⟩, m_st_X3_isFigure⟩
theorem cw_X4_48 : CwS RX4 48 yX4_within cX4_within 3 (some .boolean) 3 := ⟨⟨m_ml_X4_48, m_in_X4, m_co_X4_within, by decide +kernel⟩, m_st_X4_within⟩
theorem cw_X4_52 : CwV RX4 52 yX3_append cX3_append 2 (some .boolean) 1 := ⟨⟨m_ml_X4_52, m_in_X3, m_co_X3_append, by decide +kernel⟩, m_im_X3_append, m_se_X3_append⟩
theorem cw_X4_60 : CwV RX4 60 yX3_wipe cX3_wipe 1 none 0 := ⟨⟨m_ml_X4_60, m_in_X3, m_co_X3_wipe, by decide +kernel⟩, m_im_X3_wipe, m_se_X3_wipe⟩
theorem cw_X4_63 : CwV RX4 63 yX3_read cX3_read 1 (some .int) 0 := ⟨⟨m_ml_X4_63, m_in_X3, m_co_X3_read, by decide +kernel⟩, m_im_X3_read, m_se_X3_read⟩
theorem cw_X4_67 : CwV RX4 67 yX0_copyFrom cX0_copyFrom 2 none 1 := ⟨⟨m_ml_X4_67, m_in_X0, m_co_X0_copyFrom, by decide +kernel⟩, m_im_X0_copyFrom, m_se_X0_copyFrom⟩
theorem cw_X4_74 : CwV RX4 74 yX0_take cX0_take 4 (some .boolean) 2 := ⟨⟨m_ml_X4_74, m_in_X0, m_co_X0_take, by decide +kernel⟩, m_im_X0_take, m_se_X0_take⟩
theorem cw_X4_78 : CwV RX4 78 yX1_remember cX1_remember 2 none 1 := ⟨⟨m_ml_X4_78, m_in_X1, m_co_X1_remember, by decide +kernel⟩, m_im_X1_remember, m_se_X1_remember⟩
theorem cw_X4_81 : CwV RX4 81 yX0_tick cX0_tick 3 (some .int) 1 := ⟨⟨m_ml_X4_81, m_in_X0, m_co_X0_tick, by decide +kernel⟩, m_im_X0_tick, m_se_X0_tick⟩
theorem cw_X4_85 : CwS RX4 85 yX4_isChannel cX4_isChannel 1 (some .boolean) 1 := ⟨⟨m_ml_X4_85, m_in_X4, m_co_X4_isChannel, by decide +kernel⟩, m_st_X4_isChannel⟩
theorem cw_X4_88 : CwV RX4 88 yX0_presentOf cX0_presentOf 3 (some .int) 1 := ⟨⟨m_ml_X4_88, m_in_X0, m_co_X0_presentOf, by decide +kernel⟩, m_im_X0_presentOf, m_se_X0_presentOf⟩
theorem cw_X4_92 : CwV RX4 92 yX0_cancel cX0_cancel 7 (some .int) 1 := ⟨⟨m_ml_X4_92, m_in_X0, m_co_X0_cancel, by decide +kernel⟩, m_im_X0_cancel, m_se_X0_cancel⟩
theorem cw_X4_95 : CwV RX4 95 yX0_ofChannel cX0_ofChannel 3 (some .int) 2 := ⟨⟨m_ml_X4_95, m_in_X0, m_co_X0_ofChannel, by decide +kernel⟩, m_im_X0_ofChannel, m_se_X0_ofChannel⟩
theorem cw_X4_99 : CwV RX4 99 yX0_setChannel cX0_setChannel 4 none 3 := ⟨⟨m_ml_X4_99, m_in_X0, m_co_X0_setChannel, by decide +kernel⟩, m_im_X0_setChannel, m_se_X0_setChannel⟩
theorem cw_X4_103 : CwV RX4 103 yX1_restore cX1_restore 2 (some .boolean) 1 := ⟨⟨m_ml_X4_103, m_in_X1, m_co_X1_restore, by decide +kernel⟩, m_im_X1_restore, m_se_X1_restore⟩
theorem cw_X4_114 : CwV RX4 114 yX4_presentResidue cX4_presentResidue 3 (some .int) 1 := ⟨⟨m_ml_X4_114, m_in_X4, m_co_X4_presentResidue, by decide +kernel⟩, m_im_X4_presentResidue, m_se_X4_presentResidue⟩
theorem cw_X4_117 : CwV RX4 117 yX0_isReady cX0_isReady 3 (some .boolean) 1 := ⟨⟨m_ml_X4_117, m_in_X0, m_co_X0_isReady, by decide +kernel⟩, m_im_X0_isReady, m_se_X0_isReady⟩
theorem cw_X4_120 : CwS RX4 120 yX4_isSlot cX4_isSlot 2 (some .boolean) 2 := ⟨⟨m_ml_X4_120, m_in_X4, m_co_X4_isSlot, by decide +kernel⟩, m_st_X4_isSlot⟩
theorem cw_X4_124 : CwS RX4 124 yX0_placeOf cX0_placeOf 2 (some .int) 2 := ⟨⟨m_ml_X4_124, m_in_X0, m_co_X0_placeOf, by decide +kernel⟩, m_st_X0_placeOf⟩
theorem cw_X4_127 : CwV RX4 127 yX0_hasLetter cX0_hasLetter 2 (some .boolean) 1 := ⟨⟨m_ml_X4_127, m_in_X0, m_co_X0_hasLetter, by decide +kernel⟩, m_im_X0_hasLetter, m_se_X0_hasLetter⟩
theorem cw_X4_130 : CwV RX4 130 yX0_ofLetter cX0_ofLetter 3 (some .int) 2 := ⟨⟨m_ml_X4_130, m_in_X0, m_co_X0_ofLetter, by decide +kernel⟩, m_im_X0_ofLetter, m_se_X0_ofLetter⟩
theorem cw_X4_133 : CwV RX4 133 yX0_unitsOf cX0_unitsOf 2 (some .int) 1 := ⟨⟨m_ml_X4_133, m_in_X0, m_co_X0_unitsOf, by decide +kernel⟩, m_im_X0_unitsOf, m_se_X0_unitsOf⟩
theorem cw_X4_136 : CwV RX4 136 yX0_addressOf cX0_addressOf 8 (some .int) 3 := ⟨⟨m_ml_X4_136, m_in_X0, m_co_X0_addressOf, by decide +kernel⟩, m_im_X0_addressOf, m_se_X0_addressOf⟩
theorem cw_X4_146 : CwV RX4 146 yX0_writtenBy cX0_writtenBy 6 (some .long) 1 := ⟨⟨m_ml_X4_146, m_in_X0, m_co_X0_writtenBy, by decide +kernel⟩, m_im_X0_writtenBy, m_se_X0_writtenBy⟩
theorem cw_X4_150 : CwS RX4 150 yJ13_bitCount_95d88 cJ13_bitCount_95d88 2 (some .int) 1 := ⟨⟨m_ml_X4_150, m_in_J13, m_co_J13_bitCount_95d88, by decide +kernel⟩, m_st_J13_bitCount_95d88⟩
theorem cw_X4_156 : CwV RX4 156 yX4_ticksUntilOver cX4_ticksUntilOver 6 (some .int) 2 := ⟨⟨m_ml_X4_156, m_in_X4, m_co_X4_ticksUntilOver, by decide +kernel⟩, m_im_X4_ticksUntilOver, m_se_X4_ticksUntilOver⟩
theorem cw_X4_159 : CwV RX4 159 yX0_unitsBoundFor cX0_unitsBoundFor 4 (some .int) 1 := ⟨⟨m_ml_X4_159, m_in_X0, m_co_X0_unitsBoundFor, by decide +kernel⟩, m_im_X0_unitsBoundFor, m_se_X0_unitsBoundFor⟩
theorem cw_X4_162 : CwV RX4 162 yX2_note cX2_note 3 (some .boolean) 2 := ⟨⟨m_ml_X4_162, m_in_X2, m_co_X2_note, by decide +kernel⟩, m_im_X2_note, m_se_X2_note⟩
theorem cw_X4_168 : CwV RX4 168 yX2_drop cX2_drop 1 none 0 := ⟨⟨m_ml_X4_168, m_in_X2, m_co_X2_drop, by decide +kernel⟩, m_im_X2_drop, m_se_X2_drop⟩
theorem cw_X4_171 : CwV RX4 171 yX2_comeTrue cX2_comeTrue 4 (some .boolean) 1 := ⟨⟨m_ml_X4_171, m_in_X2, m_co_X2_comeTrue, by decide +kernel⟩, m_im_X2_comeTrue, m_se_X2_comeTrue⟩
theorem cw_X4_174 : CwV RX4 174 yX0_engineLetters cX0_engineLetters 3 (some .int) 0 := ⟨⟨m_ml_X4_174, m_in_X0, m_co_X0_engineLetters, by decide +kernel⟩, m_im_X0_engineLetters, m_se_X0_engineLetters⟩
theorem cw_X4_177 : CwV RX4 177 yX1_lose cX1_lose 1 none 0 := ⟨⟨m_ml_X4_177, m_in_X1, m_co_X1_lose, by decide +kernel⟩, m_im_X1_lose, m_se_X1_lose⟩
theorem cw_X4_186 : CwV RX4 186 yX0_engineLettersOf cX0_engineLettersOf 4 (some .int) 1 := ⟨⟨m_ml_X4_186, m_in_X0, m_co_X0_engineLettersOf, by decide +kernel⟩, m_im_X0_engineLettersOf, m_se_X0_engineLettersOf⟩
theorem cw_X5_38 : CwS RX5 38 yX5_in cX5_in 3 (some .boolean) 3 := ⟨⟨m_ml_X5_38, m_in_X5, m_co_X5_in, by decide +kernel⟩, m_st_X5_in⟩
theorem cw_X5_49 : CwV RX5 49 yX5_isFigure cX5_isFigure 2 (some .boolean) 1 := ⟨⟨m_ml_X5_49, m_in_X5, m_co_X5_isFigure, by decide +kernel⟩, m_im_X5_isFigure, m_se_X5_isFigure⟩
theorem cw_X5_62 : CwV RX5 62 yX5_takesNumber cX5_takesNumber 6 none 0 := ⟨⟨m_ml_X5_62, m_in_X5, m_co_X5_takesNumber, by decide +kernel⟩, m_im_X5_takesNumber, m_se_X5_takesNumber⟩
theorem cw_X5_65 : CwV RX5 65 yX5_takes cX5_takes 1 none 0 := ⟨⟨m_ml_X5_65, m_in_X5, m_co_X5_takes, by decide +kernel⟩, m_im_X5_takes, m_se_X5_takes⟩
theorem cw_X5_68 : CwV RX5 68 yX5_reads cX5_reads 4 (some .boolean) 3 := ⟨⟨m_ml_X5_68, m_in_X5, m_co_X5_reads, by decide +kernel⟩, m_im_X5_reads, m_se_X5_reads⟩
theorem cw_X5_71 : CwV RX5 71 yX5_readsLetter cX5_readsLetter 2 (some .boolean) 0 := ⟨⟨m_ml_X5_71, m_in_X5, m_co_X5_readsLetter, by decide +kernel⟩, m_im_X5_readsLetter, m_se_X5_readsLetter⟩
theorem cw_X5_75 : CwS RX5 75 yX5_channelAt cX5_channelAt 1 (some .int) 1 := ⟨⟨m_ml_X5_75, m_in_X5, m_co_X5_channelAt, by decide +kernel⟩, m_st_X5_channelAt⟩
theorem cw_X5_79 : CwS RX5 79 yX5_slotAt cX5_slotAt 2 (some .int) 2 := ⟨⟨m_ml_X5_79, m_in_X5, m_co_X5_slotAt, by decide +kernel⟩, m_st_X5_slotAt⟩
theorem cw_X5_83 : CwV RX5 83 yX5_isEngines cX5_isEngines 2 (some .boolean) 1 := ⟨⟨m_ml_X5_83, m_in_X5, m_co_X5_isEngines, by decide +kernel⟩, m_im_X5_isEngines, m_se_X5_isEngines⟩
theorem cw_X5_86 : CwV RX5 86 yX5_comes cX5_comes 4 (some .boolean) 0 := ⟨⟨m_ml_X5_86, m_in_X5, m_co_X5_comes, by decide +kernel⟩, m_im_X5_comes, m_se_X5_comes⟩
theorem cw_X5_92 : CwV RX5 92 yX5_readsItem cX5_readsItem 3 (some .boolean) 1 := ⟨⟨m_ml_X5_92, m_in_X5, m_co_X5_readsItem, by decide +kernel⟩, m_im_X5_readsItem, m_se_X5_readsItem⟩
theorem cw_X5_95 : CwV RX5 95 yX5_doesItem cX5_doesItem 2 (some .boolean) 1 := ⟨⟨m_ml_X5_95, m_in_X5, m_co_X5_doesItem, by decide +kernel⟩, m_im_X5_doesItem, m_se_X5_doesItem⟩
theorem cw_X5_101 : CwV RX5 101 yX5_goesThrough cX5_goesThrough 4 (some .boolean) 1 := ⟨⟨m_ml_X5_101, m_in_X5, m_co_X5_goesThrough, by decide +kernel⟩, m_im_X5_goesThrough, m_se_X5_goesThrough⟩
theorem cw_X5_105 : CwV RX5 105 yX5_keepsSpare cX5_keepsSpare 2 none 0 := ⟨⟨m_ml_X5_105, m_in_X5, m_co_X5_keepsSpare, by decide +kernel⟩, m_im_X5_keepsSpare, m_se_X5_keepsSpare⟩
theorem cw_X5_108 : CwV RX5 108 yX5_takesBack cX5_takesBack 2 none 0 := ⟨⟨m_ml_X5_108, m_in_X5, m_co_X5_takesBack, by decide +kernel⟩, m_im_X5_takesBack, m_se_X5_takesBack⟩
theorem cw_X5_111 : CwV RX5 111 yX5_remembers cX5_remembers 2 none 0 := ⟨⟨m_ml_X5_111, m_in_X5, m_co_X5_remembers, by decide +kernel⟩, m_im_X5_remembers, m_se_X5_remembers⟩
theorem cw_X5_114 : CwV RX5 114 yX5_present cX5_present 3 (some .int) 1 := ⟨⟨m_ml_X5_114, m_in_X5, m_co_X5_present, by decide +kernel⟩, m_im_X5_present, m_se_X5_present⟩
theorem cw_X5_117 : CwS RX5 117 yX5_around cX5_around 2 (some .int) 1 := ⟨⟨m_ml_X5_117, m_in_X5, m_co_X5_around, by decide +kernel⟩, m_st_X5_around⟩
theorem cw_X5_120 : CwV RX5 120 yX5_unitsOf cX5_unitsOf 2 (some .int) 1 := ⟨⟨m_ml_X5_120, m_in_X5, m_co_X5_unitsOf, by decide +kernel⟩, m_im_X5_unitsOf, m_se_X5_unitsOf⟩
theorem cw_X5_123 : CwV RX5 123 yX5_addressOf cX5_addressOf 6 (some .int) 3 := ⟨⟨m_ml_X5_123, m_in_X5, m_co_X5_addressOf, by decide +kernel⟩, m_im_X5_addressOf, m_se_X5_addressOf⟩
theorem cw_X5_127 : CwV RX5 127 yX5_writes cX5_writes 5 none 1 := ⟨⟨m_ml_X5_127, m_in_X5, m_co_X5_writes, by decide +kernel⟩, m_im_X5_writes, m_se_X5_writes⟩
theorem cw_X5_131 : CwV RX5 131 yX5_isReady cX5_isReady 4 (some .boolean) 1 := ⟨⟨m_ml_X5_131, m_in_X5, m_co_X5_isReady, by decide +kernel⟩, m_im_X5_isReady, m_se_X5_isReady⟩
theorem cw_X5_134 : CwV RX5 134 yX5_carries cX5_carries 7 none 1 := ⟨⟨m_ml_X5_134, m_in_X5, m_co_X5_carries, by decide +kernel⟩, m_im_X5_carries, m_se_X5_carries⟩
theorem cw_X5_137 : CwV RX5 137 yX5_ticksOnce cX5_ticksOnce 5 (some .int) 0 := ⟨⟨m_ml_X5_137, m_in_X5, m_co_X5_ticksOnce, by decide +kernel⟩, m_im_X5_ticksOnce, m_se_X5_ticksOnce⟩
theorem cw_X5_141 : CwS RX5 141 yX5_isChannel cX5_isChannel 1 (some .boolean) 1 := ⟨⟨m_ml_X5_141, m_in_X5, m_co_X5_isChannel, by decide +kernel⟩, m_st_X5_isChannel⟩
theorem cw_X5_144 : CwV RX5 144 yX5_writesAll cX5_writesAll 3 none 1 := ⟨⟨m_ml_X5_144, m_in_X5, m_co_X5_writesAll, by decide +kernel⟩, m_im_X5_writesAll, m_se_X5_writesAll⟩
theorem cw_X5_147 : CwS RX5 147 yX5_isSlot cX5_isSlot 2 (some .boolean) 2 := ⟨⟨m_ml_X5_147, m_in_X5, m_co_X5_isSlot, by decide +kernel⟩, m_st_X5_isSlot⟩
theorem cw_X5_151 : CwV RX5 151 yX5_writesOf cX5_writesOf 5 (some .long) 1 := ⟨⟨m_ml_X5_151, m_in_X5, m_co_X5_writesOf, by decide +kernel⟩, m_im_X5_writesOf, m_se_X5_writesOf⟩
theorem cw_X5_155 : CwV RX5 155 yX5_hasEngines cX5_hasEngines 4 (some .boolean) 1 := ⟨⟨m_ml_X5_155, m_in_X5, m_co_X5_hasEngines, by decide +kernel⟩, m_im_X5_hasEngines, m_se_X5_hasEngines⟩
theorem cw_X5_158 : CwV RX5 158 yX5_overOf cX5_overOf 3 (some .int) 1 := ⟨⟨m_ml_X5_158, m_in_X5, m_co_X5_overOf, by decide +kernel⟩, m_im_X5_overOf, m_se_X5_overOf⟩
theorem cw_X5_164 : CwV RX5 164 yX5_isSeen cX5_isSeen 5 (some .boolean) 0 := ⟨⟨m_ml_X5_164, m_in_X5, m_co_X5_isSeen, by decide +kernel⟩, m_im_X5_isSeen, m_se_X5_isSeen⟩
theorem cw_X5_167 : CwV RX5 167 yX5_engines cX5_engines 3 (some .int) 0 := ⟨⟨m_ml_X5_167, m_in_X5, m_co_X5_engines, by decide +kernel⟩, m_im_X5_engines, m_se_X5_engines⟩
