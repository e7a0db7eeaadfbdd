/-! what makes cells: new, newarray, anewarray, constructors; the frame of a contract -/
theorem va_nd_of : ∀ {l : List Nat}, l.Nodup → va_nd l = true
  | [], _ => rfl
  | a :: l, h => by
    have h1 := List.nodup_cons.mp h
    show (decide (a ∉ l) && va_nd l) = true
    rw [va_nd_of h1.2, decide_eq_true h1.1]; rfl
theorem rg_l (wr wc : va_W) : (List.range wr.length).map (fun i => (wr ++ wc)[i]?) = wr.map some := by
  apply List.ext_getElem?
  intro i
  rw [List.getElem?_map, List.getElem?_map]
  by_cases h : i < wr.length
  · rw [List.getElem?_range h]
    show some ((wr ++ wc)[i]?) = _
    rw [List.getElem?_append_left h, List.getElem?_eq_getElem h]; rfl
  · rw [List.getElem?_eq_none (by simpa using h), List.getElem?_eq_none (Nat.not_lt.mp h)]; rfl
theorem rg_r (wr wc : va_W) : ((List.range wc.length).map (fun i => wr.length + i)).map (fun i => (wr ++ wc)[i]?) = wc.map some := by
  apply List.ext_getElem?
  intro i
  rw [List.map_map, List.getElem?_map, List.getElem?_map]
  by_cases h : i < wc.length
  · rw [List.getElem?_range h]
    show some ((wr ++ wc)[wr.length + i]?) = _
    rw [List.getElem?_append_right (by omega), show wr.length + i - wr.length = i by omega, List.getElem?_eq_getElem h]; rfl
  · rw [List.getElem?_eq_none (by simpa using h), List.getElem?_eq_none (Nat.not_lt.mp h)]; rfl
theorem rg_nd (m : Nat) : va_nd (List.range m) = true := va_nd_of List.nodup_range
theorem rg_nd2 (a m : Nat) : va_nd ((List.range m).map (fun i => a + i)) = true := va_nd_of (by
  refine List.Pairwise.map _ (fun x y h => ?_) (List.nodup_range (n := m))
  show a + x ≠ a + y
  have : x ≠ y := h
  omega)
theorem rg_d1 {a m i : Nat} (h : i ∈ List.range a) : i ∉ (List.range m).map (fun i => a + i) := by
  intro q
  obtain ⟨j, -, h2⟩ := List.mem_map.mp q
  have := List.mem_range.mp h
  omega
theorem rg_d2 {a m i : Nat} (h : i ∈ (List.range m).map (fun i => a + i)) : i ∉ List.range a := fun q => rg_d1 q h
section RO1
variable {p : Program} {e : Env} {R : Room} {s : State} {m : MethodId} {args : Array Value} {below : List Frame} {meth : Method} {c : Code} {H : Heap} {locs : List Loc} {Q : State → Prop} {A : Nat → Prop} {D : DX}
/-- behind any call: the other cells, then what came back -/
theorem run_out {k n mc ms pc : Nat} {ls : Array Slot} {st0 rest : List Value} {a : Array Value} {ws wc wr : va_W} {isC isR : List Nat} {finC : Option Value → va_W → Prop} (h9 : ∀ q, s.heap.size ≤ q → A q) (hP : va_P (dG D) classes ws H) (hD : va_D A ws) (hS : va_S A s.heap H locs) (hC : isC.map (fun i => ws[i]?) = wc.map some) (hR : isR.map (fun i => ws[i]?) = wr.map some) (hnR : va_nd isR = true) (hdis : ∀ i ∈ isR, i ∉ isC)
    (hr : va_Run p (dl D) e R s m args below meth c H locs k n mc ms (F0 m pc ls st0) rest (cQ D finC (va_A wc H.size) a) (va_A wc H.size))
    (kk : ∀ (v : Option Value) (w1 : va_W), finC v w1 → ∀ (H1 : Heap) (locs1 : List Loc), va_P (dG D) classes (wr ++ w1) H1 → va_D A (wr ++ w1) → va_S A s.heap H1 locs1 → W p (dl D) e R s m args below meth c H1 locs1 (k + mc) (n + ms) Q (F0 m (pc + 3) ls (v.toList ++ rest))) : W p (dl D) e R s m args below meth c H locs k n Q (F0 m pc ls st0) := by
  intro T hT X
  obtain ⟨v, st₀, t, T', L, h0, X', hL, e1, e2, ⟨⟨v', w1, hv, hfin, hP1, hD1⟩, hz, hk⟩, stp⟩ := hr T hT X
  cases hv
  rw [h0] at hz hk
  have hF := va_free hD hS h9 isC hC
  have hS' : va_S A s.heap T'.heap (locs ++ L) := ⟨Nat.le_trans hS.1 (by rw [e1]; exact hz), fun q h1 h2 => by rw [e1, hk q (Nat.lt_of_lt_of_le h1 hS.1) (fun z => h2 (hF q z))]; exact hS.2.1 q h1 h2, fun q hq => by
      rcases List.mem_append.mp hq with h | h
      · exact hS.2.2 q h
      · exact hF _ (hL q h)⟩
  have hj := va_join (wr := wr) hP hD isC isR hC hR hnR hdis hk hF hP1 hD1
  obtain ⟨t2, a1, b1⟩ := kk v w1 hfin T'.heap (locs ++ L) (by rw [e1]; exact hj.1) hj.2 hS' T' rfl X'
  exact ⟨t2, stp t2 a1, b1⟩
end RO1
def CwI (own : String) (idx : Nat) (y : MethodName) (b : ByteArray) (n : Nat) : Prop := CwB own idx y b n none 0 ∧ Cond.instanceMethod y ∈ lw_g ∧ y.name = "<init>"
section RO2
variable {D : DX} {Γ : GX} {y : MethodName} {cc : ByteArray} {nL : Nat} {ret : Option FieldType} {R : Room} {Q : State → Prop} {k n : Nat} {w : va_W} {pc : Nat} {lv : List (Nat × Value)} {st : List Value}
theorem j_oi {own : String} {idx a : Nat} (hy : y.cls = own) (hl : Cond.methodLink own idx objectInit ∈ lw_g) (hdg : decode cc pc = .ok (.invokespecial idx, 3)) (hR : 1 ≤ R.frames ∧ (st.map fun v => v.category).sum + 12 ≤ R.locals) (kk : J D Γ y cc nL ret R Q k n w (pc + 3) lv st) : J D Γ y cc nL ret R Q k n w pc lv (.ref a :: st) := by
  subst hy
  obtain ⟨p, e, s, m, args, below, meth, c, A⟩ := Γ
  intro h H locs ls hP hD hS hl2
  have ht := h.2.2.2.2.2.1
  exact W.objInit h.1 h.2.1 h.2.2.2.2.1 (ht _ hl) (ht _ m_im_objectInit) (ht _ m_co_objectInit) rfl (by rw [h.2.2.2.1]; exact hl2.1) rfl hdg hR.1 (by show 2 * 0 + (st.map fun v => v.category).sum + 12 ≤ R.locals; omega) (kk h H locs ls hP hD hS hl2)
theorem j_new {own C : String} {T : u_T} {N ci idx : Nat} {fs : List Value} (hy : y.cls = own) (hin : ∀ w ∈ u_ws C T N, w ∈ lw_g) (ty : Nat → FieldType) (hty : ∀ k, k < N → parseFieldDescriptor (T k).2.2.1 = some (ty k)) (hcl : Cond.classLink own idx C ∈ lw_g) (hinst : Cond.instantiable C N ∈ lw_g) (hini : Cond.initialized C ∈ lw_g) (hc : classes[ci]? = some (C, T, N)) (hfs : ∀ j, j < N → defaultValue (ty j) = vp_V fs j) (hk : k + 1 ≤ R.cells ∧ n + N ≤ R.slots) (hdg : decode cc pc = .ok (.new idx, 3)) (kk : ∀ q : Nat, J D Γ y cc nL ret R Q (k + 1) (n + N) (w ++ [(q, .inr (ci, fs))]) (pc + 3) lv (.ref q :: st)) : J D Γ y cc nL ret R Q k n w pc lv st := by
  subst hy
  obtain ⟨p, e, s, m, args, below, meth, c, A⟩ := Γ
  intro h H locs ls hP hD hS hl2
  have ht := h.2.2.2.2.2.1
  exact va_new (ci := ci) (fs := fs) (C := C) (T := T) (N := N) h.1 h.2.1 ht hin ty hty h.2.2.2.2.1 (ht _ hcl) (ht _ hinst) (ht _ hini) h.2.2.2.2.2.2.2.1 hP hD hS h.2.2.2.2.2.2.2.2.1 hc hfs hk.1 hk.2 hdg (fun q H1 hP hD hS => kk q h H1 locs ls hP hD hS hl2)
theorem j_newI {N : Nat} {x : Int32} (hx : x = nI N) (hN : N < 2 ^ 24) (hk : k + 1 ≤ R.cells ∧ n + N ≤ R.slots) (hdg : decode cc pc = .ok (.newarray .int, 2)) (kk : ∀ q : Nat, J D Γ y cc nL ret R Q (k + 1) (n + N) (w ++ [(q, .inl (dI D, N, .inl (fun _ => 0)))]) (pc + 2) lv (.ref q :: st)) : J D Γ y cc nL ret R Q k n w pc lv (.int x :: st) := by
  subst hx
  obtain ⟨p, e, s, m, args, below, meth, c, A⟩ := Γ
  intro h H locs ls hP hD hS hl2
  have ht := h.2.2.2.2.2.1
  have hK := h.2.2.2.2.2.2.2.1
  refine va_newa (atype := .int) (a0 := (N, .inl (fun _ => 0))) (N' := N) h.1 h.2.1 (ht _ m_ac_int) (ty := .int) rfl hK hP hD hS h.2.2.2.2.2.2.2.2.1 (fun cA => rfl) (nI_pos (by omega)) (nI_clamp (by omega)) (by show N * 4 ≤ 536870912; omega) hk.1 hk.2 hdg (fun q cA H1 hK2 hP hD hS => ?_)
  have e1 : s.vm.findClass ("[" ++ FieldType.int.toString) = some cA := (hK2.2 3 (cA, .int) rfl).2
  have e2 : s.vm.findClass ("[" ++ FieldType.int.toString) = some (dI D) := (hK.2 0 (dI D, .int) rfl).2
  have e3 : cA = dI D := Option.some.inj (e1.symm.trans e2)
  subst e3
  exact kk q h H1 locs ls hP hD hS hl2
theorem j_newZ {N : Nat} {x : Int32} (hx : x = nI N) (hN : N < 2 ^ 24) (hk : k + 1 ≤ R.cells ∧ n + N ≤ R.slots) (hdg : decode cc pc = .ok (.newarray .boolean, 2)) (kk : ∀ q : Nat, J D Γ y cc nL ret R Q (k + 1) (n + N) (w ++ [(q, .inl (dZ D, N, .inl (fun _ => 0)))]) (pc + 2) lv (.ref q :: st)) : J D Γ y cc nL ret R Q k n w pc lv (.int x :: st) := by
  subst hx
  obtain ⟨p, e, s, m, args, below, meth, c, A⟩ := Γ
  intro h H locs ls hP hD hS hl2
  have ht := h.2.2.2.2.2.1
  have hK := h.2.2.2.2.2.2.2.1
  refine va_newa (atype := .boolean) (a0 := (N, .inl (fun _ => 0))) (N' := N) h.1 h.2.1 (ht _ m_ac_boolean) (ty := .boolean) rfl hK hP hD hS h.2.2.2.2.2.2.2.2.1 (fun cA => rfl) (nI_pos (by omega)) (nI_clamp (by omega)) (by show N * 1 ≤ 536870912; omega) hk.1 hk.2 hdg (fun q cA H1 hK2 hP hD hS => ?_)
  have e1 : s.vm.findClass ("[" ++ FieldType.boolean.toString) = some cA := (hK2.2 3 (cA, .boolean) rfl).2
  have e2 : s.vm.findClass ("[" ++ FieldType.boolean.toString) = some (dZ D) := (hK.2 2 (dZ D, .boolean) rfl).2
  have e3 : cA = dZ D := Option.some.inj (e1.symm.trans e2)
  subst e3
  exact kk q h H1 locs ls hP hD hS hl2
theorem j_newQ {own : String} {idx N : Nat} {x : Int32} (hy : y.cls = own) (hx : x = nI N) (hN : N < 2 ^ 24) (hcl : Cond.classLink own idx RX0 ∈ lw_g) (hk : k + 1 ≤ R.cells ∧ n + N ≤ R.slots) (hdg : decode cc pc = .ok (.anewarray idx, 3)) (kk : ∀ q : Nat, J D Γ y cc nL ret R Q (k + 1) (n + N) (w ++ [(q, .inl (dE D, N, .inr (.inr (.inr (.inr (fun _ => none))))))]) (pc + 3) lv (.ref q :: st)) : J D Γ y cc nL ret R Q k n w pc lv (.int x :: st) := by
  subst hx
  subst hy
  obtain ⟨p, e, s, m, args, below, meth, c, A⟩ := Γ
  intro h H locs ls hP hD hS hl2
  have ht := h.2.2.2.2.2.1
  have hK := h.2.2.2.2.2.2.2.1
  refine va_newq (C := RX0) (N' := N) h.1 h.2.1 h.2.2.2.2.1 (ht _ hcl) h.2.2.2.2.2.2.2.2.2.2.2.2 hK hP hD hS h.2.2.2.2.2.2.2.2.1 (nI_pos (by omega)) (nI_clamp (by omega)) (by omega) hk.1 hk.2 hdg (fun q cA H1 hK2 hP hD hS => ?_)
  obtain ⟨-, -, -, -, -, e1⟩ := (hK2.2 3 (cA, .object RX0) rfl).2
  obtain ⟨-, -, -, -, -, e2⟩ := (hK.2 1 (dE D, .object RX0) rfl).2
  have e3 : cA = dE D := Option.some.inj (e1.symm.trans e2)
  subst e3
  exact kk q h H1 locs ls hP hD hS hl2
theorem j_astq {a v N : Nat} {f : Nat → Option Nat} {i : Int32} {vs : List Value} {w2 : va_W} (hdg : decode cc pc = .ok (.aastore, 1)) (q0 qk j : Nat) (hi : i = nI j) (ha : w[q0]? = some (a, .inl (dE D, N, .inr (.inr (.inr (.inr f)))))) (hv : w[qk]? = some (v, .inr (0, vs))) (hj : j < N) (hN : N < 2 ^ 31) (hw : w.set q0 (a, .inl (dE D, N, .inr (.inr (.inr (.inr (va_up f j (some v))))))) = w2) (kk : J D Γ y cc nL ret R Q k n w2 (pc + 1) lv st) : J D Γ y cc nL ret R Q k n w pc lv (.ref v :: .int i :: .ref a :: st) := by
  subst hi
  obtain ⟨p, e, s, m, args, below, meth, c, A⟩ := Γ
  intro h H locs ls hP hD hS hl2
  refine va_astq (r := (RX0, TX0, 7)) h.1 h.2.1 h.2.2.2.2.2.2.2.1 hP hD hS q0 1 qk 0 ha rfl hv rfl (vp_in_nI hj hN) hdg (fun H1 locs1 hP hD hS => ?_)
  rw [nI_clamp (by omega), hw] at hP hD
  exact kk h H1 locs1 ls hP hD hS hl2
theorem va_P_congq {H : Heap} (hP : va_P (dG D) classes w H) {a N : Nat} {cA : ClassId} {f g : Nat → Option Nat} (q : Nat) (ha : w[q]? = some (a, .inl (cA, N, .inr (.inr (.inr (.inr f)))))) (hfg : ∀ j, j < N → f j = g j) : va_P (dG D) classes (w.set q (a, .inl (cA, N, .inr (.inr (.inr (.inr g)))))) H := by
  intro j p hp
  by_cases hj : q = j
  · subst hj
    rw [List.getElem?_set] at hp
    simp only [if_true] at hp
    split at hp
    · cases hp
      show H[a]? = some (vp_cell _ _)
      have e : vp_cell cA (N, .inr (.inr (.inr (.inr g)))) = vp_cell cA (N, .inr (.inr (.inr (.inr f)))) := by
        rw [vp_cell_q, vp_cell_q]
        unfold arrV
        have e : (fun j : Fin N => va_rf (g j.val)) = fun j => va_rf (f j.val) := funext fun j => by rw [hfg j.val j.isLt]
        rw [e]
      rw [e]
      exact hP q _ ha
    · cases hp
  · rw [List.getElem?_set_ne hj] at hp
    exact hP j p hp
theorem j_congq {a N : Nat} {cA : ClassId} {f g : Nat → Option Nat} {w2 : va_W} (q : Nat) (ha : w[q]? = some (a, .inl (cA, N, .inr (.inr (.inr (.inr f)))))) (hfg : ∀ j, j < N → f j = g j) (hw : w.set q (a, .inl (cA, N, .inr (.inr (.inr (.inr g))))) = w2) (kk : J D Γ y cc nL ret R Q k n w2 pc lv st) : J D Γ y cc nL ret R Q k n w pc lv st := by
  obtain ⟨p, e, s, m, args, below, meth, c, A⟩ := Γ
  intro h H locs ls hP hD hS hl
  have hP2 := va_P_congq hP q ha hfg
  have hD2 := hD.set (e := .inl (cA, N, .inr (.inr (.inr (.inr g))))) ha
  rw [hw] at hP2 hD2
  exact kk h H locs ls hP2 hD2 hS hl
theorem j_init {y' : MethodName} {b' : ByteArray} {n' idx : Nat} {rm : Room} {a : Nat} {wc wr : va_W} {finC : Option Value → va_W → Prop} {own : String} (hM : Ct D y' b' n' none rm [.ref a] wc finC) (hy : y.cls = own) (cw : CwI own idx y' b' n') (hR : rm.frames + 1 ≤ R.frames ∧ 8 + (n' + 11) + rm.locals ≤ R.locals) (hkn : k + rm.cells ≤ R.cells ∧ n + rm.slots ≤ R.slots) (hdg : decode cc pc = .ok (.invokespecial idx, 3)) (hcat : (st.map fun v => v.category).sum ≤ 8) (hw : w = wr ++ wc)
    (kk : ∀ (v : Option Value) (w1 : va_W), finC v w1 → J D Γ y cc nL ret R Q (k + rm.cells) (n + rm.slots) (wr ++ w1) (pc + 3) lv (v.toList ++ st)) : J D Γ y cc nL ret R Q k n w pc lv (.ref a :: st) := by
  subst hw
  subst hy
  obtain ⟨p, e, s, m, args, below, meth, c, A⟩ := Γ
  intro h H locs ls hP hD hS hl
  obtain ⟨⟨c1, c2, c3, c4⟩, c5, c6⟩ := cw
  have ht := h.2.2.2.2.2.1
  have hB : CallB R s args y.cls idx y' b' n' none (.code y' b' n' none :: lw_g) rm rm.cells rm.slots 0 := callB_of 0 ht (gd_c c3) rfl rfl rfl (ht _ c2) (ht _ c1) c4 hR
  exact run_out h.2.2.2.2.2.2.2.2.1 hP hD hS (rg_r wr wc) (rg_l wr wc) (rg_nd _) (fun i hi => rg_d1 hi) (va_runI (As := []) (rest := st) ⟨h.1, h.2.1, h.2.2.2.1, h.2.2.2.2.1, ht⟩ (hM H.size) ⟨hB, c6, ht _ c5⟩ ⟨cP_blind _ _ _ _, fun U hU hW => pre_of h hP hD hS (rg_r wr wc) (rg_nd2 _ _) U hU hW⟩ rfl rfl hl.1 rfl (lv_room hcat) hdg hkn) (fun v w1 hf H1 locs1 hP1 hD1 hS1 => kk v w1 hf h H1 locs1 ls hP1 hD1 hS1 hl)
/-- a call of a method of the first part of the world: that part comes last then -/
theorem j_callP {y' : MethodName} {b' : ByteArray} {n' np idx : Nat} {r' : Option FieldType} {rm : Room} {a : Nat} {As rest : List Value} {wc wr : va_W} {finC : Option Value → va_W → Prop} {own : String} (hM : Ct D y' b' n' r' rm (.ref a :: As) wc finC) (hy : y.cls = own) (cw : CwV own idx y' b' n' r' np) (hnp : As.length = np) (hR : rm.frames + 1 ≤ R.frames ∧ 8 + (n' + 11) + rm.locals ≤ R.locals) (h0 : rm.cells = 0 ∧ rm.slots = 0) (hkn : k ≤ R.cells ∧ n ≤ R.slots) (hdg : decode cc pc = .ok (.invokevirtual idx, 3)) (hst : st = As.reverse ++ .ref a :: rest) (hcat : (rest.map fun v => v.category).sum ≤ 8) (hw : w = wc ++ wr) (ci : Nat) {fs : List Value} {rc : vw_C} (he : wc[0]? = some (a, .inr (ci, fs))) (hcl : classes[ci]? = some rc) (hrc : rc.1 = y'.cls)
    (kk : ∀ (v : Option Value) (w1 : va_W), finC v w1 → J D Γ y cc nL ret R Q k n (wr ++ w1) (pc + 3) lv (v.toList ++ rest)) : J D Γ y cc nL ret R Q k n w pc lv st := by
  subst hst
  subst hw
  subst hy
  obtain ⟨p, e, s, m, args, below, meth, c, A⟩ := Γ
  intro h H locs ls hP hD hS hl
  obtain ⟨⟨c1, c2, c3, c4⟩, c5, c6⟩ := cw
  have ht := h.2.2.2.2.2.1
  have hB : CallB R s args y.cls idx y' b' n' r' (.code y' b' n' r' :: lw_g) rm rm.cells rm.slots np := callB_of np ht (gd_c c3) rfl rfl rfl (ht _ c2) (ht _ c1) c4 hR
  refine run_out h.2.2.2.2.2.2.2.2.1 hP hD hS (rg_l wc wr) (rg_r wc wr) (rg_nd2 _ _) (fun i hi => rg_d2 hi) (va_runV (As := As) (rest := rest) ⟨h.1, h.2.1, h.2.2.2.1, h.2.2.2.2.1, ht⟩ (hM H.size) ⟨hB, ht _ c5, ht _ c6⟩ ⟨cP_blind _ _ _ _, ?_, fun U hU hW => pre_of h hP hD hS (rg_l wc wr) (rg_nd _) U hU hW⟩ rfl hnp hl.1 rfl (lv_room hcat) hdg ⟨by rw [h0.1]; exact hkn.1, by rw [h0.2]; exact hkn.2⟩) (fun v w1 hf H1 locs1 hP1 hD1 hS1 => ?_)
  · rw [← hrc]
    exact va_recv h.2.2.2.2.2.2.2.1 (wsub hP (rg_l wc wr)) hcl he
  · rw [h0.1, h0.2]
    exact kk v w1 hf h H1 locs1 ls hP1 hD1 hS1 hl
end RO2
section RO3
variable {D : DX} {y : MethodName} {b : ByteArray} {nL : Nat} {r : Option FieldType} {rm : Room}
/-- a contract over some cells holds over all: the others stay -/
theorem Ct.frame {av : List Value} {wc w : va_W} {fin : Option Value → va_W → Prop} (h : Ct D y b nL r rm av wc fin) (is : List Nat) (hC : is.map (fun i => w[i]?) = wc.map some) (hn : va_nd is = true) (ha : ∀ v w1, fin v w1 → w1.map Prod.fst = wc.map Prod.fst) : Ct D y b nL r rm av w (fun v w' => ∃ w1, fin v w1 ∧ w' = updw w is w1) := by
  intro sz
  have hsub : ∀ q, va_A wc sz q → va_A w sz q := by
    intro q hq
    rcases hq with ⟨k, e, h1⟩ | h1
    · obtain ⟨i, -, hi⟩ := wat hC k _ h1
      exact Or.inl ⟨i, e, hi⟩
    · exact Or.inr h1
  intro p e ha' hc hk s m args below hfr happ hP hK
  obtain ⟨q0, q1, qP, qK, qD, qZ, qX⟩ := hP
  obtain ⟨n, o, h1, h2, h3, ⟨⟨v, w1, e1, e2, e3, e4⟩, hF⟩, hL⟩ := h sz p e ha' hc hk s m args below hfr happ ⟨q0, q1, wsub qP hC, qK, qD.sub is hn hC, qZ.narrow hsub, qX⟩ hK
  have hadr := ha v w1 e2
  have hlen : is.length = w1.length := by
    have g1 := congrArg List.length hC
    have g2 := congrArg List.length hadr
    simp only [List.length_map] at g1 g2
    omega
  have hA' : (updw w is w1).map Prod.fst = w.map Prod.fst := by
    refine updw_addr is w wc w1 ?_ hadr
    have g := congrArg (List.map (Option.map Prod.fst)) hC
    simp only [List.map_map] at g
    rw [List.map_map]
    refine Eq.trans (List.map_congr_left (fun i _ => ?_)) (g.trans (List.map_congr_left (fun i _ => rfl)))
    simp [List.getElem?_map]
  refine ⟨n, o, h1, h2, h3, ⟨⟨v, updw w is w1, e1, ⟨w1, e2, rfl⟩, ?_, va_D_addr qD.self hA'⟩, hF.1, fun q hq hq2 => hF.2 q hq (fun z => hq2 (hsub q z))⟩, ?_⟩
  · intro j q hq
    rcases updw_at is w w1 j q hq hlen with ⟨i, g1, g2⟩ | ⟨g1, g2⟩
    · exact e3 i q g2
    · refine (qP j q g2).kept (hF.2 q.1 (qP j q g2).lt (fun hz => ?_))
      rcases hz with ⟨k2, e', hh⟩ | hh
      · obtain ⟨i, h3', h4⟩ := wat hC k2 (q.1, e') hh
        have hij := qD.1 j i q (q.1, e') g2 h4 rfl
        subst hij
        exact g1 (List.mem_of_getElem? h3')
      · rw [← q1] at hh
        exact absurd (qP j q g2).lt (Nat.not_lt.mpr hh)
  · obtain ⟨L, l1, l2⟩ := hL
    exact ⟨L, l1, fun q hq => hsub _ (l2 q hq)⟩
end RO3
theorem cw_L_9 : CwI RL 9 yX4_init cX4_init 2 := ⟨⟨m_ml_L_9, m_in_X4, m_co_X4_init, by decide +kernel⟩, m_im_X4_init, rfl⟩
theorem cw_L_12 : CwI RL 12 yX5_init cX5_init 2 := ⟨⟨m_ml_L_12, m_in_X5, m_co_X5_init, by decide +kernel⟩, m_im_X5_init, rfl⟩
theorem cw_X1_15 : CwI RX1 15 yX0_init cX0_init 2 := ⟨⟨m_ml_X1_15, m_in_X0, m_co_X0_init, by decide +kernel⟩, m_im_X0_init, rfl⟩
theorem cw_X4_9 : CwI RX4 9 yX3_init cX3_init 1 := ⟨⟨m_ml_X4_9, m_in_X3, m_co_X3_init, by decide +kernel⟩, m_im_X3_init, rfl⟩
theorem cw_X4_18 : CwI RX4 18 yX0_init cX0_init 2 := ⟨⟨m_ml_X4_18, m_in_X0, m_co_X0_init, by decide +kernel⟩, m_im_X0_init, rfl⟩
theorem cw_X4_28 : CwI RX4 28 yX1_init cX1_init 2 := ⟨⟨m_ml_X4_28, m_in_X1, m_co_X1_init, by decide +kernel⟩, m_im_X1_init, rfl⟩
theorem cw_X4_35 : CwI RX4 35 yX2_init cX2_init 1 := ⟨⟨m_ml_X4_35, m_in_X2, m_co_X2_init, by decide +kernel⟩, m_im_X2_init, rfl⟩
def f0X0 : List Value := [.null, .null, .null, .null, .int 0, .int 0, .int 0]
theorem fsX0 : ∀ j, j < 7 → defaultValue (tyX0 j) = vp_V f0X0 j := fun j hj => by
  rcases (show j = 0 ∨ j = 1 ∨ j = 2 ∨ j = 3 ∨ j = 4 ∨ j = 5 ∨ j = 6 by omega) with rfl | rfl | rfl | rfl | rfl | rfl | rfl <;> rfl
def f0X1 : List Value := [.null, .int 0, .int 0]
theorem fsX1 : ∀ j, j < 3 → defaultValue (tyX1 j) = vp_V f0X1 j := fun j hj => by
  rcases (show j = 0 ∨ j = 1 ∨ j = 2 by omega) with rfl | rfl | rfl <;> rfl
def f0X2 : List Value := [.null, .null, .int 0]
theorem fsX2 : ∀ j, j < 3 → defaultValue (tyX2 j) = vp_V f0X2 j := fun j hj => by
  rcases (show j = 0 ∨ j = 1 ∨ j = 2 by omega) with rfl | rfl | rfl <;> rfl
def f0X3 : List Value := [.null, .null, .null, .int 0, .int 0, .int 0]
theorem fsX3 : ∀ j, j < 6 → defaultValue (tyX3 j) = vp_V f0X3 j := fun j hj => by
  rcases (show j = 0 ∨ j = 1 ∨ j = 2 ∨ j = 3 ∨ j = 4 ∨ j = 5 by omega) with rfl | rfl | rfl | rfl | rfl | rfl <;> rfl
def f0X4 : List Value := [.null, .null, .null, .null, .null, .null, .null]
theorem fsX4 : ∀ j, j < 7 → defaultValue (tyX4 j) = vp_V f0X4 j := fun j hj => by
  rcases (show j = 0 ∨ j = 1 ∨ j = 2 ∨ j = 3 ∨ j = 4 ∨ j = 5 ∨ j = 6 by omega) with rfl | rfl | rfl | rfl | rfl | rfl | rfl <;> rfl
def f0X5 : List Value := [.null, .int 0, .null, .null, .null, .null, .int 0, .null, .null, .int 0, .null, .int 0, .int 0, .int 0, .int 0, .null, .int 0]
theorem fsX5 : ∀ j, j < 17 → defaultValue (tyX5 j) = vp_V f0X5 j := fun j hj => by
  rcases (show j = 0 ∨ j = 1 ∨ j = 2 ∨ j = 3 ∨ j = 4 ∨ j = 5 ∨ j = 6 ∨ j = 7 ∨ j = 8 ∨ j = 9 ∨ j = 10 ∨ j = 11 ∨ j = 12 ∨ j = 13 ∨ j = 14 ∨ j = 15 ∨ j = 16 by omega) with rfl | rfl | rfl | rfl | rfl | rfl | rfl | rfl | rfl | rfl | rfl | rfl | rfl | rfl | rfl | rfl | rfl <;> rfl
