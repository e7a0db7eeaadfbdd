/-! THE CLAIM OUT OF ONE WALK OF THE LAW'S BODY. Your part is whole_start (and what it stands on); all else here is the same for every law, but numbers. -/
def R_law : String := "TransferRingsLaw"
def lw_P (b : Addr) (xs : List Int32) (args : Array Value) (s : State) : Prop := args = #[.ref b] ∧ s.IntsAt b xs ∧ xs.length ≤ 2560 ∧ (Jvm.Cond.and given_1 narrow_1).before args s = true
def lw_Q (_ : Array Value) (s : State) (o : Outcome) (t : State) : Prop := o = .returned (some (.int 1)) ∧ Framed s o t [] 600000 7302250
def lw_Z (below : List Frame) (a : Array Value) (s : State) : State → Prop := fun t => ∃ o, t.status = .running ∧ Ended t below o ∧ lw_Q a s o t
/-- the law's own end, with 1 on the stack, nothing written that was there before, its room as the claim has it -/
theorem lw_ret {p : Program} {l : Launch} {e : Env} {s : State} {m : MethodId} {below : List Frame} {meth : Method} {c : Code} {b : Nat} (hx : p.tables.exec = Jvm.exec) (hb : c.code = code) (hr : meth.sig.returnType = ret) (hlocks : meth.locks = false) {pc : Nat} {H : Heap} {ls : Array Slot} (hdg : decode code pc = .ok (.ireturn, 1)) : W p l e room_1 s m #[Value.ref b] below meth c H [] 600000 7302250 (lw_Z below #[Value.ref b] s) (F0 m pc ls [.int 1]) := by
  intro T hT X
  obtain ⟨fs, hret, hrun, hended, hW, hframe⟩ := X.leave (v := some (.int 1)) (hlocks := hlocks) (fun h => by rw [hr] at h; cases h)
  have hmeth' : T.vm.method? m = some meth := X.method'
  refine ⟨T.setFrames fs, ?_, .returned (some (.int 1)), hrun, hended, rfl, ⟨_, rfl⟩, hW, hframe⟩
  jvm_step X.here [X.here.top, hx, hb, hdg, hmeth', hr, ret, narrow_b1]
  (try refine ⟨rfl, ?_⟩); (try refine ⟨rfl, ?_⟩)
  first | (intro acts; rw [hret _ acts rfl rfl rfl]) | rw [hret _ _ rfl rfl rfl]
  exact Steps.refl _
/-- what holds at the law's entry: the machine, the code, the tables' words (any of lw_tbl by 'hts w (by decide +kernel)'), the script of L ints xs at the cell b, what the Statement gives of the start (any of its parts by flat_of_before) -/
def lw_At (p : Program) (s : State) (m : MethodId) (meth : Method) (c : Code) (b L : Nat) (xs : Nat → Int32) : Prop :=
  p.tables.exec = Jvm.exec ∧ c.code = code ∧ meth.sig.returnType = ret ∧ c.maxLocals = 4 ∧ s.vm.findClass R_law = some m.cls ∧ (∀ w ∈ lw_tbl, w.before #[Value.ref b] s = true) ∧ va_X b L xs s s.heap ∧ b < s.heap.size ∧ meth.locks = false ∧ (Jvm.Cond.and given_1 narrow_1).before #[Value.ref b] s = true
abbrev GL (p : Program) (e : Env) (s : State) (m : MethodId) (b : Nat) (below : List Frame) (meth : Method) (c : Code) : GX := (p, e, s, m, #[Value.ref b], below, meth, c, fun q => s.heap.size ≤ q)
abbrev yLw (meth : Method) : MethodName := ⟨RL, meth.name, "([I)Z"⟩
abbrev lvL (b O M0 i : Nat) : List (Nat × Value) := [(0, .ref b), (1, .ref O), (2, .ref M0), (3, .int (nI i))]
section LW1
variable {D : DX} {p : Program} {e : Env} {s : State} {m : MethodId} {below : List Frame} {meth : Method} {c : Code} {b L : Nat} {xs : Nat → Int32}
variable {k n pc : Nat} {w : va_W} {lv : List (Nat × Value)} {st : List Value}
theorem jl_end (hk : k ≤ 600000) (hn : n ≤ 7302250) (hdg : decode code pc = .ok (.ireturn, 1)) : J D (GL p e s m b below meth c) (yLw meth) code 4 ret room_1 (lw_Z below #[Value.ref b] s) k n w pc lv [.int 1] := by
  intro h H locs ls hP hD hS hl
  refine va_forget (fun q hq => hS.2.2 q hq) ?_
  refine W.widen hk hn ?_
  exact lw_ret h.1 h.2.1 h.2.2.1 h.2.2.2.2.2.2.1 hdg
theorem jl_ld (hX : va_X b L xs s s.heap) (hbl : b < s.heap.size) {i : Int32} {j : Nat} (hi : i = nI j) (hj : j < L) (hL : L < 2 ^ 31) (hdg : decode code pc = .ok (.iaload, 1)) (kk : J D (GL p e s m b below meth c) (yLw meth) code 4 ret room_1 (lw_Z below #[Value.ref b] s) k n w (pc + 1) lv (.int (xs j) :: st)) : J D (GL p e s m b below meth c) (yLw meth) code 4 ret room_1 (lw_Z below #[Value.ref b] s) k n w pc lv (.int i :: .ref b :: st) := by
  subst hi
  intro h H locs ls hP hD hS hl
  refine va_sld h.1 h.2.1 hX hbl (Nat.not_le.mpr hbl) hS (vp_in_nI hj hL) hdg ?_
  rw [nI_clamp (Nat.lt_trans hj hL)]
  exact kk h H locs ls hP hD hS hl
theorem jl_len (hX : va_X b L xs s s.heap) (hbl : b < s.heap.size) (hdg : decode code pc = .ok (.arraylength, 1)) (kk : J D (GL p e s m b below meth c) (yLw meth) code 4 ret room_1 (lw_Z below #[Value.ref b] s) k n w (pc + 1) lv (.int (nI L) :: st)) : J D (GL p e s m b below meth c) (yLw meth) code 4 ret room_1 (lw_Z below #[Value.ref b] s) k n w pc lv (.ref b :: st) := by
  intro h H locs ls hP hD hS hl
  exact va_slen h.1 h.2.1 hX hbl (Nat.not_le.mpr hbl) hS hdg (kk h H locs ls hP hD hS hl)
theorem jl_arg {O M0 i d : Nat} {z : Int} (hX : va_X b L xs s s.heap) (hbl : b < s.heap.size) (hL : L ≤ 2560) (h0 : decode code pc = .ok (.aload_n 0, 1)) (h1 : decode code (pc + 1) = .ok (.iload_n 3, 1)) (h2 : decode code (pc + 1 + 1) = .ok (.iconst z, 1)) (h3 : decode code (pc + 1 + 1 + 1) = .ok (.iadd, 1)) (h4 : decode code (pc + 1 + 1 + 1 + 1) = .ok (.iaload, 1)) (hz : Int32.ofInt z = nI d) (hj : i + d < L) (kk : J D (GL p e s m b below meth c) (yLw meth) code 4 ret room_1 (lw_Z below #[Value.ref b] s) k n w (pc + 1 + 1 + 1 + 1 + 1) (lvL b O M0 i) (.int (xs (i + d)) :: st)) : J D (GL p e s m b below meth c) (yLw meth) code 4 ret room_1 (lw_Z below #[Value.ref b] s) k n w pc (lvL b O M0 i) st := by
  refine j_aload_n h0 0 rfl ?_
  refine j_iload_n h1 3 rfl ?_
  refine j_iconst h2 hz ?_
  refine j_iadd h3 (nI_add i d) ?_
  exact jl_ld hX hbl rfl hj (by omega) h4 kk
theorem jl_kn {k2 n2 : Nat} (h1 : k = k2) (h2 : n = n2) (kk : J D (GL p e s m b below meth c) (yLw meth) code 4 ret room_1 (lw_Z below #[Value.ref b] s) k2 n2 w pc lv st) : J D (GL p e s m b below meth c) (yLw meth) code 4 ret room_1 (lw_Z below #[Value.ref b] s) k n w pc lv st := by subst h1; subst h2; exact kk
end LW1
theorem RB_fit {rm : Room} {n' : Nat} (h : RB rm) (hn : n' ≤ 70) : rm.frames + 1 ≤ room_1.frames ∧ 8 + (n' + 11) + rm.locals ≤ room_1.locals := by
  obtain ⟨h1, h2, h3, h4⟩ := h
  exact ⟨by show rm.frames + 1 ≤ 11; omega, by show 8 + (n' + 11) + rm.locals ≤ 394; omega⟩
theorem CE_0 {D : DX} {O : Nat} {X E F Y Z V : Nat → Nat} {P G : Nat → Nat → Nat} {K : KT} {w : va_W} (h : CE D O X E F Y Z V P G K w) : w[0]? = some (O, .inr (4, [.ref (X 0), .ref (E 0), .ref (F 0), .ref (Y 0), .ref (Z 0), .ref (V 0), .ref (V 1)])) := by
  obtain ⟨s, sg, n, h0, nw, kn, tk, wh, m, kp, g, pa, kt⟩ := K
  obtain ⟨t, kd, nu, k, ic, rfl⟩ := h
  rfl
theorem ME_0 {D : DX} {M : Nat → Nat} {K : KT} {w : va_W} (h : ME D M K w) : ∃ fs : List Value, w[0]? = some (M 0, .inr (5, fs)) := by
  obtain ⟨s, sg, n, h0, nw, kn, tk, wh, m, kp, g, pa, kt⟩ := K
  obtain ⟨sp, rd, nx, pl, it, to, va, rfl⟩ := h
  exact ⟨_, rfl⟩
theorem and31 (x : Int32) : ∃ j : Nat, j < 32 ∧ x &&& 31 = nI j := pk_andE x 5 (by decide)
theorem lw_lim {i L : Nat} (hi : i ≤ L) (hL : L ≤ 2560) (h : ¬ nI L - 5 < nI i) : i + 5 ≤ L := by
  rcases Nat.lt_or_ge L (i + 5) with q | q
  · refine absurd ?_ h
    show nI L - nI 5 < nI i
    rw [Int32.lt_iff_toInt_lt, pk_sub_toInt (by omega) (by omega), nI_toInt (by omega)]
    omega
  · exact q
