/-! what the engine's small questions answer -/
theorem rv_t {b : Bool} (h : b = true) : some (Value.int (nI 1)) = some (Value.int (bI b)) := by rw [h]; rfl
theorem rv_f {b : Bool} (h : b = false) : some (Value.int (nI 0)) = some (Value.int (bI b)) := by rw [h]; rfl
section SP0
variable {D : DX} {y : MethodName} {b : ByteArray} {nL : Nat} {r : Option FieldType} {rm : Room}
/-- as ct_of, for a method of a class of the JDK that no entry of the machine's runs -/
theorem ct_ofF {av : List Value} {w : va_W} {fin : Option Value → va_W → Prop} {lv0 : List (Nat × Value)} (hy : plainFor y = true) (hlen : (lg_sl av).length ≤ nL) (hlv : lv_args 0 av = lv0) (h : ∀ Γ : GX, J D Γ y b nL r rm (Qf D Γ rm fin) 0 0 w 0 lv0 []) : Ct D y b nL r rm av w fin := by
  intro sz
  refine MetFree.of_bodySF (code := b) (maxLocals := nL) (ret := r) hy ?_ ?_
  · intro args s m h hn
    obtain ⟨meth, c, h1, h2, h3, h4, h5, h6, -, -⟩ := Cond.code_spec hn (atoms_spec (ws := .code y b nL r :: lw_g) h _ List.mem_cons_self)
    exact ⟨meth, c, h1, h2, h3, h4, h5, h6⟩
  · intro p e s m args below meth c s₁ B hml hv _
    obtain ⟨rfl, hsz, hP, hK, hD0, hZ, hX⟩ := hv
    subst hsz
    subst hlv
    have hD := hD0.self (sz := s.heap.size)
    have hts := atoms_spec (ws := .code y b nL r :: lw_g) B.pre
    have hl := lv_entry av (n := nL) hlen
    have hh0 : s₁.heap = s.heap := by rw [B.state]; rfl
    have K := h (p, e, s, m, av.toArray, below, meth, c, va_A w s.heap.size) ⟨B.exec, B.bytes, B.returns, hml, findClass_of_methodNamed B.named, fun w hw => hts w (List.mem_cons_of_mem _ hw), B.notSynchronized, hK, fun q hq => Or.inr hq, (name_of_methodNamed B.named B.method).1, hZ, hX⟩ s.heap [] _ hP hD va_S.rf hl
    rw [← lg_entry_eq] at K
    obtain ⟨t, a1, o, b1, b2, b3⟩ := K s₁ hh0 (Stand.of_body B)
    exact ⟨t, o, a1, b1, b2, ⟨b3.1, b3.2⟩⟩
end SP0
section SP1
variable {D : DX} {Γ : GX} {y : MethodName} {cc : ByteArray} {nL : Nat} {ret : Option FieldType} {R : Room} {Q : State → Prop} {k n : Nat} {w : va_W} {pc : Nat} {lv : List (Nat × Value)} {st : List Value}
theorem j_if_eq_B {b : Bool} {off : Int} {tgt : Nat} (hdg : decode cc pc = .ok (.ifCond .eq off, 3)) (ht : (pc : Int) + off = (tgt : Int)) (k1 : b = false → J D Γ y cc nL ret R Q k n w tgt lv st) (k2 : b = true → J D Γ y cc nL ret R Q k n w (pc + 3) lv st) : J D Γ y cc nL ret R Q k n w pc lv (.int (bI b) :: st) := j_if_eq hdg ht (fun q => k1 (by cases b; rfl; exact absurd q (by decide))) (fun q => k2 (by cases b; exact absurd rfl q; rfl))
theorem j_if_ne_B {b : Bool} {off : Int} {tgt : Nat} (hdg : decode cc pc = .ok (.ifCond .ne off, 3)) (ht : (pc : Int) + off = (tgt : Int)) (k1 : b = true → J D Γ y cc nL ret R Q k n w tgt lv st) (k2 : b = false → J D Γ y cc nL ret R Q k n w (pc + 3) lv st) : J D Γ y cc nL ret R Q k n w pc lv (.int (bI b) :: st) := j_if_ne hdg ht (fun q => k1 (by cases b; exact absurd rfl q; rfl)) (fun q => k2 (by cases b; rfl; exact absurd q (by decide)))
end SP1
theorem nI_m9 {j : Nat} (h : j < 2 ^ 31) : ¬ nI j = -9 := by
  intro q
  have e := congrArg Int32.toInt q
  rw [nI_toInt h] at e
  have z : (-9 : Int32).toInt = -9 := by decide
  omega
abbrev EX (D : DX) (E : Nat → Nat) (m c l q : SS) (a b z : Int32) : va_W := [(E 0, .inr (0, [.ref (E 1), .ref (E 2), .ref (E 3), .ref (E 4), .int a, .int b, .int z])), (E 1, .inl (dI D, 64, .inl m)), (E 2, .inl (dI D, 28, .inl c)), (E 3, .inl (dI D, 312, .inl l)), (E 4, .inl (dI D, 24, .inl q))]
theorem cpyM (s t : SS) : va_cpy (vM t) (vM s) 0 0 64 = vM t := by
  funext k; unfold va_cpy vM; by_cases h : k < 64
  · simp [h]
  · simp [h]
theorem cpyC (s t : SS) : va_cpy (vC t) (vC s) 0 0 28 = vC t := by
  funext k; unfold va_cpy vC; by_cases h : k < 28
  · simp [h]
  · simp [h]
theorem cpyL (s t : SS) : va_cpy (vL t) (vL s) 0 0 312 = vL t := by
  funext k; unfold va_cpy vL; by_cases h : k < 312
  · simp [h]
  · simp [h]
theorem cpyQ (s t : SS) : va_cpy (vQ t) (vQ s) 0 0 24 = vQ t := by
  funext k; unfold va_cpy vQ; by_cases h : k < 24
  · simp [h]
  · simp [h]
def eng (s : SS) (p : Nat) : Bool := decide (gL s p 9 = 1)
def tc (s : SS) (p : Nat) : Bool := decide (gL s p 9 = 1) && decide (gL s p 12 = 0)
def has (s : SS) (p : Nat) : Bool := decide (0 < gL s p 2)
def hd (s : SS) (c : Nat) : Nat := (gC s c 4).toNatClampNeg
def pl (s : SS) (c : Nat) : Nat := c * 6 + hd s c
def oN : Option Nat → Int32
  | none => -9
  | some c => nI c
/-- which place is carried from next -/
def prs (s : SS) (c : Nat) : Option Nat := if tc s (pl s c) then some (pl s c) else none
def nn (s : SS) (p : Nat) : Nat := (gL s p 2).toNatClampNeg
def rr (s : SS) (p : Nat) : Nat := (gL s p 5).toNatClampNeg
def am (x : Int32) : Nat := (x.toInt % 64).toNat
theorem am_lt (x : Int32) : am x < 64 := by unfold am; omega
def ad (s : SS) (p k way : Nat) : Nat := am (gL s p way + nI (k / nn s p) * gL s p (6 + way) + nI (k % nn s p) * gL s p (3 + way))
theorem ad_lt (s : SS) (p k way : Nat) : ad s p k way < 64 := am_lt _
theorem tc_t {s : SS} {p : Nat} (h1 : gL s p 9 = 1) (h2 : gL s p 12 = 0) : tc s p = true := by simp [tc, h1, h2]
theorem tc_f1 {s : SS} {p : Nat} (h1 : ¬ gL s p 9 = 1) : tc s p = false := by simp [tc, h1]
theorem tc_f2 {s : SS} {p : Nat} (h1 : ¬ gL s p 12 = 0) : tc s p = false := by simp [tc, h1]
theorem eng_t {s : SS} {p : Nat} (h : gL s p 9 = 1) : eng s p = true := decide_eq_true h
theorem eng_f {s : SS} {p : Nat} (h : ¬ gL s p 9 = 1) : eng s p = false := decide_eq_false h
theorem has_t {s : SS} {p : Nat} (h : ¬ gL s p 2 ≤ 0) : has s p = true := decide_eq_true (by
  rw [Int32.lt_iff_toInt_lt]
  rw [Int32.le_iff_toInt_le] at h
  omega)
theorem has_f {s : SS} {p : Nat} (h : gL s p 2 ≤ 0) : has s p = false := decide_eq_false (by
  rw [Int32.lt_iff_toInt_lt]
  rw [Int32.le_iff_toInt_le] at h
  omega)
