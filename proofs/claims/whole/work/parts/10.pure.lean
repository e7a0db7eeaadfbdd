section PU1
variable {D : DX} {Γ : GX} {y : MethodName} {cc : ByteArray} {nL : Nat} {ret : Option FieldType} {R : Room} {Q : State → Prop} {k n : Nat} {w : va_W} {pc : Nat} {lv : List (Nat × Value)} {st : List Value}
theorem j_icmp_eq_N {a b : Nat} {off : Int} {tgt : Nat} (hdg : decode cc pc = .ok (.if_icmp .eq off, 3)) (ht : (pc : Int) + off = (tgt : Int)) (hab : a < 2 ^ 31 ∧ b < 2 ^ 31) (k1 : a = b → J D Γ y cc nL ret R Q k n w tgt lv st) (k2 : ¬ a = b → J D Γ y cc nL ret R Q k n w (pc + 3) lv st) : J D Γ y cc nL ret R Q k n w pc lv (.int (nI b) :: .int (nI a) :: st) := j_icmp_eq hdg ht (fun q => k1 ((nI_eq hab.1 hab.2).mp q)) (fun q => k2 (fun z => q ((nI_eq hab.1 hab.2).mpr z)))
theorem j_icmp_ne_N {a b : Nat} {off : Int} {tgt : Nat} (hdg : decode cc pc = .ok (.if_icmp .ne off, 3)) (ht : (pc : Int) + off = (tgt : Int)) (hab : a < 2 ^ 31 ∧ b < 2 ^ 31) (k1 : ¬ a = b → J D Γ y cc nL ret R Q k n w tgt lv st) (k2 : a = b → J D Γ y cc nL ret R Q k n w (pc + 3) lv st) : J D Γ y cc nL ret R Q k n w pc lv (.int (nI b) :: .int (nI a) :: st) := j_icmp_ne hdg ht (fun q => k1 (fun z => q ((nI_eq hab.1 hab.2).mpr z))) (fun q => k2 ((nI_eq hab.1 hab.2).mp q))
theorem j_icmp_lt_N {a b : Nat} {off : Int} {tgt : Nat} (hdg : decode cc pc = .ok (.if_icmp .lt off, 3)) (ht : (pc : Int) + off = (tgt : Int)) (hab : a < 2 ^ 31 ∧ b < 2 ^ 31) (k1 : a < b → J D Γ y cc nL ret R Q k n w tgt lv st) (k2 : ¬ a < b → J D Γ y cc nL ret R Q k n w (pc + 3) lv st) : J D Γ y cc nL ret R Q k n w pc lv (.int (nI b) :: .int (nI a) :: st) := j_icmp_lt hdg ht (fun q => k1 ((nI_ltI hab.1 hab.2).mp q)) (fun q => k2 (fun z => q ((nI_ltI hab.1 hab.2).mpr z)))
theorem j_icmp_ge_N {a b : Nat} {off : Int} {tgt : Nat} (hdg : decode cc pc = .ok (.if_icmp .ge off, 3)) (ht : (pc : Int) + off = (tgt : Int)) (hab : a < 2 ^ 31 ∧ b < 2 ^ 31) (k1 : b ≤ a → J D Γ y cc nL ret R Q k n w tgt lv st) (k2 : ¬ b ≤ a → J D Γ y cc nL ret R Q k n w (pc + 3) lv st) : J D Γ y cc nL ret R Q k n w pc lv (.int (nI b) :: .int (nI a) :: st) := j_icmp_ge hdg ht (fun q => k1 ((nI_leI hab.2 hab.1).mp q)) (fun q => k2 (fun z => q ((nI_leI hab.2 hab.1).mpr z)))
theorem j_icmp_gt_N {a b : Nat} {off : Int} {tgt : Nat} (hdg : decode cc pc = .ok (.if_icmp .gt off, 3)) (ht : (pc : Int) + off = (tgt : Int)) (hab : a < 2 ^ 31 ∧ b < 2 ^ 31) (k1 : b < a → J D Γ y cc nL ret R Q k n w tgt lv st) (k2 : ¬ b < a → J D Γ y cc nL ret R Q k n w (pc + 3) lv st) : J D Γ y cc nL ret R Q k n w pc lv (.int (nI b) :: .int (nI a) :: st) := j_icmp_gt hdg ht (fun q => k1 ((nI_ltI hab.2 hab.1).mp q)) (fun q => k2 (fun z => q ((nI_ltI hab.2 hab.1).mpr z)))
theorem j_icmp_le_N {a b : Nat} {off : Int} {tgt : Nat} (hdg : decode cc pc = .ok (.if_icmp .le off, 3)) (ht : (pc : Int) + off = (tgt : Int)) (hab : a < 2 ^ 31 ∧ b < 2 ^ 31) (k1 : a ≤ b → J D Γ y cc nL ret R Q k n w tgt lv st) (k2 : ¬ a ≤ b → J D Γ y cc nL ret R Q k n w (pc + 3) lv st) : J D Γ y cc nL ret R Q k n w pc lv (.int (nI b) :: .int (nI a) :: st) := j_icmp_le hdg ht (fun q => k1 ((nI_leI hab.1 hab.2).mp q)) (fun q => k2 (fun z => q ((nI_leI hab.1 hab.2).mpr z)))
theorem j_if_eq_N {a : Nat} {off : Int} {tgt : Nat} (hdg : decode cc pc = .ok (.ifCond .eq off, 3)) (ht : (pc : Int) + off = (tgt : Int)) (ha : a < 2 ^ 31) (k1 : a = 0 → J D Γ y cc nL ret R Q k n w tgt lv st) (k2 : ¬ a = 0 → J D Γ y cc nL ret R Q k n w (pc + 3) lv st) : J D Γ y cc nL ret R Q k n w pc lv (.int (nI a) :: st) := j_if_eq hdg ht (fun q => k1 ((nI_eq ha (by decide : (0 : Nat) < 2 ^ 31)).mp q)) (fun q => k2 (fun z => q ((nI_eq ha (by decide : (0 : Nat) < 2 ^ 31)).mpr z)))
theorem j_if_ne_N {a : Nat} {off : Int} {tgt : Nat} (hdg : decode cc pc = .ok (.ifCond .ne off, 3)) (ht : (pc : Int) + off = (tgt : Int)) (ha : a < 2 ^ 31) (k1 : ¬ a = 0 → J D Γ y cc nL ret R Q k n w tgt lv st) (k2 : a = 0 → J D Γ y cc nL ret R Q k n w (pc + 3) lv st) : J D Γ y cc nL ret R Q k n w pc lv (.int (nI a) :: st) := j_if_ne hdg ht (fun q => k1 (fun z => q ((nI_eq ha (by decide : (0 : Nat) < 2 ^ 31)).mpr z))) (fun q => k2 ((nI_eq ha (by decide : (0 : Nat) < 2 ^ 31)).mp q))
theorem j_if_lt_N {a : Nat} {off : Int} {tgt : Nat} (hdg : decode cc pc = .ok (.ifCond .lt off, 3)) (ht : (pc : Int) + off = (tgt : Int)) (ha : a < 2 ^ 31) (k1 : a < 0 → J D Γ y cc nL ret R Q k n w tgt lv st) (k2 : ¬ a < 0 → J D Γ y cc nL ret R Q k n w (pc + 3) lv st) : J D Γ y cc nL ret R Q k n w pc lv (.int (nI a) :: st) := j_if_lt hdg ht (fun q => k1 ((nI_ltI ha (by decide : (0 : Nat) < 2 ^ 31)).mp q)) (fun q => k2 (fun z => q ((nI_ltI ha (by decide : (0 : Nat) < 2 ^ 31)).mpr z)))
theorem j_if_ge_N {a : Nat} {off : Int} {tgt : Nat} (hdg : decode cc pc = .ok (.ifCond .ge off, 3)) (ht : (pc : Int) + off = (tgt : Int)) (ha : a < 2 ^ 31) (k1 : 0 ≤ a → J D Γ y cc nL ret R Q k n w tgt lv st) (k2 : ¬ 0 ≤ a → J D Γ y cc nL ret R Q k n w (pc + 3) lv st) : J D Γ y cc nL ret R Q k n w pc lv (.int (nI a) :: st) := j_if_ge hdg ht (fun q => k1 ((nI_leI (by decide : (0 : Nat) < 2 ^ 31) ha).mp q)) (fun q => k2 (fun z => q ((nI_leI (by decide : (0 : Nat) < 2 ^ 31) ha).mpr z)))
theorem j_if_gt_N {a : Nat} {off : Int} {tgt : Nat} (hdg : decode cc pc = .ok (.ifCond .gt off, 3)) (ht : (pc : Int) + off = (tgt : Int)) (ha : a < 2 ^ 31) (k1 : 0 < a → J D Γ y cc nL ret R Q k n w tgt lv st) (k2 : ¬ 0 < a → J D Γ y cc nL ret R Q k n w (pc + 3) lv st) : J D Γ y cc nL ret R Q k n w pc lv (.int (nI a) :: st) := j_if_gt hdg ht (fun q => k1 ((nI_ltI (by decide : (0 : Nat) < 2 ^ 31) ha).mp q)) (fun q => k2 (fun z => q ((nI_ltI (by decide : (0 : Nat) < 2 ^ 31) ha).mpr z)))
theorem j_if_le_N {a : Nat} {off : Int} {tgt : Nat} (hdg : decode cc pc = .ok (.ifCond .le off, 3)) (ht : (pc : Int) + off = (tgt : Int)) (ha : a < 2 ^ 31) (k1 : a ≤ 0 → J D Γ y cc nL ret R Q k n w tgt lv st) (k2 : ¬ a ≤ 0 → J D Γ y cc nL ret R Q k n w (pc + 3) lv st) : J D Γ y cc nL ret R Q k n w pc lv (.int (nI a) :: st) := j_if_le hdg ht (fun q => k1 ((nI_leI ha (by decide : (0 : Nat) < 2 ^ 31)).mp q)) (fun q => k2 (fun z => q ((nI_leI ha (by decide : (0 : Nat) < 2 ^ 31)).mpr z)))
theorem nI_cl {j : Nat} (h : j < 2 ^ 31) : (nI j).toNatClampNeg = j := nI_clamp h
theorem j_copy {a a0 N0 N1 idx : Nat} {f g : Nat → Int32} {w2 : va_W} (hl2 : Cond.methodLink y.cls idx arraycopyName ∈ lw_g) (hdg : decode cc pc = .ok (.invokestatic idx, 3)) (q0 q1 sp dp m0 : Nat) {x1 x2 x3 : Int32} (e1 : x1 = nI sp) (e2 : x2 = nI dp) (e3 : x3 = nI m0) (ha0 : w[q0]? = some (a0, .inl (dI D, N0, .inl f))) (ha1 : w[q1]? = some (a, .inl (dI D, N1, .inl g))) (b1 : sp < 2 ^ 31) (b2 : dp < 2 ^ 31) (b3 : m0 < 2 ^ 31) (h4 : sp + m0 ≤ N0) (h5 : dp + m0 ≤ N1) (hfr : 1 ≤ R.frames ∧ (st.map fun v => v.category).sum + 40 ≤ R.locals) (hw : w.set q1 (a, .inl (dI D, N1, .inl (va_cpy f g sp dp m0))) = w2) (kk : J D Γ y cc nL ret R Q k n w2 (pc + 3) lv st) : J D Γ y cc nL ret R Q k n w pc lv (.int x3 :: .int x2 :: .ref a :: .int x1 :: .ref a0 :: st) := by
  subst e1; subst e2; subst e3
  obtain ⟨p, e, s, m, args, below, meth, c, A⟩ := Γ
  intro h H locs ls hP hD hS hl
  have ht := h.2.2.2.2.2.1
  refine va_copyi h.1 h.2.1 (h.2.2.2.1.trans hl.1.symm) h.2.2.2.2.1 (ht _ hl2) (ht _ m_na_arraycopyName) (ht _ m_st_arraycopyName) (ht _ m_in_J10) h.2.2.2.2.2.2.2.1 hP hD hS q0 q1 0 0 ha0 ha1 rfl rfl rfl (nI_pos b1) (nI_pos b2) (nI_pos b3) (by rw [nI_cl b1, nI_cl b3]; exact h4) (by rw [nI_cl b2, nI_cl b3]; exact h5) (fun _ _ => rfl) hfr.1 (Nat.le_trans (Nat.add_le_add_left (by decide +kernel) _) hfr.2) hdg (fun H1 locs1 hP hD hS => ?_)
  rw [nI_cl b1, nI_cl b2, nI_cl b3, hw] at hP hD
  exact kk h H1 locs1 ls hP hD hS hl
theorem j_gs {q : String × String × String × Nat × Nat × (Nat → Int32)} {idx : Nat} (hl2 : Cond.fieldLink y.cls idx q.1 q.2.1 q.2.2.1 ∈ lw_g) (hq : q ∈ D.2.2.2) (hdg : decode cc pc = .ok (.getstatic idx, 3)) (kk : J D Γ y cc nL ret R Q k n w (pc + 3) lv (.ref q.2.2.2.1 :: st)) : J D Γ y cc nL ret R Q k n w pc lv st := by
  obtain ⟨p, e, s, m, args, below, meth, c, A⟩ := Γ
  intro h H locs ls hP hD hS hl
  exact va_gets h.1 h.2.1 (h.2.2.2.2.2.2.2.2.2.2.1 q hq).1 hS h.2.2.2.2.1 (h.2.2.2.2.2.1 _ hl2) (fun _ h9 => h9) hdg (kk h H locs ls hP hD hS hl)
theorem j_ti {q : String × String × String × Nat × Nat × (Nat → Int32)} {i v : Int32} (hq : q ∈ D.2.2.2) (hdg : decode cc pc = .ok (.iaload, 1)) (j : Nat) (hi : i = nI j) (hj : j < q.2.2.2.2.1) (hN : q.2.2.2.2.1 < 2 ^ 31) (hv : q.2.2.2.2.2 j = v) (kk : J D Γ y cc nL ret R Q k n w (pc + 1) lv (.int v :: st)) : J D Γ y cc nL ret R Q k n w pc lv (.int i :: .ref q.2.2.2.1 :: st) := by
  subst hi
  obtain ⟨p, e, s, m, args, below, meth, c, A⟩ := Γ
  intro h H locs ls hP hD hS hl
  exact va_ti h.1 h.2.1 (h.2.2.2.2.2.2.2.2.2.2.1 q hq).2 hS (vp_in_nI hj hN) (v := .int v) (by rw [nI_clamp (Nat.lt_trans hj hN), hv]) hdg (kk h H locs ls hP hD hS hl)
theorem j_tlen {q : String × String × String × Nat × Nat × (Nat → Int32)} {v : Int32} (hq : q ∈ D.2.2.2) (hdg : decode cc pc = .ok (.arraylength, 1)) (hv : Int32.ofNat q.2.2.2.2.1 = v) (kk : J D Γ y cc nL ret R Q k n w (pc + 1) lv (.int v :: st)) : J D Γ y cc nL ret R Q k n w pc lv (.ref q.2.2.2.1 :: st) := by
  obtain ⟨p, e, s, m, args, below, meth, c, A⟩ := Γ
  intro h H locs ls hP hD hS hl
  exact va_tlen h.1 h.2.1 (h.2.2.2.2.2.2.2.2.2.2.1 q hq).2 hS hv hdg (kk h H locs ls hP hD hS hl)
end PU1
/-! the engine's state as one row of numbers s: bytes 0 .. 63; channels 64 + 7 c + j; letters 92 + 14 p (has), 93 + 14 p + j; 428 how many wait; 429 .. who; 453 last; 454 ticks -/
abbrev SS : Type := Nat → Int32
def vM (s : SS) : SS := fun k => if k < 64 then s k else 0
def vC (s : SS) : SS := fun k => if k < 28 then s (64 + k) else 0
def vL (s : SS) : SS := fun k => if k < 312 then s (93 + 14 * (k / 13) + k % 13) else 0
def vQ (s : SS) : SS := fun k => if k < 24 then s (429 + k) else 0
abbrev EW (D : DX) (E : Nat → Nat) (s : SS) : va_W := [(E 0, .inr (0, [.ref (E 1), .ref (E 2), .ref (E 3), .ref (E 4), .int (s 428), .int (s 453), .int (s 454)])), (E 1, .inl (dI D, 64, .inl (vM s))), (E 2, .inl (dI D, 28, .inl (vC s))), (E 3, .inl (dI D, 312, .inl (vL s))), (E 4, .inl (dI D, 24, .inl (vQ s)))]
abbrev gC (s : SS) (c j : Nat) : Int32 := s (64 + 7 * c + j)
abbrev gL (s : SS) (p j : Nat) : Int32 := s (93 + 14 * p + j)
theorem vM_at {s : SS} {k : Nat} (h : k < 64) : vM s k = s k := by simp [vM, h]
theorem vC_at {s : SS} {c j : Nat} (hc : c < 4) (hj : j < 7) : vC s (c * 7 + j) = gC s c j := by
  unfold vC gC
  rw [if_pos (by omega)]
  congr 1; omega
theorem vL_at {s : SS} {p j : Nat} (hp : p < 24) (hj : j < 13) : vL s (p * 13 + j) = gL s p j := by
  unfold vL gL
  rw [if_pos (by omega)]
  congr 1; omega
theorem vQ_at {s : SS} {k : Nat} (h : k < 24) : vQ s k = s (429 + k) := by simp [vQ, h]
theorem vM_up {s : SS} {k : Nat} {x : Int32} (h : 64 ≤ k) : vM (upd s k x) = vM s := by
  funext j; unfold vM upd
  split
  · rw [if_neg (by omega)]
  · rfl
theorem vC_up {s : SS} {k : Nat} {x : Int32} (h : k < 64 ∨ 92 ≤ k) : vC (upd s k x) = vC s := by
  funext j; unfold vC upd
  split
  · rw [if_neg (by omega)]
  · rfl
theorem vL_up {s : SS} {k : Nat} {x : Int32} (h : k < 93 ∨ 428 ≤ k) : vL (upd s k x) = vL s := by
  funext j; unfold vL upd
  split
  · rw [if_neg (by omega)]
  · rfl
theorem vQ_up {s : SS} {k : Nat} {x : Int32} (h : k < 429 ∨ 453 ≤ k) : vQ (upd s k x) = vQ s := by
  funext j; unfold vQ upd
  split
  · rw [if_neg (by omega)]
  · rfl
theorem vM_set {s : SS} {k : Nat} {x : Int32} (h : k < 64) : upd (vM s) k x = vM (upd s k x) := by
  funext j; unfold vM upd
  by_cases e : j = k
  · subst e; simp [h]
  · simp [e]
theorem vC_set {s : SS} {c j : Nat} {x : Int32} (hc : c < 4) (hj : j < 7) : upd (vC s) (c * 7 + j) x = vC (upd s (64 + 7 * c + j) x) := by
  funext i; unfold vC upd
  by_cases e : i = c * 7 + j
  · subst e; rw [if_pos rfl, if_pos (by omega), if_pos (by omega)]
  · rw [if_neg e]
    dsimp only
    by_cases hi : i < 28
    · rw [if_pos hi, if_pos hi, if_neg (by omega)]
    · rw [if_neg hi, if_neg hi]
theorem vL_set {s : SS} {p j : Nat} {x : Int32} (hp : p < 24) (hj : j < 13) : upd (vL s) (p * 13 + j) x = vL (upd s (93 + 14 * p + j) x) := by
  funext i; unfold vL upd
  by_cases e : i = p * 13 + j
  · subst e; rw [if_pos rfl, if_pos (by omega), if_pos (by omega)]
  · rw [if_neg e]
    dsimp only
    by_cases hi : i < 312
    · rw [if_pos hi, if_pos hi, if_neg (by omega)]
    · rw [if_neg hi, if_neg hi]
theorem vQ_set {s : SS} {k : Nat} {x : Int32} (h : k < 24) : upd (vQ s) k x = vQ (upd s (429 + k) x) := by
  funext i; unfold vQ upd
  by_cases e : i = k
  · subst e; rw [if_pos rfl, if_pos h, if_pos rfl]
  · rw [if_neg e]
    dsimp only
    by_cases hi : i < 24
    · rw [if_pos hi, if_pos hi, if_neg (by omega)]
    · rw [if_neg hi, if_neg hi]
theorem up_ne {s : SS} {k j : Nat} {x : Int32} (h : j ≠ k) : upd s k x j = s j := pk_un h
theorem up_eq {s : SS} {k : Nat} {x : Int32} : upd s k x k = x := pk_us
/-- a byte, a channel's number, a letter's number, a place of the queue, the three fields are set -/
theorem EW_M {D : DX} {E : Nat → Nat} {s : SS} {k : Nat} {x : Int32} (h : k < 64) : (EW D E s).set 1 (E 1, .inl (dI D, 64, .inl (upd (vM s) k x))) = EW D E (upd s k x) := by
  show [_, _, _, _, _] = _
  rw [vM_set h]
  simp only [EW, vC_up (s := s) (x := x) (Or.inl h), vL_up (s := s) (x := x) (Or.inl (by omega : k < 93)), vQ_up (s := s) (x := x) (Or.inl (by omega : k < 429)), up_ne (s := s) (x := x) (by omega : 428 ≠ k), up_ne (s := s) (x := x) (by omega : 453 ≠ k), up_ne (s := s) (x := x) (by omega : 454 ≠ k)]
theorem EW_C {D : DX} {E : Nat → Nat} {s : SS} {c j : Nat} {x : Int32} (hc : c < 4) (hj : j < 7) : (EW D E s).set 2 (E 2, .inl (dI D, 28, .inl (upd (vC s) (c * 7 + j) x))) = EW D E (upd s (64 + 7 * c + j) x) := by
  show [_, _, _, _, _] = _
  rw [vC_set hc hj]
  simp only [EW, vM_up (s := s) (x := x) (by omega : 64 ≤ 64 + 7 * c + j), vL_up (s := s) (x := x) (Or.inl (by omega : 64 + 7 * c + j < 93)), vQ_up (s := s) (x := x) (Or.inl (by omega : 64 + 7 * c + j < 429)), up_ne (s := s) (x := x) (by omega : 428 ≠ 64 + 7 * c + j), up_ne (s := s) (x := x) (by omega : 453 ≠ 64 + 7 * c + j), up_ne (s := s) (x := x) (by omega : 454 ≠ 64 + 7 * c + j)]
theorem EW_L {D : DX} {E : Nat → Nat} {s : SS} {p j : Nat} {x : Int32} (hp : p < 24) (hj : j < 13) : (EW D E s).set 3 (E 3, .inl (dI D, 312, .inl (upd (vL s) (p * 13 + j) x))) = EW D E (upd s (93 + 14 * p + j) x) := by
  show [_, _, _, _, _] = _
  rw [vL_set hp hj]
  simp only [EW, vM_up (s := s) (x := x) (by omega : 64 ≤ 93 + 14 * p + j), vC_up (s := s) (x := x) (Or.inr (by omega : 92 ≤ 93 + 14 * p + j)), vQ_up (s := s) (x := x) (Or.inl (by omega : 93 + 14 * p + j < 429)), up_ne (s := s) (x := x) (by omega : 428 ≠ 93 + 14 * p + j), up_ne (s := s) (x := x) (by omega : 453 ≠ 93 + 14 * p + j), up_ne (s := s) (x := x) (by omega : 454 ≠ 93 + 14 * p + j)]
theorem EW_Q {D : DX} {E : Nat → Nat} {s : SS} {k : Nat} {x : Int32} (h : k < 24) : (EW D E s).set 4 (E 4, .inl (dI D, 24, .inl (upd (vQ s) k x))) = EW D E (upd s (429 + k) x) := by
  show [_, _, _, _, _] = _
  rw [vQ_set h]
  simp only [EW, vM_up (s := s) (x := x) (by omega : 64 ≤ 429 + k), vC_up (s := s) (x := x) (Or.inr (by omega : 92 ≤ 429 + k)), vL_up (s := s) (x := x) (Or.inr (by omega : 428 ≤ 429 + k)), up_ne (s := s) (x := x) (by omega : 428 ≠ 429 + k), up_ne (s := s) (x := x) (by omega : 453 ≠ 429 + k), up_ne (s := s) (x := x) (by omega : 454 ≠ 429 + k)]
theorem EW_q {D : DX} {E : Nat → Nat} {s : SS} {x : Int32} : (EW D E s).set 0 (E 0, .inr (0, [.ref (E 1), .ref (E 2), .ref (E 3), .ref (E 4), .int x, .int (s 453), .int (s 454)])) = EW D E (upd s 428 x) := by
  show [_, _, _, _, _] = _
  simp only [EW, vM_up (s := s) (x := x) (by omega : 64 ≤ 428), vC_up (s := s) (x := x) (Or.inr (by omega : 92 ≤ 428)), vL_up (s := s) (x := x) (Or.inr (by omega : 428 ≤ 428)), vQ_up (s := s) (x := x) (Or.inl (by omega : 428 < 429)), up_eq, up_ne (s := s) (x := x) (by omega : 453 ≠ 428), up_ne (s := s) (x := x) (by omega : 454 ≠ 428)]
theorem EW_l {D : DX} {E : Nat → Nat} {s : SS} {x : Int32} : (EW D E s).set 0 (E 0, .inr (0, [.ref (E 1), .ref (E 2), .ref (E 3), .ref (E 4), .int (s 428), .int x, .int (s 454)])) = EW D E (upd s 453 x) := by
  show [_, _, _, _, _] = _
  simp only [EW, vM_up (s := s) (x := x) (by omega : 64 ≤ 453), vC_up (s := s) (x := x) (Or.inr (by omega : 92 ≤ 453)), vL_up (s := s) (x := x) (Or.inr (by omega : 428 ≤ 453)), vQ_up (s := s) (x := x) (Or.inr (by omega : 453 ≤ 453)), up_eq, up_ne (s := s) (x := x) (by omega : 428 ≠ 453), up_ne (s := s) (x := x) (by omega : 454 ≠ 453)]
theorem EW_t {D : DX} {E : Nat → Nat} {s : SS} {x : Int32} : (EW D E s).set 0 (E 0, .inr (0, [.ref (E 1), .ref (E 2), .ref (E 3), .ref (E 4), .int (s 428), .int (s 453), .int x])) = EW D E (upd s 454 x) := by
  show [_, _, _, _, _] = _
  simp only [EW, vM_up (s := s) (x := x) (by omega : 64 ≤ 454), vC_up (s := s) (x := x) (Or.inr (by omega : 92 ≤ 454)), vL_up (s := s) (x := x) (Or.inr (by omega : 428 ≤ 454)), vQ_up (s := s) (x := x) (Or.inr (by omega : 453 ≤ 454)), up_eq, up_ne (s := s) (x := x) (by omega : 428 ≠ 454), up_ne (s := s) (x := x) (by omega : 453 ≠ 454)]
/-- a Java boolean -/
def bI (b : Bool) : Int32 := if b then 1 else 0
theorem bI_t : bI true = 1 := rfl
theorem bI_f : bI false = 0 := rfl
theorem nar_b (b : Bool) : narrow .boolean (.int (bI b)) = .int (bI b) := by cases b <;> rfl

