/-! what the engine's small questions answer -/
theorem rv_t {b : Bool} (h : b = true) : some (Value.int (nI 1)) = some (Value.int (bI b)) := by rw [h]; rfl
theorem rv_f {b : Bool} (h : b = false) : some (Value.int (nI 0)) = some (Value.int (bI b)) := by rw [h]; rfl
def eng (s : SS) (p : Nat) : Bool := decide (gL s p 9 = 1)
def tc (s : SS) (p : Nat) : Bool := decide (gL s p 9 = 1) && decide (gL s p 12 = 0)
def has (s : SS) (p : Nat) : Bool := decide (0 < gL s p 2)
def hd (s : SS) (c : Nat) : Nat := (gC s c 4).toNatClampNeg
def pl (s : SS) (c : Nat) : Nat := c * 6 + hd s c
def oN : Option Nat → Int32
  | none => -9
  | some c => nI c
/-- which place is carried from next -/
def prs (s : SS) (c : Nat) : Option Nat := if tc s (pl s c) then some (pl s c) else none
def nn (s : SS) (p : Nat) : Nat := (gL s p 2).toNatClampNeg
def rr (s : SS) (p : Nat) : Nat := (gL s p 5).toNatClampNeg
def am (x : Int32) : Nat := (x.toInt % 64).toNat
theorem am_lt (x : Int32) : am x < 64 := by unfold am; omega
def ad (s : SS) (p k way : Nat) : Nat := am (gL s p way + nI (k / nn s p) * gL s p (6 + way) + nI (k % nn s p) * gL s p (3 + way))
theorem ad_lt (s : SS) (p k way : Nat) : ad s p k way < 64 := am_lt _
theorem tc_t {s : SS} {p : Nat} (h1 : gL s p 9 = 1) (h2 : gL s p 12 = 0) : tc s p = true := by simp [tc, h1, h2]
theorem tc_f1 {s : SS} {p : Nat} (h1 : ¬ gL s p 9 = 1) : tc s p = false := by simp [tc, h1]
theorem tc_f2 {s : SS} {p : Nat} (h1 : ¬ gL s p 12 = 0) : tc s p = false := by simp [tc, h1]
theorem eng_t {s : SS} {p : Nat} (h : gL s p 9 = 1) : eng s p = true := decide_eq_true h
theorem eng_f {s : SS} {p : Nat} (h : ¬ gL s p 9 = 1) : eng s p = false := decide_eq_false h
theorem has_t {s : SS} {p : Nat} (h : ¬ gL s p 2 ≤ 0) : has s p = true := decide_eq_true (by
  rw [Int32.lt_iff_toInt_lt]
  rw [Int32.le_iff_toInt_le] at h
  omega)
theorem has_f {s : SS} {p : Nat} (h : gL s p 2 ≤ 0) : has s p = false := decide_eq_false (by
  rw [Int32.lt_iff_toInt_lt]
  rw [Int32.le_iff_toInt_le] at h
  omega)
