/-! more of what is asked and done -/
theorem wb2_y {s : SS} {p : Nat} (h : gL (wb1 s p) p 8 = 0) : wb2 s p = upd (wb1 s p) (64 + 7 * (p / 6) + 5) (gC (wb1 s p) (p / 6) 5 + 1) := if_pos h
theorem wb2_n {s : SS} {p : Nat} (h : ¬ gL (wb1 s p) p 8 = 0) : wb2 s p = wb1 s p := if_neg h
theorem gr2_f {b : Bool} {s : SS} {c : Nat} (h : b = false) : gr2 b s c = gr1 s c := by rw [h]; rfl
theorem gr2_t {b : Bool} {s : SS} {c : Nat} (h : b = true) : gr2 b s c = caF (pl s c) (mny s c) (un s (pl s c) - re s (pl s c)) (gr1 s c) := by rw [h]; rfl
theorem grF_y {b : Bool} {s : SS} {c : Nat} (h : re s (pl s c) = mny s c) : grF b s c = wtF (gr3 b s c) c (pl s c) := if_pos h
theorem grF_n {b : Bool} {s : SS} {c : Nat} (h : ¬ re s (pl s c) = mny s c) : grF b s c = gr3 b s c := if_neg h
theorem tk_n {s : SS} (h : tk0 s 428 = 0) : tk s = tk0 s := if_pos h
theorem tk_y {s : SS} (h : ¬ tk0 s 428 = 0) : tk s = wbF (tk0 s) (qu (tk0 s)) := if_neg h
theorem tkF_n {b : Bool} {s : SS} (h : tkW s = none) : tkF b s = tk s := by unfold tkF; rw [h]
theorem tkF_s {b : Bool} {s : SS} {c : Nat} (h : tkW s = some c) : tkF b s = grF b (tk s) c := by unfold tkF; rw [h]
theorem q_le {s : SS} (h : Inv s) (hq : s 428 ≤ 0) : s 428 = 0 := by
  rcases h.2.2.1 with q | q
  · exact q
  · rw [q.1] at hq; exact absurd hq (by decide)
theorem q_gt {s : SS} (hq : ¬ s 428 ≤ 0) : ¬ s 428 = 0 := fun e => hq (by rw [e]; decide)
def waF (s : SS) (c : Nat) : SS := if s 428 = 0 then s else if qu s / 6 = c then wbF s (qu s) else s
theorem waF_0 {s : SS} {c : Nat} (h : s 428 = 0) : waF s c = s := if_pos h
theorem waF_y {s : SS} {c : Nat} (h : ¬ s 428 = 0) (h2 : qu s / 6 = c) : waF s c = wbF s (qu s) := by unfold waF; rw [if_neg h, if_pos h2]
theorem waF_n {s : SS} {c : Nat} (h : ¬ s 428 = 0) (h2 : ¬ qu s / 6 = c) : waF s c = s := by unfold waF; rw [if_neg h, if_neg h2]
theorem Inv_wa {s : SS} {c : Nat} (h : Inv s) : Inv (waF s c) := by
  unfold waF
  split
  · exact h
  · rename_i q
    split
    · exact Inv_wb h (h.qu_ q).2.2
    · exact h
def ca1 (s : SS) (p : Nat) : SS := upd (upd s (93 + 14 * p + 9) 0) (93 + 14 * p + 10) 2
def caN : Nat → SS → Nat → Nat → Int32 → SS × Nat × Int32
  | 0, s, _, h, a => (s, h, a)
  | f + 1, s, c, h, a => if gL (ca1 s (c * 6 + h)) (c * 6 + h) 8 = 1 ∧ eng (ca1 s (c * 6 + h)) (c * 6 + (h + 1) % 6) = true then caN f (ca1 s (c * 6 + h)) c ((h + 1) % 6) (a + gL s (c * 6 + h) 11) else (ca1 s (c * 6 + h), (h + 1) % 6, a + gL s (c * 6 + h) 11)
def cnS (s : SS) (c : Nat) : SS × Nat × Int32 := caN 6 (waF s c) c (hd (waF s c) c) 0
def cnF (s : SS) (c : Nat) : SS := upd (cnS s c).1 (64 + 7 * c + 4) (nI (cnS s c).2.1)
def cnA (s : SS) (c : Nat) : Int32 := (cnS s c).2.2
theorem caN_y {f : Nat} {s : SS} {c h : Nat} {a : Int32} (h1 : gL (ca1 s (c * 6 + h)) (c * 6 + h) 8 = 1) (h2 : eng (ca1 s (c * 6 + h)) (c * 6 + (h + 1) % 6) = true) : caN (f + 1) s c h a = caN f (ca1 s (c * 6 + h)) c ((h + 1) % 6) (a + gL s (c * 6 + h) 11) := if_pos ⟨h1, h2⟩
theorem caN_n {f : Nat} {s : SS} {c h : Nat} {a : Int32} (h1 : ¬ (gL (ca1 s (c * 6 + h)) (c * 6 + h) 8 = 1 ∧ eng (ca1 s (c * 6 + h)) (c * 6 + (h + 1) % 6) = true)) : caN (f + 1) s c h a = (ca1 s (c * 6 + h), (h + 1) % 6, a + gL s (c * 6 + h) 11) := if_neg h1
def wbs (s : SS) (p : Nat) : Nat → Int64
  | 0 => 0
  | i + 1 => wbs s p i ||| ((1 : Int64) <<< ((nI (ad s p i 1)).toInt64 &&& 63))
def ucP (s : SS) (p a : Nat) : Nat → Bool := fun i => decide (ad s p (un s p - re s p + i) 1 = a)
def ucF (s : SS) (p a : Nat) : Nat := cnt (ucP s p a) (re s p)
def lnd (s : SS) (a : Nat) : Nat → Nat
  | 0 => 0
  | i + 1 => lnd s a i + (if tc s i then ucF s i a else 0)
theorem lnd_t {s : SS} {a i : Nat} (h : tc s i = true) : lnd s a (i + 1) = lnd s a i + ucF s i a := by show _ + (if tc s i then _ else _) = _; rw [if_pos h]
theorem lnd_f {s : SS} {a i : Nat} (h : tc s i = false) : lnd s a (i + 1) = lnd s a i := by show _ + (if tc s i then _ else _) = _; rw [h]; rfl
