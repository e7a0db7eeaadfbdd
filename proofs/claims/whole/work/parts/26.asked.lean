/-! what the questions answer -/
abbrev TR (D : DX) (O : Nat) (X E F Y Z V : Nat → Nat) : va_W := [(O, .inr (4, [.ref (X 0), .ref (E 0), .ref (F 0), .ref (Y 0), .ref (Z 0), .ref (V 0), .ref (V 1)]))]
abbrev IM (D : DX) (V : Nat → Nat) (G : Nat → Nat → Nat) (kp : SS) : va_W := [(V 0, .inl (dE D, 2, .inr (.inr (.inr (.inr (fun i => some (G i 0))))))), (V 1, .inl (dZ D, 2, .inl kp))]
def cl (v : Int32) : Nat := v.toNatClampNeg
def isC (v : Int32) : Bool := inR v (nI 0) (nI 3)
def isS (v z : Int32) : Bool := inR v (nI 0) (nI 3) && inR z (nI 0) (nI 5)
def atF (s : SS) (v : Int32) : Int32 := if inR v (nI 0) (nI 63) = true then s (cl v) else -1
def prR (s : SS) (c : Nat) : Int32 := match prs s c with
  | none => 0
  | some p => gL s p 11
def chF (s : SS) (v w : Int32) : Int32 := if inR v (nI 0) (nI 3) = true then (if w = nI 0 then gC s (cl v) 0 else if w = nI 1 then gC s (cl v) 1 else if w = nI 2 then gC s (cl v) 2 else if w = nI 3 then gC s (cl v) 3 else if w = nI 4 then gC s (cl v) 4 else if w = nI 5 then prR s (cl v) else if w = nI 6 then gC s (cl v) 5 else if w = nI 7 then gC s (cl v) 6 else if w = nI 8 then bI (rdy s (cl v)) else -1) else -1
def slF (s : SS) (v z w : Int32) : Int32 := if (inR v (nI 0) (nI 3) && inR z (nI 0) (nI 5)) = true ∧ inR w (nI 0) (nI 5) = true then (if has s (cl v * 6 + cl z) = true then (if w = nI 0 then gL s (cl v * 6 + cl z) 9 else if w = nI 1 then gL s (cl v * 6 + cl z) 10 else if w = nI 2 then gL s (cl v * 6 + cl z) 11 else if w = nI 3 then gL s (cl v * 6 + cl z) 2 * gL s (cl v * 6 + cl z) 5 else if w = nI 4 then gL s (cl v * 6 + cl z) 8 else gL s (cl v * 6 + cl z) 12) else -9) else -1
def uiF (s : SS) (v z k w : Int32) : Int32 := if (inR v (nI 0) (nI 3) && inR z (nI 0) (nI 5)) = true ∧ ¬ k < 0 ∧ inR w (nI 0) (nI 1) = true then (if has s (cl v * 6 + cl z) = true ∧ k < nI (un s (cl v * 6 + cl z)) then nI (ad s (cl v * 6 + cl z) (cl k) (cl w)) else -9) else -1
def waA (s : SS) (i : Int32) : Int32 := if i < 0 then -1 else if i < s 428 then nI (8 * (qu s / 6) + qu s % 6) else -9
def lnF (s : SS) (v : Int32) : Int32 := if inR v (nI 0) (nI 63) = true then nI (lnd s (cl v) 24) else -1
def ovA (s : SS) (v : Int32) : Int32 := if inR v (nI 0) (nI 3) = true then oN (ovF true s (cl v) 200) else -1
def enP (s : SS) (c n : Nat) : Nat → Bool := fun b => (ovF true (upd s (64 + 7 * c + 2) (nI b)) c n).isSome
def enA (s : SS) (v w : Int32) : Int32 := if inR v (nI 0) (nI 3) = true ∧ inR w (nI 0) (nI 200) = true then oN (fsN (enP s (cl v) (cl w)) 8 1) else -1
def gnA (s : SS) (v : Int32) : Int32 := if inR v (nI 1) (nI 40) = true then oN (tkW (itk true s (cl v - 1))) else -1
def rkB (s tk' wh : SS) (m c : Nat) : Nat → Int32
  | 0 => 0
  | r + 1 => if caT (upd s (64 + 7 * c + 1) (nI r)) tk' wh m 40 = true then rkB s tk' wh m c r ||| ((1 : Int32) <<< (nI r &&& 31)) else rkB s tk' wh m c r
def rkA (s tk' wh : SS) (m : Nat) (v : Int32) : Int32 := if inR v (nI 0) (nI 3) = true then rkB s tk' wh m (cl v) 4 else -1
def coF (s : SS) (m n kn : Nat) (w : Int32) : Int32 := if w = nI 0 then nI (els s 4) else if w = nI 1 then s 428 else if w = nI 2 then s 453 else if w = nI 3 then nI m else if w = nI 4 then nI n else if w = nI 5 then nI kn else if w = nI 6 then s 454 else -1
theorem nBool {b : Bool} (h : b = false) : ¬ b = true := by rw [h]; decide
theorem cl_nI {j : Nat} (h : j < 2 ^ 31) : cl (nI j) = j := nI_clamp h
theorem ts_out0_8 {x : Int32} (h0 : ¬ x = nI 0) (h1 : ¬ x = nI 1) (h2 : ¬ x = nI 2) (h3 : ¬ x = nI 3) (h4 : ¬ x = nI 4) (h5 : ¬ x = nI 5) (h6 : ¬ x = nI 6) (h7 : ¬ x = nI 7) (h8 : ¬ x = nI 8) : x.toInt < 0 ∨ 8 < x.toInt := by
  rcases (show x.toInt < 0 ∨ 0 ≤ x.toInt by omega) with q | q
  · exact Or.inl q
  · refine Or.inr ?_
    rcases (show 8 < x.toInt ∨ x.toInt ≤ 8 by omega) with r | r
    · exact r
    · exfalso
      obtain ⟨j, hj⟩ : ∃ j : Nat, x.toInt = j := ⟨x.toInt.toNat, by omega⟩
      have e : x = nI j := Int32.toInt_inj.mp (by rw [nI_toInt (by omega)]; exact hj)
      rcases (show j = 0 ∨ j = 1 ∨ j = 2 ∨ j = 3 ∨ j = 4 ∨ j = 5 ∨ j = 6 ∨ j = 7 ∨ j = 8 by omega) with rfl | rfl | rfl | rfl | rfl | rfl | rfl | rfl | rfl
      · exact h0 e
      · exact h1 e
      · exact h2 e
      · exact h3 e
      · exact h4 e
      · exact h5 e
      · exact h6 e
      · exact h7 e
      · exact h8 e
theorem ts_out0_4 {x : Int32} (h0 : ¬ x = nI 0) (h1 : ¬ x = nI 1) (h2 : ¬ x = nI 2) (h3 : ¬ x = nI 3) (h4 : ¬ x = nI 4) : x.toInt < 0 ∨ 4 < x.toInt := by
  rcases (show x.toInt < 0 ∨ 0 ≤ x.toInt by omega) with q | q
  · exact Or.inl q
  · refine Or.inr ?_
    rcases (show 4 < x.toInt ∨ x.toInt ≤ 4 by omega) with r | r
    · exact r
    · exfalso
      obtain ⟨j, hj⟩ : ∃ j : Nat, x.toInt = j := ⟨x.toInt.toNat, by omega⟩
      have e : x = nI j := Int32.toInt_inj.mp (by rw [nI_toInt (by omega)]; exact hj)
      rcases (show j = 0 ∨ j = 1 ∨ j = 2 ∨ j = 3 ∨ j = 4 by omega) with rfl | rfl | rfl | rfl | rfl
      · exact h0 e
      · exact h1 e
      · exact h2 e
      · exact h3 e
      · exact h4 e
theorem ts_out0_6 {x : Int32} (h0 : ¬ x = nI 0) (h1 : ¬ x = nI 1) (h2 : ¬ x = nI 2) (h3 : ¬ x = nI 3) (h4 : ¬ x = nI 4) (h5 : ¬ x = nI 5) (h6 : ¬ x = nI 6) : x.toInt < 0 ∨ 6 < x.toInt := by
  rcases (show x.toInt < 0 ∨ 0 ≤ x.toInt by omega) with q | q
  · exact Or.inl q
  · refine Or.inr ?_
    rcases (show 6 < x.toInt ∨ x.toInt ≤ 6 by omega) with r | r
    · exact r
    · exfalso
      obtain ⟨j, hj⟩ : ∃ j : Nat, x.toInt = j := ⟨x.toInt.toNat, by omega⟩
      have e : x = nI j := Int32.toInt_inj.mp (by rw [nI_toInt (by omega)]; exact hj)
      rcases (show j = 0 ∨ j = 1 ∨ j = 2 ∨ j = 3 ∨ j = 4 ∨ j = 5 ∨ j = 6 by omega) with rfl | rfl | rfl | rfl | rfl | rfl | rfl
      · exact h0 e
      · exact h1 e
      · exact h2 e
      · exact h3 e
      · exact h4 e
      · exact h5 e
      · exact h6 e
theorem ts_out5_8 {x : Int32} (h5 : ¬ x = nI 5) (h6 : ¬ x = nI 6) (h7 : ¬ x = nI 7) (h8 : ¬ x = nI 8) : x.toInt < 5 ∨ 8 < x.toInt := by
  rcases (show x.toInt < 5 ∨ 5 ≤ x.toInt by omega) with q | q
  · exact Or.inl q
  · refine Or.inr ?_
    rcases (show 8 < x.toInt ∨ x.toInt ≤ 8 by omega) with r | r
    · exact r
    · exfalso
      obtain ⟨j, hj⟩ : ∃ j : Nat, x.toInt = j := ⟨x.toInt.toNat, by omega⟩
      have e : x = nI j := Int32.toInt_inj.mp (by rw [nI_toInt (by omega)]; exact hj)
      rcases (show j = 5 ∨ j = 6 ∨ j = 7 ∨ j = 8 by omega) with rfl | rfl | rfl | rfl
      · exact h5 e
      · exact h6 e
      · exact h7 e
      · exact h8 e
theorem ts_out0_23 {x : Int32} (h0 : ¬ x = nI 0) (h1 : ¬ x = nI 1) (h2 : ¬ x = nI 2) (h3 : ¬ x = nI 3) (h4 : ¬ x = nI 4) (h5 : ¬ x = nI 5) (h6 : ¬ x = nI 6) (h7 : ¬ x = nI 7) (h8 : ¬ x = nI 8) (h9 : ¬ x = nI 9) (h10 : ¬ x = nI 10) (h11 : ¬ x = nI 11) (h12 : ¬ x = nI 12) (h13 : ¬ x = nI 13) (h14 : ¬ x = nI 14) (h15 : ¬ x = nI 15) (h16 : ¬ x = nI 16) (h17 : ¬ x = nI 17) (h18 : ¬ x = nI 18) (h19 : ¬ x = nI 19) (h20 : ¬ x = nI 20) (h21 : ¬ x = nI 21) (h22 : ¬ x = nI 22) (h23 : ¬ x = nI 23) : x.toInt < 0 ∨ 23 < x.toInt := by
  rcases (show x.toInt < 0 ∨ 0 ≤ x.toInt by omega) with q | q
  · exact Or.inl q
  · refine Or.inr ?_
    rcases (show 23 < x.toInt ∨ x.toInt ≤ 23 by omega) with r | r
    · exact r
    · exfalso
      obtain ⟨j, hj⟩ : ∃ j : Nat, x.toInt = j := ⟨x.toInt.toNat, by omega⟩
      have e : x = nI j := Int32.toInt_inj.mp (by rw [nI_toInt (by omega)]; exact hj)
      rcases (show j = 0 ∨ j = 1 ∨ j = 2 ∨ j = 3 ∨ j = 4 ∨ j = 5 ∨ j = 6 ∨ j = 7 ∨ j = 8 ∨ j = 9 ∨ j = 10 ∨ j = 11 ∨ j = 12 ∨ j = 13 ∨ j = 14 ∨ j = 15 ∨ j = 16 ∨ j = 17 ∨ j = 18 ∨ j = 19 ∨ j = 20 ∨ j = 21 ∨ j = 22 ∨ j = 23 by omega) with rfl | rfl | rfl | rfl | rfl | rfl | rfl | rfl | rfl | rfl | rfl | rfl | rfl | rfl | rfl | rfl | rfl | rfl | rfl | rfl | rfl | rfl | rfl | rfl
      · exact h0 e
      · exact h1 e
      · exact h2 e
      · exact h3 e
      · exact h4 e
      · exact h5 e
      · exact h6 e
      · exact h7 e
      · exact h8 e
      · exact h9 e
      · exact h10 e
      · exact h11 e
      · exact h12 e
      · exact h13 e
      · exact h14 e
      · exact h15 e
      · exact h16 e
      · exact h17 e
      · exact h18 e
      · exact h19 e
      · exact h20 e
      · exact h21 e
      · exact h22 e
      · exact h23 e
