/-- a static row of the text's, as the Statement gives it -/
theorem sta_of {args : Array Value} {s : State} {n : String} {N : Nat} {f : SS} (hN : N < 2 ^ 31) (hl : (Cond.laysStatic "TransferRings$Text" n "[I").before args s = true) (hini : (Cond.initialized RX3).before args s = true) (harr : (Cond.arrayOf (.static "TransferRings$Text" n "[I") .int).before args s = true) (hlen : (Cond.eq (.length (.static "TransferRings$Text" n "[I")) (.int (Int32.ofNat N))).before args s = true) (hel : ∀ j : Nat, j < N → (Cond.eq (.elem (.static "TransferRings$Text" n "[I") (.int (Int32.ofNat j))) (.int (f j))).before args s = true) : ∃ t : Nat, va_Z "TransferRings$Text" n "[I" (.ref t) (fun q => s.heap.size ≤ q) s s.heap ∧ va_T .int t N (fun k => .int (f k)) (fun q => s.heap.size ≤ q) s s.heap := by
  have hA : ∀ a : Nat, a < s.heap.size → ¬ (fun q => s.heap.size ≤ q) a := fun a h => Nat.not_le.mpr h
  obtain ⟨t, h1, h2⟩ := va_Tof (f := fun k => .int (f k)) (A := fun q => s.heap.size ≤ q) hN harr (va_eqt hlen) (fun j hj => va_eqt (hel j hj)) hA
  exact ⟨t, va_Zof hl hini h1 hA, h2⟩
set_option maxRecDepth 20000 in
theorem sta_LETTER_LEAST {args : Array Value} {s : State} (h : (Jvm.Cond.and given_1 narrow_1).before args s = true) : (Cond.arrayOf (.static "TransferRings$Text" "LETTER_LEAST" "[I") .int).before args s = true ∧ (Cond.eq (.length (.static "TransferRings$Text" "LETTER_LEAST" "[I")) (.int (Int32.ofNat 10))).before args s = true ∧ ∀ j : Nat, j < 10 → (Cond.eq (.elem (.static "TransferRings$Text" "LETTER_LEAST" "[I") (.int (Int32.ofNat j))) (.int (tLL j))).before args s = true := by
  have hs := flat_of_before _ h
  refine ⟨hs _ (by decide +kernel), hs _ (by decide +kernel), fun j hj => ?_⟩
  rcases (show j = 0 ∨ j = 1 ∨ j = 2 ∨ j = 3 ∨ j = 4 ∨ j = 5 ∨ j = 6 ∨ j = 7 ∨ j = 8 ∨ j = 9 by omega) with rfl | rfl | rfl | rfl | rfl | rfl | rfl | rfl | rfl | rfl
  · exact hs _ (by decide +kernel)
  · exact hs _ (by decide +kernel)
  · exact hs _ (by decide +kernel)
  · exact hs _ (by decide +kernel)
  · exact hs _ (by decide +kernel)
  · exact hs _ (by decide +kernel)
  · exact hs _ (by decide +kernel)
  · exact hs _ (by decide +kernel)
  · exact hs _ (by decide +kernel)
  · exact hs _ (by decide +kernel)
set_option maxRecDepth 20000 in
theorem sta_LETTER_MOST {args : Array Value} {s : State} (h : (Jvm.Cond.and given_1 narrow_1).before args s = true) : (Cond.arrayOf (.static "TransferRings$Text" "LETTER_MOST" "[I") .int).before args s = true ∧ (Cond.eq (.length (.static "TransferRings$Text" "LETTER_MOST" "[I")) (.int (Int32.ofNat 10))).before args s = true ∧ ∀ j : Nat, j < 10 → (Cond.eq (.elem (.static "TransferRings$Text" "LETTER_MOST" "[I") (.int (Int32.ofNat j))) (.int (tLM j))).before args s = true := by
  have hs := flat_of_before _ h
  refine ⟨hs _ (by decide +kernel), hs _ (by decide +kernel), fun j hj => ?_⟩
  rcases (show j = 0 ∨ j = 1 ∨ j = 2 ∨ j = 3 ∨ j = 4 ∨ j = 5 ∨ j = 6 ∨ j = 7 ∨ j = 8 ∨ j = 9 by omega) with rfl | rfl | rfl | rfl | rfl | rfl | rfl | rfl | rfl | rfl
  · exact hs _ (by decide +kernel)
  · exact hs _ (by decide +kernel)
  · exact hs _ (by decide +kernel)
  · exact hs _ (by decide +kernel)
  · exact hs _ (by decide +kernel)
  · exact hs _ (by decide +kernel)
  · exact hs _ (by decide +kernel)
  · exact hs _ (by decide +kernel)
  · exact hs _ (by decide +kernel)
  · exact hs _ (by decide +kernel)
set_option maxRecDepth 20000 in
theorem sta_FILL_LEAST {args : Array Value} {s : State} (h : (Jvm.Cond.and given_1 narrow_1).before args s = true) : (Cond.arrayOf (.static "TransferRings$Text" "FILL_LEAST" "[I") .int).before args s = true ∧ (Cond.eq (.length (.static "TransferRings$Text" "FILL_LEAST" "[I")) (.int (Int32.ofNat 2))).before args s = true ∧ ∀ j : Nat, j < 2 → (Cond.eq (.elem (.static "TransferRings$Text" "FILL_LEAST" "[I") (.int (Int32.ofNat j))) (.int (tFL j))).before args s = true := by
  have hs := flat_of_before _ h
  refine ⟨hs _ (by decide +kernel), hs _ (by decide +kernel), fun j hj => ?_⟩
  rcases (show j = 0 ∨ j = 1 by omega) with rfl | rfl
  · exact hs _ (by decide +kernel)
  · exact hs _ (by decide +kernel)
set_option maxRecDepth 20000 in
theorem sta_FILL_MOST {args : Array Value} {s : State} (h : (Jvm.Cond.and given_1 narrow_1).before args s = true) : (Cond.arrayOf (.static "TransferRings$Text" "FILL_MOST" "[I") .int).before args s = true ∧ (Cond.eq (.length (.static "TransferRings$Text" "FILL_MOST" "[I")) (.int (Int32.ofNat 2))).before args s = true ∧ ∀ j : Nat, j < 2 → (Cond.eq (.elem (.static "TransferRings$Text" "FILL_MOST" "[I") (.int (Int32.ofNat j))) (.int (tFM j))).before args s = true := by
  have hs := flat_of_before _ h
  refine ⟨hs _ (by decide +kernel), hs _ (by decide +kernel), fun j hj => ?_⟩
  rcases (show j = 0 ∨ j = 1 by omega) with rfl | rfl
  · exact hs _ (by decide +kernel)
  · exact hs _ (by decide +kernel)
set_option maxRecDepth 20000 in
theorem sta_TUNE_LEAST {args : Array Value} {s : State} (h : (Jvm.Cond.and given_1 narrow_1).before args s = true) : (Cond.arrayOf (.static "TransferRings$Text" "TUNE_LEAST" "[I") .int).before args s = true ∧ (Cond.eq (.length (.static "TransferRings$Text" "TUNE_LEAST" "[I")) (.int (Int32.ofNat 3))).before args s = true ∧ ∀ j : Nat, j < 3 → (Cond.eq (.elem (.static "TransferRings$Text" "TUNE_LEAST" "[I") (.int (Int32.ofNat j))) (.int (tTL j))).before args s = true := by
  have hs := flat_of_before _ h
  refine ⟨hs _ (by decide +kernel), hs _ (by decide +kernel), fun j hj => ?_⟩
  rcases (show j = 0 ∨ j = 1 ∨ j = 2 by omega) with rfl | rfl | rfl
  · exact hs _ (by decide +kernel)
  · exact hs _ (by decide +kernel)
  · exact hs _ (by decide +kernel)
set_option maxRecDepth 20000 in
theorem sta_TUNE_MOST {args : Array Value} {s : State} (h : (Jvm.Cond.and given_1 narrow_1).before args s = true) : (Cond.arrayOf (.static "TransferRings$Text" "TUNE_MOST" "[I") .int).before args s = true ∧ (Cond.eq (.length (.static "TransferRings$Text" "TUNE_MOST" "[I")) (.int (Int32.ofNat 3))).before args s = true ∧ ∀ j : Nat, j < 3 → (Cond.eq (.elem (.static "TransferRings$Text" "TUNE_MOST" "[I") (.int (Int32.ofNat j))) (.int (tTM j))).before args s = true := by
  have hs := flat_of_before _ h
  refine ⟨hs _ (by decide +kernel), hs _ (by decide +kernel), fun j hj => ?_⟩
  rcases (show j = 0 ∨ j = 1 ∨ j = 2 by omega) with rfl | rfl | rfl
  · exact hs _ (by decide +kernel)
  · exact hs _ (by decide +kernel)
  · exact hs _ (by decide +kernel)
theorem kn_s {s : State} {args : Array Value} (ht : ∀ w ∈ lw_g, w.before args s = true) (hao : va_AO RX0 s) : ∃ (G : va_G) (cI cE cZ : ClassId), va_K G classes [(cI, .int), (cE, .object RX0), (cZ, .boolean)] s := by
  obtain ⟨c0, i0, h0⟩ := u_known (C := RX0) (T := TX0) (N := 7) (n := 7) ht m_us_X0 (ht _ m_is_X0)
  obtain ⟨c1, i1, h1⟩ := u_known (C := RX1) (T := TX1) (N := 3) (n := 3) ht m_us_X1 (ht _ m_is_X1)
  obtain ⟨c2, i2, h2⟩ := u_known (C := RX2) (T := TX2) (N := 3) (n := 3) ht m_us_X2 (ht _ m_is_X2)
  obtain ⟨c3, i3, h3⟩ := u_known (C := RX3) (T := TX3) (N := 6) (n := 6) ht m_us_X3 (ht _ m_is_X3)
  obtain ⟨c4, i4, h4⟩ := u_known (C := RX4) (T := TX4) (N := 7) (n := 7) ht m_us_X4 (ht _ m_is_X4)
  obtain ⟨c5, i5, h5⟩ := u_known (C := RX5) (T := TX5) (N := 17) (n := 17) ht m_us_X5 (ht _ m_is_X5)
  obtain ⟨cI, kI, pI, a1, a2, a3⟩ := Cond.arrayClass_spec (ht _ m_ac_int)
  obtain ⟨cZ, kZ, pZ, z1, z2, z3⟩ := Cond.arrayClass_spec (ht _ m_ac_boolean)
  obtain ⟨pE, cE, kE, e1, e2, e3, e4, e5⟩ := Cond.arrayOver_spec hao
  refine ⟨(fun k => if k = 0 then c0 else if k = 1 then c1 else if k = 2 then c2 else if k = 3 then c3 else if k = 4 then c4 else c5, fun k => if k = 0 then i0 else if k = 1 then i1 else if k = 2 then i2 else if k = 3 then i3 else if k = 4 then i4 else i5), cI, cE, cZ, fun k q hq => ?_, fun k q hq => ?_⟩
  · match k, hq with
    | 0, hq => cases hq; exact h0
    | 1, hq => cases hq; exact h1
    | 2, hq => cases hq; exact h2
    | 3, hq => cases hq; exact h3
    | 4, hq => cases hq; exact h4
    | 5, hq => cases hq; exact h5
    | k + 6, hq => simp [classes] at hq
  · match k, hq with
    | 0, hq => cases hq; exact ⟨fun n z => ⟨fun k h => (by cases h), kI, a2, pI, a3⟩, a1⟩
    | 1, hq => cases hq; exact ⟨fun n z => ⟨fun k h => (by cases h), kE, e3, pE, e4⟩, kE, pE, e3, e4, e1, e5⟩
    | 2, hq => cases hq; exact ⟨fun n z => ⟨fun k h => (by cases h), kZ, z2, pZ, z3⟩, z1⟩
    | k + 3, hq => simp at hq
