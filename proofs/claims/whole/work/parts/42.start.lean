def s0 : SS := fun k => if k < 64 then nI k else if k = 453 then nI 3 else if k < 92 ∧ k % 7 = 1 then nI 1 else if k < 92 ∧ k % 7 = 3 then nI 4 else 0
def mI (i : Nat) : SS := fun k => if k < i then nI k else 0
def cI (i : Nat) : SS := fun k => if k < 7 * i ∧ k % 7 = 0 then nI 1 else if k < 7 * i ∧ k % 7 = 2 then nI 4 else 0
def dJ (i : Nat) : SS := fun k => if k < 64 then nI k else if k < 64 + 7 * i ∧ k % 7 = 1 then nI 1 else if k < 64 + 7 * i ∧ k % 7 = 3 then nI 4 else 0
theorem mI_0 : mI 0 = fun _ => 0 := by funext k; unfold mI; rw [if_neg (by omega)]
theorem mI_s {i : Nat} : upd (mI i) i (nI i) = mI (i + 1) := by
  funext k; unfold upd mI
  by_cases h : k = i
  · subst h; rw [if_pos rfl, if_pos (by omega)]
  · rw [if_neg h]
    by_cases h2 : k < i
    · rw [if_pos h2, if_pos (by omega)]
    · rw [if_neg h2, if_neg (by omega)]
theorem cI_0 : cI 0 = fun _ => 0 := by funext k; unfold cI; rw [if_neg (by omega), if_neg (by omega)]
theorem cI_s {i : Nat} : upd (upd (cI i) (i * 7 + 0) (nI 1)) (i * 7 + 2) (nI 4) = cI (i + 1) := by
  funext k; unfold upd cI
  by_cases h : k = i * 7 + 2
  · rw [if_pos h, if_neg (by omega), if_pos (by omega)]
  · rw [if_neg h]
    by_cases h1 : k = i * 7 + 0
    · rw [if_pos h1, if_pos (by omega)]
    · rw [if_neg h1]
      by_cases a : k < 7 * i ∧ k % 7 = 0
      · rw [if_pos a, if_pos (by omega)]
      · rw [if_neg a]
        by_cases b : k < 7 * i ∧ k % 7 = 2
        · rw [if_pos b, if_neg (by omega), if_pos (by omega)]
        · rw [if_neg b, if_neg (by omega), if_neg (by omega)]
theorem dI_0 : dJ 0 = mI 64 := by
  funext k; unfold dJ mI
  by_cases h : k < 64
  · rw [if_pos h, if_pos h]
  · rw [if_neg h, if_neg (by omega), if_neg (by omega), if_neg h]
theorem dI_s {i : Nat} : upd (upd (dJ i) (64 + 7 * i + 0) (nI 1)) (64 + 7 * i + 2) (nI 4) = dJ (i + 1) := by
  funext k; unfold upd dJ
  by_cases h : k = 64 + 7 * i + 2
  · rw [if_pos h, if_neg (by omega), if_neg (by omega), if_pos (by omega)]
  · rw [if_neg h]
    by_cases h1 : k = 64 + 7 * i + 0
    · rw [if_pos h1, if_neg (by omega), if_pos (by omega)]
    · rw [if_neg h1]
      by_cases h2 : k < 64
      · rw [if_pos h2, if_pos h2]
      · rw [if_neg h2, if_neg h2]
        by_cases a : k < 64 + 7 * i ∧ k % 7 = 1
        · rw [if_pos a, if_pos (by omega)]
        · rw [if_neg a]
          by_cases b : k < 64 + 7 * i ∧ k % 7 = 3
          · rw [if_pos b, if_neg (by omega), if_pos (by omega)]
          · rw [if_neg b, if_neg (by omega), if_neg (by omega)]
theorem s0_S : ∀ j, j < 455 → upd (dJ 4) 453 (nI 3) j = s0 j := by
  intro j hj
  unfold upd dJ s0
  by_cases h : j = 453
  · subst h; rfl
  · rw [if_neg h]
    by_cases h2 : j < 64
    · rw [if_pos h2, if_pos h2]
    · rw [if_neg h2, if_neg h2, if_neg h]
theorem s0_M : ∀ j, j < 64 → mI 64 j = vM s0 j := fun j hj => by rw [vM_at hj]; unfold mI s0; rw [if_pos hj, if_pos hj]
theorem s0_C : ∀ j, j < 28 → cI 4 j = vC s0 j := by decide +kernel
theorem s0_z {k : Nat} (h : 92 ≤ k) (h2 : k ≠ 453) : s0 k = 0 := by unfold s0; rw [if_neg (by omega), if_neg h2, if_neg (by omega), if_neg (by omega)]
theorem s0_L : ∀ j, j < 312 → (0 : Int32) = vL s0 j := fun j hj => by unfold vL; rw [if_pos hj, s0_z (by omega) (by omega)]
theorem s0_Q : ∀ j, j < 24 → (0 : Int32) = vQ s0 j := fun j hj => by unfold vQ; rw [if_pos hj, s0_z (by omega) (by omega)]
theorem Inv_0 : Inv s0 := by
  have c0 : ∀ c, c < 4 → gC s0 c 0 = nI 1 ∧ gC s0 c 1 = 0 ∧ gC s0 c 2 = nI 4 ∧ gC s0 c 3 = 0 ∧ gC s0 c 4 = 0 := fun c hc => by
    rcases (show c = 0 ∨ c = 1 ∨ c = 2 ∨ c = 3 by omega) with rfl | rfl | rfl | rfl <;> decide
  refine ⟨fun c hc => ?_, fun p hp => Or.inl ⟨s0_z (by omega) (by omega), s0_z (by omega) (by omega), s0_z (by omega) (by omega)⟩, Or.inl (s0_z (by omega) (by omega)), ⟨3, by decide, by decide, rfl⟩⟩
  obtain ⟨h0, h1, h2, h3, h4⟩ := c0 c hc
  exact ⟨Or.inr h0, ⟨0, by decide, by decide, h1⟩, ⟨4, by decide, by decide, h2⟩, ⟨0, by decide, by decide, h3⟩, ⟨0, by decide, by decide, h4⟩⟩
/-- the class's world -/
def CW (D : DX) (O : Nat) (X E F Y Z V : Nat → Nat) (P G : Nat → Nat → Nat) (s t sg kd nu : SS) (k n ic : Nat) (h : Nat → SS) (nw kn : Nat) (tk wh : SS) (m : Nat) (kp : SS) (g : Nat → SS) : va_W :=
  TR D O X E F Y Z V ++ TW D X sg kd nu k n ic ++ EW D E s ++ EW D F t ++ HO D Y P nw kn ++ EW D (P 0) (h 0) ++ EW D (P 1) (h 1) ++ EW D (P 2) (h 2) ++ EW D (P 3) (h 3) ++ EW D (P 4) (h 4) ++ EW D (P 5) (h 5) ++ ZW D Z tk wh m ++ [(V 0, .inl (dE D, 2, .inr (.inr (.inr (.inr (fun i => some (G i 0)))))))] ++ EW D (G 0) (g 0) ++ EW D (G 1) (g 1) ++ [(V 1, .inl (dZ D, 2, .inl kp))]
/-- the reference's world -/
def MW (D : DX) (M : Nat → Nat) (u m n nx pl it : Nat) (to va : Int32) (s pa kp kt sp tk wh sg rd : SS) : va_W :=
  MQx D M u m n nx pl it to va ++ AR D (M 1) 455 s ++ AR D (M 2) 2730 pa ++ AZ D (M 3) 2 kp ++ AR D (M 4) 910 kt ++ AR D (M 5) 455 sp ++ AR D (M 6) 6 tk ++ AR D (M 7) 6 wh ++ AR D (M 8) 120 sg ++ AR D (M 9) 10 rd
