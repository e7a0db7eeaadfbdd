/-! the class's state and the reference's -/
abbrev KT : Type := SS × SS × Nat × (Nat → SS) × Nat × Nat × SS × SS × Nat × SS × (Nat → SS) × SS × SS
def ix (nw kn i : Nat) : Nat := (nw + 7 + i - kn) % 6
def RelP : KT → Prop := fun (s, sg, n, h, nw, kn, tk, wh, m, kp, g, pa, kt) => Inv s ∧ n ≤ 120 ∧ SgOk sg n ∧ nw < 6 ∧ kn ≤ 6 ∧ SeOk tk wh m ∧ (∀ i, i < kn → Inv (h (ix nw kn i)) ∧ ∀ j, j < 455 → pa (455 * i + j) = h (ix nw kn i) j) ∧ (∀ e, e < 2 → kp e = 0 ∨ (kp e = 1 ∧ Inv (g e) ∧ ∀ j, j < 455 → kt (455 * e + j) = g e j))
def CE (D : DX) (O : Nat) (X E F Y Z V : Nat → Nat) (P G : Nat → Nat → Nat) : KT → va_W → Prop := fun (s, sg, n, h, nw, kn, tk, wh, m, kp, g, _, _) u => ∃ (t kd nu : SS) (k ic : Nat), u = CW D O X E F Y Z V P G s t sg kd nu k n ic h nw kn tk wh m kp g
def ME (D : DX) (M : Nat → Nat) : KT → va_W → Prop := fun (s, sg, n, _, _, kn, tk, wh, m, kp, _, pa, kt) u => ∃ (sp rd : SS) (nx pl it : Nat) (to va : Int32), u = MW D M kn m n nx pl it to va s pa kp kt sp tk wh sg rd
def RB (rm : Room) : Prop := rm.frames ≤ 9 ∧ rm.locals ≤ 300 ∧ rm.cells = 0 ∧ rm.slots = 0
section RL
variable {s sg : SS} {n : Nat} {h : Nat → SS} {nw kn : Nat} {tk wh : SS} {m : Nat} {kp : SS} {g : Nat → SS} {pa kt : SS}
theorem ix_lt : ix nw kn m < 6 := Nat.mod_lt _ (by decide)
theorem hup_eq {j : Nat} : hup h j s j = s := if_pos rfl
theorem hup_ne {j i : Nat} (e : i ≠ j) : hup h j s i = h i := if_neg e
theorem Rel_type {v : Int32} (R : RelP (s, sg, n, h, nw, kn, tk, wh, m, kp, g, pa, kt)) (hn : n < 120) (hv : inR v (nI 0) (nI 255) = true) : RelP (s, upd sg n v, n + 1, h, nw, kn, tk, wh, m, kp, g, pa, kt) := by
  obtain ⟨r1, r2, r3, r⟩ := R
  refine ⟨r1, hn, fun j hj => ?_, r⟩
  by_cases e : j = n
  · subst e; rw [up_eq]; exact inR_nat (by decide) (by decide) hv
  · rw [up_ne e]; exact r3 j (by omega)
theorem Rel_clear (R : RelP (s, sg, n, h, nw, kn, tk, wh, m, kp, g, pa, kt)) : RelP (s, sg, 0, h, nw, kn, tk, wh, m, kp, g, pa, kt) := by
  obtain ⟨r1, r2, r3, r⟩ := R
  exact ⟨r1, Nat.zero_le _, fun j hj => absurd hj (Nat.not_lt_zero _), r⟩
theorem Rel_rem {s' : SS} (R : RelP (s, sg, n, h, nw, kn, tk, wh, m, kp, g, pa, kt)) (hs : Inv s') : RelP (s', sg, n, hup h ((nw + 1) % 6) s, (nw + 1) % 6, min (kn + 1) 6, tk, wh, m, kp, g, rmF pa kn s, kt) := by
  obtain ⟨r1, r2, r3, r4, r5, r6, r7, r8⟩ := R
  refine ⟨hs, r2, r3, Nat.mod_lt _ (by decide), Nat.min_le_right _ _, r6, fun i hi => ?_, r8⟩
  by_cases h6 : kn = 6
  · subst h6
    have e6 : min (6 + 1) 6 = 6 := rfl
    rw [e6] at hi ⊢
    have ep : rmF pa 6 s = inN (shN pa 2275) 5 s 455 := if_pos rfl
    rw [ep]
    by_cases h5 : i = 5
    · subst h5
      have e : ix ((nw + 1) % 6) 6 5 = (nw + 1) % 6 := by unfold ix; omega
      rw [e, hup_eq]
      refine ⟨r1, fun j hj => ?_⟩
      unfold inN
      rw [if_pos ⟨by omega, by omega⟩, show 455 * 5 + j - 455 * 5 = j by omega]
    · have e : ix ((nw + 1) % 6) 6 i = ix nw 6 (i + 1) := by unfold ix; omega
      have ne : ix ((nw + 1) % 6) 6 i ≠ (nw + 1) % 6 := by unfold ix; omega
      rw [hup_ne ne, e]
      refine ⟨(r7 (i + 1) (by omega)).1, fun j hj => ?_⟩
      rw [← (r7 (i + 1) (by omega)).2 j hj]
      unfold inN shN
      rw [if_neg (by omega), if_pos (by omega)]; congr 1; omega
  · have ek : min (kn + 1) 6 = kn + 1 := by omega
    rw [ek] at hi ⊢
    have ep : rmF pa kn s = inN pa kn s 455 := if_neg h6
    rw [ep]
    by_cases hk : i = kn
    · subst hk
      have e : ix ((nw + 1) % 6) (i + 1) i = (nw + 1) % 6 := by unfold ix; omega
      rw [e, hup_eq]
      refine ⟨r1, fun j hj => ?_⟩
      unfold inN
      rw [if_pos ⟨by omega, by omega⟩]; congr 1; omega
    · have e : ix ((nw + 1) % 6) (kn + 1) i = ix nw kn i := by unfold ix; omega
      have ne : ix ((nw + 1) % 6) (kn + 1) i ≠ (nw + 1) % 6 := by unfold ix; omega
      rw [hup_ne ne, e]
      refine ⟨(r7 i (by omega)).1, fun j hj => ?_⟩
      rw [← (r7 i (by omega)).2 j hj]
      unfold inN
      rw [if_neg (by omega)]
theorem Rel_undo (R : RelP (s, sg, n, h, nw, kn, tk, wh, m, kp, g, pa, kt)) (hk : 1 ≤ kn) : RelP (h nw, sg, n, h, (nw + 5) % 6, kn - 1, tk, wh, m, kp, g, pa, kt) ∧ ∀ j, j < 455 → pa (455 * (kn - 1) + j) = h nw j := by
  obtain ⟨r1, r2, r3, r4, r5, r6, r7, r8⟩ := R
  have e : ix nw kn (kn - 1) = nw := by unfold ix; omega
  have r := r7 (kn - 1) (by omega)
  rw [e] at r
  refine ⟨⟨r.1, r2, r3, Nat.mod_lt _ (by decide), by omega, r6, fun i hi => ?_, r8⟩, r.2⟩
  have e : ix ((nw + 5) % 6) (kn - 1) i = ix nw kn i := by unfold ix; omega
  rw [e]
  exact r7 i (by omega)
theorem Rel_keep {e : Nat} (R : RelP (s, sg, n, h, nw, kn, tk, wh, m, kp, g, pa, kt)) (he : e < 2) : RelP (s, sg, n, h, nw, kn, tk, wh, m, upd kp e 1, hup g e s, pa, inN kt e s 455) := by
  obtain ⟨r1, r2, r3, r4, r5, r6, r7, r8⟩ := R
  refine ⟨r1, r2, r3, r4, r5, r6, r7, fun i hi => ?_⟩
  by_cases q : i = e
  · subst q
    refine Or.inr ⟨up_eq, by rw [hup_eq]; exact r1, fun j hj => ?_⟩
    rw [hup_eq]
    unfold inN
    rw [if_pos ⟨by omega, by omega⟩]; congr 1; omega
  · rw [up_ne q, hup_ne q]
    rcases r8 i hi with z | z
    · exact Or.inl z
    · refine Or.inr ⟨z.1, z.2.1, fun j hj => ?_⟩
      rw [← z.2.2 j hj]
      unfold inN
      rw [if_neg (by omega)]
theorem Rel_back {e : Nat} (R : RelP (s, sg, n, h, nw, kn, tk, wh, m, kp, g, pa, kt)) (he : e < 2) (hk : ¬ kp e = 0) : kp e = 1 ∧ Inv (g e) ∧ (∀ j, j < 455 → kt (455 * e + j) = g e j) ∧ RelP (g e, sg, n, h, nw, 0, tk, wh, m, kp, g, pa, kt) := by
  obtain ⟨r1, r2, r3, r4, r5, r6, r7, r8⟩ := R
  have r := (r8 e he).resolve_left hk
  exact ⟨r.1, r.2.1, r.2.2, r.2.1, r2, r3, r4, Nat.zero_le _, r6, fun i hi => absurd hi (Nat.not_lt_zero _), r8⟩
theorem Rel_sees {v w : Int32} (R : RelP (s, sg, n, h, nw, kn, tk, wh, m, kp, g, pa, kt)) (hm : m < 6) (hv : inR v (nI 1) (nI 40) = true) : RelP (s, sg, n, h, nw, kn, upd tk m v, upd wh m w, m + 1, kp, g, pa, kt) := by
  obtain ⟨r1, r2, r3, r4, r5, r6, r⟩ := R
  refine ⟨r1, r2, r3, r4, r5, ⟨hm, fun i hi => ?_⟩, r⟩
  by_cases e : i = m
  · subst e; rw [up_eq]; exact inR_nat (by decide) (by decide) hv
  · rw [up_ne e]; exact r6.2 i (by omega)
theorem Rel_forget (R : RelP (s, sg, n, h, nw, kn, tk, wh, m, kp, g, pa, kt)) : RelP (s, sg, n, h, nw, kn, tk, wh, 0, kp, g, pa, kt) := by
  obtain ⟨r1, r2, r3, r4, r5, r6, r⟩ := R
  exact ⟨r1, r2, r3, r4, r5, ⟨Nat.zero_le _, fun i hi => absurd hi (Nat.not_lt_zero _)⟩, r⟩
end RL
theorem Inv_sw {s : SS} {c : Nat} (h : Inv s) (hc : c < 4) : Inv (upd s (64 + 7 * c + 0) (nI 1 - gC s c 0)) := by
  refine Inv_C h hc (by decide) ?_
  have q := h.1 c hc
  unfold ChOk gC at *
  rw [up_eq, up_ne (by omega), up_ne (by omega), up_ne (by omega), up_ne (by omega)]
  refine ⟨?_, q.2⟩
  rcases q.1 with z | z
  · right; rw [z]; rfl
  · left; rw [z]; rfl
theorem Rel_0 : RelP (s0, fun _ => 0, 0, fun _ => s0, 5, 0, fun _ => 0, fun _ => 0, 0, fun _ => 0, fun _ => s0, fun _ => 0, fun _ => 0) :=
  ⟨Inv_0, Nat.zero_le _, fun j hj => absurd hj (Nat.not_lt_zero _), by decide, Nat.zero_le _, ⟨Nat.zero_le _, fun i hi => absurd hi (Nat.not_lt_zero _)⟩, fun i hi => absurd hi (Nat.not_lt_zero _), fun e he => Or.inl rfl⟩
