/-! an item is done -/
def pp (s : SS) (c : Nat) : Nat := c * 6 + po s c
def poN (s v : SS) (p : Nat) : Nat → SS
  | 0 => upd s (92 + 14 * p) 1
  | j + 1 => upd (poN s v p j) (93 + 14 * p + j) (v (1 + j))
def po2 (s v : SS) (p : Nat) : SS := upd (upd (poN s v p 9) (93 + 14 * p + 9) 1) (93 + 14 * p + 10) 0
def po3 (s v : SS) (p : Nat) : SS := upd (upd (po2 s v p) (93 + 14 * p + 11) (gL (po2 s v p) p 2 * gL (po2 s v p) p 5)) (93 + 14 * p + 12) 0
def poF (s : SS) (c : Nat) (v : SS) : SS := upd (po3 s v (pp s c)) (64 + 7 * c + 3) (nI ((po s c + 1) % 6))
theorem vL_has {s : SS} {p : Nat} {x : Int32} : vL (upd s (92 + 14 * p) x) = vL s := by
  funext j; unfold vL upd
  split
  · rw [if_neg (by omega)]
  · rfl
theorem EW_has {D : DX} {E : Nat → Nat} {s : SS} {p : Nat} {x : Int32} (hp : p < 24) : EW D E (upd s (92 + 14 * p) x) = EW D E s := by
  simp only [EW, vL_has, vM_up (s := s) (x := x) (by omega : 64 ≤ 92 + 14 * p), vC_up (s := s) (x := x) (Or.inr (by omega : 92 ≤ 92 + 14 * p)), vQ_up (s := s) (x := x) (Or.inl (by omega : 92 + 14 * p < 429)), up_ne (s := s) (x := x) (by omega : 428 ≠ 92 + 14 * p), up_ne (s := s) (x := x) (by omega : 453 ≠ 92 + 14 * p), up_ne (s := s) (x := x) (by omega : 454 ≠ 92 + 14 * p)]
theorem poN_ne {s v : SS} {p k : Nat} : ∀ (j : Nat), (k < 92 + 14 * p ∨ 93 + 14 * p + j ≤ k) → poN s v p j k = s k
  | 0, h => by show upd s _ _ k = _; rw [up_ne (by omega)]
  | j + 1, h => by show upd (poN s v p j) _ _ k = _; rw [up_ne (by omega), poN_ne j (by omega)]
theorem poN_at {s v : SS} {p i : Nat} : ∀ (j : Nat), i < j → poN s v p j (93 + 14 * p + i) = v (1 + i)
  | 0, h => absurd h (Nat.not_lt_zero _)
  | j + 1, h => by
    show upd (poN s v p j) _ _ _ = _
    by_cases e : i = j
    · subst e; exact up_eq
    · rw [up_ne (by omega), poN_at j (by omega)]
theorem poN_has {s v : SS} {p : Nat} : ∀ (j : Nat), poN s v p j (92 + 14 * p) = 1
  | 0 => up_eq
  | j + 1 => by show upd (poN s v p j) _ _ _ = _; rw [up_ne (by omega), poN_has j]
theorem po3_ne {s v : SS} {p k : Nat} (h : k < 92 + 14 * p ∨ 93 + 14 * p + 13 ≤ k) : po3 s v p k = s k := by
  unfold po3 po2
  rw [up_ne (by omega), up_ne (by omega), up_ne (by omega), up_ne (by omega), poN_ne 9 (by omega)]
theorem LeOk_po {s v : SS} {p : Nat} (hN : nat? (v 3) 1 17) (hR : nat? (v 6) 1 5) : LeOk (po3 s v p) p := by
  have e2 : ∀ t : SS, gL (upd (upd t (93 + 14 * p + 9) 1) (93 + 14 * p + 10) 0) p 2 = gL t p 2 := fun t => by unfold gL; rw [up_ne (by omega), up_ne (by omega)]
  have e5 : ∀ t : SS, gL (upd (upd t (93 + 14 * p + 9) 1) (93 + 14 * p + 10) 0) p 5 = gL t p 5 := fun t => by unfold gL; rw [up_ne (by omega), up_ne (by omega)]
  have f2 : gL (po2 s v p) p 2 = v 3 := by unfold po2; rw [e2]; exact poN_at 9 (by decide)
  have f5 : gL (po2 s v p) p 5 = v 6 := by unfold po2; rw [e5]; exact poN_at 9 (by decide)
  have g2 : gL (po3 s v p) p 2 = v 3 := by unfold po3; unfold gL; rw [up_ne (by omega), up_ne (by omega)]; exact f2
  have g5 : gL (po3 s v p) p 5 = v 6 := by unfold po3; unfold gL; rw [up_ne (by omega), up_ne (by omega)]; exact f5
  have gh : po3 s v p (92 + 14 * p) = 1 := by unfold po3 po2; rw [up_ne (by omega), up_ne (by omega), up_ne (by omega), up_ne (by omega)]; exact poN_has 9
  obtain ⟨a, a1, a2, a3⟩ := hN
  obtain ⟨b, b1, b2, b3⟩ := hR
  have hu : un (po3 s v p) p = a * b := by unfold un nn rr; rw [g2, g5, a3, b3, nI_clamp (by omega), nI_clamp (by omega)]
  refine Or.inr ⟨gh, by rw [g2]; exact ⟨a, a1, a2, a3⟩, by rw [g5]; exact ⟨b, b1, b2, b3⟩, ?_⟩
  refine ⟨a * b, Nat.zero_le _, by rw [hu]; omega, ?_⟩
  show po3 s v p (93 + 14 * p + 11) = _
  unfold po3
  rw [up_ne (by omega), up_eq, f2, f5, a3, b3, pk_mul]
theorem Inv_po3 {s v : SS} {p : Nat} (h : Inv s) (hp : p < 24) (hN : nat? (v 3) 1 17) (hR : nat? (v 6) 1 5) : Inv (po3 s v p) := by
  refine ⟨fun c hc => ?_, fun q hq => ?_, ?_, ?_⟩
  · have := h.1 c hc
    unfold ChOk gC at *
    rw [po3_ne (by omega), po3_ne (by omega), po3_ne (by omega), po3_ne (by omega), po3_ne (by omega)]
    exact this
  · by_cases e : q = p
    · subst e; exact LeOk_po hN hR
    · have := h.2.1 q hq
      have hu : un (po3 s v p) q = un s q := by unfold un nn rr gL; rw [po3_ne (by omega), po3_ne (by omega)]
      unfold LeOk gL at *
      rw [hu, po3_ne (by omega), po3_ne (by omega), po3_ne (by omega), po3_ne (by omega), po3_ne (by omega)]
      exact this
  · rw [po3_ne (by omega), po3_ne (by omega)]; exact h.2.2.1
  · rw [po3_ne (by omega)]; exact h.2.2.2
theorem Inv.pp_ {s : SS} (h : Inv s) {c : Nat} (hc : c < 4) : pp s c < 24 := by
  have := (h.po_ hc).2
  unfold pp; omega
theorem Inv_po {s v : SS} {c : Nat} (h : Inv s) (hc : c < 4) (hN : nat? (v 3) 1 17) (hR : nat? (v 6) 1 5) : Inv (poF s c v) := by
  have h3 := Inv_po3 (p := pp s c) h (h.pp_ hc) hN hR
  refine Inv_C h3 hc (by decide) ?_
  have q := h3.1 c hc
  unfold ChOk gC at *
  rw [up_ne (by omega), up_ne (by omega), up_ne (by omega), up_eq, up_ne (by omega)]
  exact ⟨q.1, q.2.1, q.2.2.1, ⟨(po s c + 1) % 6, Nat.zero_le _, Nat.mod_lt _ (by decide), rfl⟩, q.2.2.2.2⟩
def vc (v : SS) : Nat := (v 0).toNatClampNeg
def okI (s : SS) (x : Int32) (v : SS) : Bool := if x = 108 then !eng s (pp s (vc v)) else true
def doI (s : SS) (x : Int32) (v : SS) : SS := if x = 108 then poF s (vc v) v else if x = 102 then upd s (vc v) (v 1) else upd (upd s (64 + 7 * vc v + 1) (v 1)) (64 + 7 * vc v + 2) (v 2)
/-- the numbers of an item are as they may be -/
def ItOk (x : Int32) (v : SS) : Prop := ¬ hcn x = 0 ∧ ∀ j, j < hcn x → inR (v j) (lo3 x j) (hi3 x j) = true
theorem ItOk.l {x : Int32} {v : SS} (h : ItOk x v) (hx : x = 108) : (v 0 = nI (vc v) ∧ vc v < 4) ∧ nat? (v 3) 1 17 ∧ nat? (v 6) 1 5 := by
  have hc : hcn x = 10 := by rw [hx]; rfl
  have hl : lo3 x = tLL := by rw [hx]; rfl
  have hh : hi3 x = tLM := by rw [hx]; rfl
  have h' := h.2
  rw [hc, hl, hh] at h'
  have h0 := (inR_nat (a := 0) (b := 3) (by decide) (by decide) (h' 0 (by decide))).to (by decide)
  exact ⟨⟨h0.1, h0.2.2⟩, inR_nat (a := 1) (b := 16) (by decide) (by decide) (h' 3 (by decide)), inR_nat (a := 1) (b := 4) (by decide) (by decide) (h' 6 (by decide))⟩
theorem ItOk.f {x : Int32} {v : SS} (h : ItOk x v) (hx : x = 102) : v 0 = nI (vc v) ∧ vc v < 64 := by
  have hc : hcn x = 2 := by rw [hx]; rfl
  have hl : lo3 x = tFL := by rw [hx]; rfl
  have hh : hi3 x = tFM := by rw [hx]; rfl
  have h' := h.2
  rw [hc, hl, hh] at h'
  have h0 := (inR_nat (a := 0) (b := 63) (by decide) (by decide) (h' 0 (by decide))).to (by decide)
  exact ⟨h0.1, h0.2.2⟩
theorem ItOk.c {x : Int32} {v : SS} (h : ItOk x v) (hx : x = 99) : (v 0 = nI (vc v) ∧ vc v < 4) ∧ nat? (v 1) 0 4 ∧ nat? (v 2) 1 9 := by
  have hc : hcn x = 3 := by rw [hx]; rfl
  have hl : lo3 x = tTL := by rw [hx]; rfl
  have hh : hi3 x = tTM := by rw [hx]; rfl
  have h' := h.2
  rw [hc, hl, hh] at h'
  have h0 := (inR_nat (a := 0) (b := 3) (by decide) (by decide) (h' 0 (by decide))).to (by decide)
  exact ⟨⟨h0.1, h0.2.2⟩, inR_nat (a := 0) (b := 3) (by decide) (by decide) (h' 1 (by decide)), inR_nat (a := 1) (b := 8) (by decide) (by decide) (h' 2 (by decide))⟩
theorem ItOk.d {x : Int32} {v : SS} (h : ItOk x v) (h1 : ¬ x = 108) (h2 : ¬ x = 102) : x = 99 := by
  rcases hcn_cases x with q | q | q | q
  · exact absurd q.1 h1
  · exact absurd q.1 h2
  · exact q.1
  · exact absurd q.1 h.1
theorem Inv_rb {s : SS} {c : Nat} {a b : Int32} (h : Inv s) (hc : c < 4) (ha : nat? a 0 4) (hb : nat? b 1 9) : Inv (upd (upd s (64 + 7 * c + 1) a) (64 + 7 * c + 2) b) := by
  have h1 : Inv (upd s (64 + 7 * c + 1) a) := by
    refine Inv_C h hc (by decide) ?_
    have q := h.1 c hc
    unfold ChOk gC at *
    rw [up_ne (by omega), up_eq, up_ne (by omega), up_ne (by omega), up_ne (by omega)]
    exact ⟨q.1, ha, q.2.2⟩
  generalize upd s (64 + 7 * c + 1) a = t at h1 ⊢
  refine Inv_C h1 hc (by decide) ?_
  have q := h1.1 c hc
  unfold ChOk gC at *
  rw [up_ne (by omega), up_ne (by omega), up_eq, up_ne (by omega), up_ne (by omega)]
  exact ⟨q.1, q.2.1, hb, q.2.2.2⟩
theorem Inv_do {s v : SS} {x : Int32} (h : Inv s) (hv : ItOk x v) : Inv (doI s x v) := by
  unfold doI
  by_cases h1 : x = 108
  · rw [if_pos h1]; have q := hv.l h1; exact Inv_po h q.1.2 q.2.1 q.2.2
  · rw [if_neg h1]
    by_cases h2 : x = 102
    · rw [if_pos h2]; exact Inv_free h (fr_mem (hv.f h2).2)
    · rw [if_neg h2]; have q := hv.c (hv.d h1 h2); exact Inv_rb h q.1.2 q.2.1 q.2.2
theorem frl_in {sg : SS} {n : Nat} {lo hi : SS} : ∀ (r i k j : Nat), (frl sg n lo hi r i k).1 = true → j < r → inR (nval sg n (sk sg n (npp sg n k j))) (lo (i + j)) (hi (i + j)) = true
  | 0, _, _, _, _, hj => absurd hj (Nat.not_lt_zero _)
  | r + 1, i, k, j, h, hj => by
    unfold frl at h
    by_cases q : rdk sg n (sk sg n k) (lo i) (hi i) = true
    · rw [if_pos q] at h
      cases j with
      | zero => exact (rdk_iff.mp q).2
      | succ j =>
        have := frl_in r (i + 1) _ j h (by omega)
        rw [npp_s, show i + (j + 1) = i + 1 + j by omega]
        exact this
    · rw [if_neg q] at h; cases h
theorem it_ok {sg : SS} {n k : Nat} (h : (itR sg n k).1 = true) : ItOk (sg k) (iv sg n k) := by
  have h0 := it_hcn h
  refine ⟨h0, fun j hj => ?_⟩
  rw [itR_k h0] at h
  have := frl_in _ 0 _ j h hj
  rw [Nat.zero_add] at this
  exact this
theorem doI_cong {s v u : SS} {x : Int32} (h : ∀ j, j < hcn x → v j = u j) (h0 : ¬ hcn x = 0) : doI s x v = doI s x u ∧ okI s x v = okI s x u := by
  have hvc : vc v = vc u := by unfold vc; rw [h 0 (by omega)]
  unfold doI okI
  rw [hvc]
  rcases hcn_cases x with q | q | q | q
  · rw [q.2.1] at h
    refine ⟨?_, rfl⟩
    rw [if_pos q.1, if_pos q.1]
    have hN : ∀ p j, j ≤ 9 → poN s v p j = poN s u p j := by
      intro p j
      induction j with
      | zero => intro _; rfl
      | succ j ih => intro hj; show upd (poN s v p j) _ _ = upd (poN s u p j) _ _; rw [ih (by omega), h (1 + j) (by omega)]
    unfold poF po3 po2
    rw [hN _ 9 (by decide)]
  · rw [q.2.1] at h
    rw [h 1 (by decide)]
    refine ⟨?_, rfl⟩
    have n1 : ¬ x = 108 := by rw [q.1]; decide
    simp only [if_neg n1, if_pos q.1]
  · rw [q.2.1] at h
    rw [h 1 (by decide), h 2 (by decide)]
    refine ⟨?_, rfl⟩
    have n1 : ¬ x = 108 := by rw [q.1]; decide
    have n2 : ¬ x = 102 := by rw [q.1]; decide
    simp only [if_neg n1, if_neg n2]
  · exact absurd q.1 h0
