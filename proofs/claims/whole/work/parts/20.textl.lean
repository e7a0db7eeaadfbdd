/-! the items' lengths, and what was read of them -/
section TM
variable {sg : SS} {n : Nat}
theorem dgt_nat {x : Int32} (h : dgt x = true) : ∃ d : Nat, 48 ≤ d ∧ d < 58 ∧ x = nI d := by
  obtain ⟨j, h1, h2, h3⟩ := inR_nat (by decide) (by decide) h
  exact ⟨j, h1, by omega, h3⟩
theorem fg_pos {k : Nat} (h : 1 ≤ fg sg n k) : k < n ∧ dgt (sg k) = true := by
  by_cases q : k < n ∧ dgt (sg k) = true
  · exact q
  · rw [fg_stop q] at h; omega
theorem fg_dig : ∀ (j k : Nat), j < fg sg n k → k + j < n ∧ dgt (sg (k + j)) = true
  | 0, k, h => fg_pos h
  | j + 1, k, h => by
    have q := fg_pos (sg := sg) (n := n) (k := k) (by omega)
    rw [fg_go q.1 q.2] at h
    have := fg_dig j (k + 1) (by omega)
    rw [show k + (j + 1) = k + 1 + j by omega]
    exact this
theorem nv_nat {k : Nat} : ∀ (m : Nat), m ≤ 3 → (∀ j, j < m → dgt (sg (k + j)) = true) → ∃ v : Nat, nv sg k m = nI v ∧ v < 10 ^ m ∧ (1 ≤ m → ¬ sg k = 48 → 1 ≤ v)
  | 0, _, _ => ⟨0, rfl, by decide, fun h => absurd h (by decide)⟩
  | m + 1, hm, hd => by
    obtain ⟨v, h1, h2, h3⟩ := nv_nat m (by omega) (fun j hj => hd j (by omega))
    obtain ⟨d, d1, d2, d3⟩ := dgt_nat (hd m (by omega))
    refine ⟨v * 10 + d - 48, ?_, ?_, fun _ h0 => ?_⟩
    · show nv sg k m * 10 + sg (k + m) - 48 = _
      rw [h1, d3]
      show nI v * nI 10 + nI d - nI 48 = _
      rw [pk_mul, nI_add, pk_sub (by omega)]
    · rw [Nat.pow_succ]; omega
    · cases m with
      | zero =>
        have : ¬ d = 48 := fun e => h0 (by rw [show k = k + 0 from rfl, d3, e]; rfl)
        omega
      | succ m => have := h3 (by omega) h0; omega
theorem nv_val {k : Nat} (hw : wf sg n k = true) : ∃ v : Nat, nv sg (fsx sg n k) (fm sg n k) = nI v ∧ v < 1000 ∧ (¬ sg (fsx sg n k) = 48 → 1 ≤ v) := by
  obtain ⟨h1, h2, h3⟩ := wf_iff.mp hw
  obtain ⟨v, a, b, c⟩ := nv_nat (sg := sg) (k := fsx sg n k) (fm sg n k) h2 (fun j hj => (fg_dig j _ hj).2)
  have : 10 ^ fm sg n k ≤ 10 ^ 3 := Nat.pow_le_pow_right (by decide) h2
  exact ⟨v, a, by omega, c h1⟩
/-- a number that may not be below 0 has no sign ahead -/
theorem rdk_pos {k : Nat} {lo hi : Int32} (h : rdk sg n k lo hi = true) (h0 : 0 ≤ lo) : bel sg n k = false := by
  obtain ⟨hw, hr⟩ := rdk_iff.mp h
  cases hb : bel sg n k with
  | false => rfl
  | true =>
    exfalso
    obtain ⟨h1, h2, h3⟩ := wf_iff.mp hw
    obtain ⟨v, a, b, c⟩ := nv_val hw
    have hv := c (fun e => h3 ⟨e, Or.inr hb⟩)
    have hl := (inR_iff.mp hr).1
    rw [nval_t hb, a] at hl
    rw [Int32.le_iff_toInt_le] at hl h0
    rw [sb_negT (by omega)] at hl
    have z : (0 : Int32).toInt = 0 := rfl
    omega
theorem rdk_len {k : Nat} {lo hi : Int32} (h : rdk sg n k lo hi = true) : k + 1 ≤ nend sg n k := by
  have := (wf_iff.mp (rdk_iff.mp h).1).1
  have := fsx_ge (sg := sg) (n := n) (k := k)
  unfold nend; omega
theorem frl_len {lo hi : SS} : ∀ (r i k : Nat), (frl sg n lo hi r i k).1 = true → k + r + 1 ≤ (frl sg n lo hi r i k).2
  | 0, i, k, h => by
    unfold frl at h ⊢
    split at h
    · rename_i q; rw [if_pos q]; have := sk_le (sg := sg) (n := n) k; show _ ≤ sk sg n k + 1; omega
    · cases h
  | r + 1, i, k, h => by
    unfold frl at h ⊢
    split at h
    · rename_i q
      rw [if_pos q]
      have h1 := frl_len r (i + 1) _ h
      have h2 := rdk_len q
      have h3 := sk_le (sg := sg) (n := n) k
      omega
    · cases h
theorem frl_n {lo hi : SS} : ∀ (r i k : Nat), k ≤ n → (frl sg n lo hi r i k).2 ≤ n
  | 0, i, k, hk => by
    unfold frl
    split
    · rename_i q; exact q.1
    · exact sk_n hk
  | r + 1, i, k, hk => by
    unfold frl
    split
    · exact frl_n r (i + 1) _ (nend_le (sk_n hk))
    · exact sk_n hk
/-- two numbers that have no sign have a blank between them -/
theorem frl2_len {lo hi : SS} {k : Nat} (hl : ∀ i, 0 ≤ lo i) (h : (frl sg n lo hi 2 0 k).1 = true) : k + 4 ≤ (frl sg n lo hi 2 0 k).2 := by
  have h' := h
  unfold frl at h'
  by_cases q : rdk sg n (sk sg n k) (lo 0) (hi 0) = true
  · rw [if_pos q] at h'
    have e1 : frl sg n lo hi 2 0 k = frl sg n lo hi 1 1 (nend sg n (sk sg n k)) := if_pos q
    unfold frl at h'
    by_cases q2 : rdk sg n (sk sg n (nend sg n (sk sg n k))) (lo (0 + 1)) (hi (0 + 1)) = true
    · have e2 : frl sg n lo hi 1 1 (nend sg n (sk sg n k)) = frl sg n lo hi 0 2 (nend sg n (sk sg n (nend sg n (sk sg n k)))) := if_pos q2
      rw [e1, e2] at h ⊢
      have l0 := frl_len 0 2 _ h
      have l1 := rdk_len q
      have l2 := rdk_len q2
      have l3 := sk_le (sg := sg) (n := n) k
      have l4 := sk_le (sg := sg) (n := n) (nend sg n (sk sg n k))
      have b2 := rdk_pos q2 (hl _)
      have d2 := fg_pos (wf_iff.mp (rdk_iff.mp q2).1).1
      rw [fsx_f b2] at d2
      have hne : sk sg n (nend sg n (sk sg n k)) ≠ nend sg n (sk sg n k) := by
        intro e
        rw [e] at d2
        exact fg_end _ (fsx sg n (sk sg n k)) rfl d2
      omega
    · rw [if_neg q2] at h'; cases h'
  · rw [if_neg q] at h'; cases h'
theorem hcn_cases (x : Int32) : (x = 108 ∧ hcn x = 10 ∧ lo3 x = tLL ∧ hi3 x = tLM) ∨ (x = 102 ∧ hcn x = 2 ∧ lo3 x = tFL ∧ hi3 x = tFM) ∨ (x = 99 ∧ hcn x = 3 ∧ lo3 x = tTL ∧ hi3 x = tTM) ∨ (hcn x = 0 ∧ ¬ x = 108 ∧ ¬ x = 102 ∧ ¬ x = 99) := by
  unfold hcn lo3 hi3
  by_cases h1 : x = 108
  · exact Or.inl ⟨h1, if_pos h1, if_pos h1, if_pos h1⟩
  · rw [if_neg h1, if_neg h1, if_neg h1]
    by_cases h2 : x = 102
    · exact Or.inr (Or.inl ⟨h2, if_pos h2, if_pos h2, if_pos h2⟩)
    · rw [if_neg h2, if_neg h2, if_neg h2]
      by_cases h3 : x = 99
      · exact Or.inr (Or.inr (Or.inl ⟨h3, if_pos h3, rfl, rfl⟩))
      · exact Or.inr (Or.inr (Or.inr ⟨if_neg h3, h1, h2, h3⟩))
theorem hcn_le (x : Int32) : hcn x ≤ 10 := by rcases hcn_cases x with h | h | h | h <;> omega
theorem itR_k {k : Nat} (h : ¬ hcn (sg k) = 0) : itR sg n k = frl sg n (lo3 (sg k)) (hi3 (sg k)) (hcn (sg k)) 0 (k + 1) := if_neg h
theorem itR_0 {k : Nat} (h : hcn (sg k) = 0) : itR sg n k = (false, k) := if_pos h
theorem it_hcn {k : Nat} (h : (itR sg n k).1 = true) : ¬ hcn (sg k) = 0 := by
  intro e; rw [itR_0 e] at h; cases h
theorem it_len {k : Nat} (h : (itR sg n k).1 = true) : k + 5 ≤ (itR sg n k).2 := by
  have h0 := it_hcn h
  rw [itR_k h0] at h ⊢
  rcases hcn_cases (sg k) with q | q | q | q
  · have := frl_len _ _ _ h; omega
  · rw [q.2.1, q.2.2.1, q.2.2.2] at h ⊢
    have := frl2_len (fun i => by show (0 : Int32) ≤ 0; decide) h
    omega
  · have := frl_len _ _ _ h; omega
  · exact absurd q.1 h0
theorem it_n {k : Nat} (hk : k < n) : (itR sg n k).2 ≤ n := by
  unfold itR
  split
  · exact Nat.le_of_lt hk
  · exact frl_n _ _ _ hk
theorem npp_s {k : Nat} : ∀ j, npp sg n k (j + 1) = npp sg n (nend sg n (sk sg n k)) j
  | 0 => rfl
  | j + 1 => by show nend sg n (sk sg n (npp sg n k (j + 1))) = nend sg n (sk sg n (npp sg n _ j)); rw [npp_s j]
theorem fnu_out {lo hi : SS} {base : Nat} : ∀ (r i k : Nat) (nu : SS) {x : Nat}, x < base + i → fnu sg n lo hi base r i k nu x = nu x
  | 0, _, _, _, _, _ => rfl
  | r + 1, i, k, nu, x, hx => by
    unfold fnu
    split
    · rw [fnu_out r (i + 1) _ _ (by omega), up_ne (by omega)]
    · rfl
theorem fnu_at {lo hi : SS} {base : Nat} : ∀ (r i k : Nat) (nu : SS) (j : Nat), (frl sg n lo hi r i k).1 = true → j < r → fnu sg n lo hi base r i k nu (base + i + j) = nval sg n (sk sg n (npp sg n k j))
  | 0, _, _, _, _, _, hj => absurd hj (Nat.not_lt_zero _)
  | r + 1, i, k, nu, j, h, hj => by
    unfold frl at h
    by_cases q : rdk sg n (sk sg n k) (lo i) (hi i) = true
    · rw [if_pos q] at h
      unfold fnu
      rw [if_pos q]
      cases j with
      | zero => rw [fnu_out r (i + 1) _ _ (by omega)]; exact up_eq
      | succ j =>
        have := fnu_at (base := base) r (i + 1) (nend sg n (sk sg n k)) (upd nu (base + i) (nval sg n (sk sg n k))) j h (by omega)
        rw [npp_s, ← this, show base + i + (j + 1) = base + (i + 1) + j by omega]
    · rw [if_neg q] at h; cases h
/-- what stands in the rows behind the first m items -/
def GoodI (sg : SS) (n : Nat) (kd nu : SS) (m : Nat) : Prop := ∀ t, t < m → (itR sg n (ps sg n t)).1 = true ∧ ps sg n t < n ∧ kd t = sg (ps sg n t) ∧ ∀ j, j < hcn (sg (ps sg n t)) → nu (t * 10 + j) = iv sg n (ps sg n t) j
theorem GoodI_s {kd nu : SS} {i k : Nat} (h : GoodI sg n kd nu i) (hk : k = ps sg n i) (hok : (itR sg n k).1 = true) (hkn : k < n) : GoodI sg n (itKd sg k i kd) (itNu sg n k i nu) (i + 1) := by
  have h0 := it_hcn hok
  have e1 : itKd sg k i kd = upd kd i (sg k) := if_neg h0
  have e2 : itNu sg n k i nu = fnu sg n (lo3 (sg k)) (hi3 (sg k)) (i * 10) (hcn (sg k)) 0 (k + 1) nu := if_neg h0
  rw [e1, e2]
  intro t ht
  by_cases e : t = i
  · subst e
    rw [← hk]
    refine ⟨hok, hkn, up_eq, fun j hj => ?_⟩
    rw [itR_k h0] at hok
    exact fnu_at _ 0 _ nu j hok hj
  · obtain ⟨a, b, c, d⟩ := h t (by omega)
    refine ⟨a, b, by rw [up_ne e]; exact c, fun j hj => ?_⟩
    have := hcn_le (sg (ps sg n t))
    rw [fnu_out _ 0 _ _ (by omega)]
    exact d j hj
theorem prl_y {f i k : Nat} (h : k < n) (h2 : (itR sg n k).1 = true) : prl sg n (f + 1) i k = prl sg n f (i + 1) (sk sg n (itR sg n k).2) := by
  show (if k < n then _ else _) = _; rw [if_pos h, if_pos h2]
theorem prl_e {f i k : Nat} (h : k < n) (h2 : (itR sg n k).1 = false) : prl sg n (f + 1) i k = (some (itR sg n k).2, i) := by
  show (if k < n then _ else _) = _; rw [if_pos h, if_neg (by rw [h2]; decide)]
theorem prl_n {f i k : Nat} (h : ¬ k < n) : prl sg n (f + 1) i k = (none, i) := by
  show (if k < n then _ else _) = _; rw [if_neg h]
end TM
def rdI (sg : SS) (n : Nat) : Int32 := match (prA sg n).1 with
  | none => -1
  | some f => nI f
def zT (D : DX) (a : Nat → Nat) : Prop := ("TransferRings$Text", "LETTER_LEAST", "[I", a 0, 10, tLL) ∈ D.2.2.2 ∧ ("TransferRings$Text", "LETTER_MOST", "[I", a 1, 10, tLM) ∈ D.2.2.2 ∧ ("TransferRings$Text", "FILL_LEAST", "[I", a 2, 2, tFL) ∈ D.2.2.2 ∧ ("TransferRings$Text", "FILL_MOST", "[I", a 3, 2, tFM) ∈ D.2.2.2 ∧ ("TransferRings$Text", "TUNE_LEAST", "[I", a 4, 3, tTL) ∈ D.2.2.2 ∧ ("TransferRings$Text", "TUNE_MOST", "[I", a 5, 3, tTM) ∈ D.2.2.2
