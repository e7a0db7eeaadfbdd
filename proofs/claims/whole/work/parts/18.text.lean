/-! the text: blanks, numbers, items -/
def inR (v lo hi : Int32) : Bool := decide (lo ≤ v) && decide (v ≤ hi)
theorem inR_t {v lo hi : Int32} (h1 : ¬ v < lo) (h2 : ¬ hi < v) : inR v lo hi = true := by simp [inR, Int32.not_lt.mp h1, Int32.not_lt.mp h2]
theorem inR_f1 {v lo hi : Int32} (h1 : v < lo) : inR v lo hi = false := by simp [inR, Int32.not_le.mpr h1]
theorem inR_f2 {v lo hi : Int32} (h1 : hi < v) : inR v lo hi = false := by simp [inR, Int32.not_le.mpr h1]
theorem inR_iff {v lo hi : Int32} : inR v lo hi = true ↔ lo ≤ v ∧ v ≤ hi := by simp [inR]
/-- what lies between two naturals is a natural -/
theorem inR_nat {v : Int32} {a b : Nat} (ha : a < 2 ^ 31) (hb : b < 2 ^ 31) (h : inR v (nI a) (nI b) = true) : nat? v a (b + 1) := by
  obtain ⟨h1, h2⟩ := inR_iff.mp h
  rw [Int32.le_iff_toInt_le] at h1 h2
  rw [nI_toInt hb] at h2
  rw [nI_toInt ha] at h1
  refine ⟨v.toInt.toNat, by omega, by omega, ?_⟩
  apply Int32.toInt_inj.mp
  rw [nI_toInt (by omega)]
  omega
def dgt (x : Int32) : Bool := inR x (nI 48) (nI 57)
section TX
variable (sg : SS) (n : Nat)
def skb : Nat → Nat → Nat
  | 0, k => k
  | f + 1, k => if k < n ∧ sg k = 32 then skb f (k + 1) else k
def sk (k : Nat) : Nat := skb sg n (n - k) k
def fgb : Nat → Nat → Nat
  | 0, _ => 0
  | f + 1, k => if k < n ∧ dgt (sg k) = true then fgb f (k + 1) + 1 else 0
def fg (k : Nat) : Nat := fgb sg n (n - k) k
def nv (k : Nat) : Nat → Int32
  | 0 => 0
  | j + 1 => nv k j * 10 + sg (k + j) - 48
def bel (k : Nat) : Bool := decide (k < n) && decide (sg k = 45)
def fsx (k : Nat) : Nat := if bel sg n k = true then k + 1 else k
def fm (k : Nat) : Nat := fg sg n (fsx sg n k)
def wf (k : Nat) : Bool := decide (1 ≤ fm sg n k) && decide (fm sg n k ≤ 3) && !(decide (sg (fsx sg n k) = 48) && (decide (1 < fm sg n k) || bel sg n k))
def nval (k : Nat) : Int32 := if bel sg n k = true then -(nv sg (fsx sg n k) (fm sg n k)) else nv sg (fsx sg n k) (fm sg n k)
def nend (k : Nat) : Nat := fsx sg n k + fm sg n k
def rdk (k : Nat) (lo hi : Int32) : Bool := wf sg n k && inR (nval sg n k) lo hi
variable (lo hi : SS)
def frl : Nat → Nat → Nat → Bool × Nat
  | 0, _, k => if sk sg n k < n ∧ sg (sk sg n k) = 59 then (true, sk sg n k + 1) else (false, sk sg n k)
  | r + 1, i, k => if rdk sg n (sk sg n k) (lo i) (hi i) = true then frl r (i + 1) (nend sg n (sk sg n k)) else (false, sk sg n k)
def fnu (base : Nat) : Nat → Nat → Nat → SS → SS
  | 0, _, _, nu => nu
  | r + 1, i, k, nu => if rdk sg n (sk sg n k) (lo i) (hi i) = true then fnu base r (i + 1) (nend sg n (sk sg n k)) (upd nu (base + i) (nval sg n (sk sg n k))) else nu
end TX
def hcn (x : Int32) : Nat := if x = 108 then 10 else if x = 102 then 2 else if x = 99 then 3 else 0
def tLL : SS := fun k => match k with
  | 3 => 1 | 4 => -9 | 5 => -9 | 6 => 1 | 7 => -20 | 8 => -20 | _ => 0
def tLM : SS := fun k => match k with
  | 0 => 3 | 1 => 63 | 2 => 63 | 3 => 16 | 4 => 9 | 5 => 9 | 6 => 4 | 7 => 20 | 8 => 20 | _ => 1
def tFL : SS := fun _ => 0
def tFM : SS := fun k => match k with
  | 0 => 63 | _ => 255
def tTL : SS := fun k => match k with
  | 2 => 1 | _ => 0
def tTM : SS := fun k => match k with
  | 0 => 3 | 1 => 3 | _ => 8
def lo3 (x : Int32) : SS := if x = 108 then tLL else if x = 102 then tFL else tTL
def hi3 (x : Int32) : SS := if x = 108 then tLM else if x = 102 then tFM else tTM
/-- an item whose head stands at k: whether it is one, and the fault's place, or where it ends -/
def itR (sg : SS) (n k : Nat) : Bool × Nat := if hcn (sg k) = 0 then (false, k) else frl sg n (lo3 (sg k)) (hi3 (sg k)) (hcn (sg k)) 0 (k + 1)
def itKd (sg : SS) (k ic : Nat) (kd : SS) : SS := if hcn (sg k) = 0 then kd else upd kd ic (sg k)
def itNu (sg : SS) (n k ic : Nat) (nu : SS) : SS := if hcn (sg k) = 0 then nu else fnu sg n (lo3 (sg k)) (hi3 (sg k)) (ic * 10) (hcn (sg k)) 0 (k + 1) nu
/-- all items from the i-th on, the next head (or the end) at k: the fault, how many -/
def prl (sg : SS) (n : Nat) : Nat → Nat → Nat → Option Nat × Nat
  | 0, i, _ => (none, i)
  | f + 1, i, k => if k < n then (if (itR sg n k).1 = true then prl sg n f (i + 1) (sk sg n (itR sg n k).2) else (some (itR sg n k).2, i)) else (none, i)
def prA (sg : SS) (n : Nat) : Option Nat × Nat := prl sg n 25 0 (sk sg n 0)
def ps (sg : SS) (n : Nat) : Nat → Nat
  | 0 => sk sg n 0
  | t + 1 => sk sg n (itR sg n (ps sg n t)).2
def npp (sg : SS) (n k0 : Nat) : Nat → Nat
  | 0 => k0
  | i + 1 => nend sg n (sk sg n (npp sg n k0 i))
/-- the j-th number of the item whose head stands at k -/
def iv (sg : SS) (n k j : Nat) : Int32 := nval sg n (sk sg n (npp sg n (k + 1) j))
section TL
variable {sg : SS} {n : Nat}
theorem sk_stop {k : Nat} (h : ¬ (k < n ∧ sg k = 32)) : sk sg n k = k := by
  unfold sk
  cases n - k with
  | zero => rfl
  | succ f => exact if_neg h
theorem sk_go {k : Nat} (h : k < n) (h2 : sg k = 32) : sk sg n k = sk sg n (k + 1) := by
  unfold sk
  rw [show n - k = (n - (k + 1)) + 1 by omega]
  exact if_pos ⟨h, h2⟩
theorem skb_le : ∀ (f k : Nat), k ≤ skb sg n f k
  | 0, k => Nat.le_refl _
  | f + 1, k => by
    unfold skb
    split
    · exact Nat.le_trans (Nat.le_succ k) (skb_le f (k + 1))
    · exact Nat.le_refl _
theorem skb_n : ∀ (f k : Nat), k ≤ n → skb sg n f k ≤ n
  | 0, k, h => h
  | f + 1, k, h => by
    unfold skb
    split
    · rename_i q; exact skb_n f (k + 1) q.1
    · exact h
theorem sk_le (k : Nat) : k ≤ sk sg n k := skb_le _ _
theorem sk_n {k : Nat} (h : k ≤ n) : sk sg n k ≤ n := skb_n _ _ h
theorem fg_stop {k : Nat} (h : ¬ (k < n ∧ dgt (sg k) = true)) : fg sg n k = 0 := by
  unfold fg
  cases n - k with
  | zero => rfl
  | succ f => exact if_neg h
theorem fg_go {k : Nat} (h : k < n) (h2 : dgt (sg k) = true) : fg sg n k = fg sg n (k + 1) + 1 := by
  unfold fg
  rw [show n - k = (n - (k + 1)) + 1 by omega]
  exact if_pos ⟨h, h2⟩
theorem fg_n : ∀ (m k : Nat), n - k = m → k ≤ n → k + fg sg n k ≤ n
  | 0, k, hm, h => by rw [fg_stop (fun q => by omega)]; exact h
  | m + 1, k, hm, h => by
    by_cases q : k < n ∧ dgt (sg k) = true
    · rw [fg_go q.1 q.2]; have := fg_n m (k + 1) (by omega) (by omega); omega
    · rw [fg_stop q]; exact h
theorem fg_le {k : Nat} (h : k ≤ n) : k + fg sg n k ≤ n := fg_n _ k rfl h
theorem fg_end : ∀ (m k : Nat), n - k = m → ¬ (k + fg sg n k < n ∧ dgt (sg (k + fg sg n k)) = true)
  | 0, k, hm => fun q => by omega
  | m + 1, k, hm => by
    by_cases q : k < n ∧ dgt (sg k) = true
    · have := fg_end m (k + 1) (by omega)
      rw [fg_go q.1 q.2, show k + (fg sg n (k + 1) + 1) = k + 1 + fg sg n (k + 1) by omega]
      exact this
    · rw [fg_stop q]; exact q
theorem bel_lt {k : Nat} (h : bel sg n k = true) : k < n ∧ sg k = 45 := by simpa [bel] using h
theorem bel_f1 {k : Nat} (h : n ≤ k) : bel sg n k = false := by simp [bel, Nat.not_lt.mpr h]
theorem bel_f2 {k : Nat} (h : ¬ sg k = 45) : bel sg n k = false := by simp [bel, h]
theorem bel_t {k : Nat} (h : k < n) (h2 : sg k = 45) : bel sg n k = true := by simp [bel, h, h2]
theorem fsx_f {k : Nat} (h : bel sg n k = false) : fsx sg n k = k := by simp [fsx, h]
theorem fsx_t {k : Nat} (h : bel sg n k = true) : fsx sg n k = k + 1 := by simp [fsx, h]
theorem fsx_le {k : Nat} (h : k ≤ n) : fsx sg n k ≤ n := by
  cases hb : bel sg n k with
  | false => rw [fsx_f hb]; exact h
  | true => rw [fsx_t hb]; exact (bel_lt hb).1
theorem nend_le {k : Nat} (h : k ≤ n) : nend sg n k ≤ n := fg_le (fsx_le h)
theorem fsx_ge {k : Nat} : k ≤ fsx sg n k := by
  cases hb : bel sg n k with
  | false => rw [fsx_f hb]; omega
  | true => rw [fsx_t hb]; omega
theorem nval_f {k : Nat} (h : bel sg n k = false) : nval sg n k = nv sg (fsx sg n k) (fm sg n k) := by simp [nval, h]
theorem nval_t {k : Nat} (h : bel sg n k = true) : nval sg n k = -(nv sg (fsx sg n k) (fm sg n k)) := by simp [nval, h]
theorem wf_iff {k : Nat} : wf sg n k = true ↔ 1 ≤ fm sg n k ∧ fm sg n k ≤ 3 ∧ ¬ (sg (fsx sg n k) = 48 ∧ (1 < fm sg n k ∨ bel sg n k = true)) := by
  simp only [wf, Bool.and_eq_true, decide_eq_true_eq, Bool.not_eq_true', Bool.and_eq_false_iff, decide_eq_false_iff_not, Bool.or_eq_false_iff, and_assoc, not_and, not_or, Bool.not_eq_true]
  constructor
  · rintro ⟨a, b, c⟩
    exact ⟨a, b, fun q => c.resolve_left (fun z => z q)⟩
  · rintro ⟨a, b, c⟩
    refine ⟨a, b, ?_⟩
    by_cases q : sg (fsx sg n k) = 48
    · exact Or.inr (c q)
    · exact Or.inl q
theorem wf_no {k : Nat} (h : ¬ (1 ≤ fm sg n k ∧ fm sg n k ≤ 3 ∧ ¬ (sg (fsx sg n k) = 48 ∧ (1 < fm sg n k ∨ bel sg n k = true)))) : wf sg n k = false := by
  cases hw : wf sg n k with
  | false => rfl
  | true => exact absurd (wf_iff.mp hw) h
theorem rdk_f1 {k : Nat} {lo hi : Int32} (h : wf sg n k = false) : rdk sg n k lo hi = false := by simp [rdk, h]
theorem rdk_f2 {k : Nat} {lo hi : Int32} (h : inR (nval sg n k) lo hi = false) : rdk sg n k lo hi = false := by simp [rdk, h]
theorem rdk_t {k : Nat} {lo hi : Int32} (h : wf sg n k = true) (h2 : inR (nval sg n k) lo hi = true) : rdk sg n k lo hi = true := by simp [rdk, h, h2]
theorem rdk_iff {k : Nat} {lo hi : Int32} : rdk sg n k lo hi = true ↔ wf sg n k = true ∧ inR (nval sg n k) lo hi = true := by simp [rdk]
end TL
