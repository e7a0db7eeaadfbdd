/-! what holds of every state, and what a tick does -/
def re (s : SS) (p : Nat) : Nat := (gL s p 11).toNatClampNeg
def un (s : SS) (p : Nat) : Nat := nn s p * rr s p
def lst (s : SS) : Nat := (s 453).toNatClampNeg
def bu (s : SS) (c : Nat) : Nat := (gC s c 2).toNatClampNeg
def po (s : SS) (c : Nat) : Nat := (gC s c 3).toNatClampNeg
def qu (s : SS) : Nat := (s 429).toNatClampNeg
def nat? (x : Int32) (lo hi : Nat) : Prop := ∃ j : Nat, lo ≤ j ∧ j < hi ∧ x = nI j
def ChOk (s : SS) (c : Nat) : Prop := (gC s c 0 = 0 ∨ gC s c 0 = 1) ∧ nat? (gC s c 1) 0 4 ∧ nat? (gC s c 2) 1 9 ∧ nat? (gC s c 3) 0 6 ∧ nat? (gC s c 4) 0 6
def LeOk (s : SS) (p : Nat) : Prop := (s (92 + 14 * p) = 0 ∧ gL s p 2 = 0 ∧ gL s p 9 = 0) ∨ (s (92 + 14 * p) = 1 ∧ nat? (gL s p 2) 1 17 ∧ nat? (gL s p 5) 1 5 ∧ nat? (gL s p 11) 0 (un s p + 1))
def Inv (s : SS) : Prop := (∀ c, c < 4 → ChOk s c) ∧ (∀ p, p < 24 → LeOk s p) ∧ (s 428 = 0 ∨ (s 428 = 1 ∧ nat? (s 429) 0 24)) ∧ nat? (s 453) 0 4
theorem nat?.to {x : Int32} {lo hi : Nat} (h : nat? x lo hi) (hh : hi ≤ 2 ^ 31) : x = nI x.toNatClampNeg ∧ lo ≤ x.toNatClampNeg ∧ x.toNatClampNeg < hi := by
  obtain ⟨j, h1, h2, rfl⟩ := h
  rw [nI_clamp (by omega)]
  exact ⟨rfl, h1, h2⟩
theorem Inv.hd_ {s : SS} (h : Inv s) {c : Nat} (hc : c < 4) : gC s c 4 = nI (hd s c) ∧ hd s c < 6 := by
  have := (h.1 c hc).2.2.2.2.to (by decide)
  exact ⟨this.1, this.2.2⟩
theorem Inv.po_ {s : SS} (h : Inv s) {c : Nat} (hc : c < 4) : gC s c 3 = nI (po s c) ∧ po s c < 6 := by
  have := (h.1 c hc).2.2.2.1.to (by decide)
  exact ⟨this.1, this.2.2⟩
theorem Inv.bu_ {s : SS} (h : Inv s) {c : Nat} (hc : c < 4) : gC s c 2 = nI (bu s c) ∧ 1 ≤ bu s c ∧ bu s c < 9 := (h.1 c hc).2.2.1.to (by decide)
theorem Inv.lst_ {s : SS} (h : Inv s) : s 453 = nI (lst s) ∧ lst s < 4 := by
  have := h.2.2.2.to (by decide)
  exact ⟨this.1, this.2.2⟩
theorem Inv.pl_ {s : SS} (h : Inv s) {c : Nat} (hc : c < 4) : pl s c < 24 := by
  have := (h.hd_ hc).2
  unfold pl; omega
theorem Inv.q4 {s : SS} (h : Inv s) : s 428 < nI 4 := by
  rcases h.2.2.1 with q | q
  · rw [q]; decide
  · rw [q.1]; decide
/-- a letter that is there -/
theorem Inv.le {s : SS} (h : Inv s) {p : Nat} (hp : p < 24) (hh : s (92 + 14 * p) ≠ 0) : s (92 + 14 * p) = 1 ∧ (gL s p 2 = nI (nn s p) ∧ 1 ≤ nn s p ∧ nn s p < 17) ∧ (gL s p 5 = nI (rr s p) ∧ 1 ≤ rr s p ∧ rr s p < 5) ∧ gL s p 11 = nI (re s p) ∧ re s p ≤ un s p := by
  rcases h.2.1 p hp with q | q
  · exact absurd q.1 hh
  · have h1 := q.2.1.to (by decide)
    have h2 := q.2.2.1.to (by decide)
    have hu : un s p < 100 := by
      have a := h1.2.2; have b := h2.2.2
      show nn s p * rr s p < 100
      have : nn s p * rr s p ≤ 16 * 4 := Nat.mul_le_mul (by unfold nn; omega) (by unfold rr; omega)
      omega
    have h3 := q.2.2.2.to (by omega)
    exact ⟨q.1, h1, h2, h3.1, by have := h3.2.2; unfold re; omega⟩
theorem un_lt {s : SS} {p : Nat} (h1 : nn s p < 17) (h2 : rr s p < 5) : un s p ≤ 64 := by
  have : nn s p * rr s p ≤ 16 * 4 := Nat.mul_le_mul (by omega) (by omega)
  unfold un; omega
theorem Inv.hs {s : SS} (h : Inv s) {p : Nat} (hp : p < 24) : has s p = true ↔ s (92 + 14 * p) ≠ 0 := by
  rcases h.2.1 p hp with q | q
  · simp [has, q.1, q.2.1]
  · have h1 := q.2.1.to (by decide)
    constructor
    · intro _; rw [q.1]; decide
    · intro _
      unfold has
      rw [h1.1]
      exact decide_eq_true (nI_lt (a := 0) (by omega) (by omega))
theorem Inv.tc_ {s : SS} (h : Inv s) {p : Nat} (hp : p < 24) (ht : tc s p = true) : s (92 + 14 * p) ≠ 0 := by
  rcases h.2.1 p hp with q | q
  · simp [tc, q.2.2] at ht
  · rw [q.1]; decide
theorem Inv.eng_ {s : SS} (h : Inv s) {p : Nat} (hp : p < 24) (ht : eng s p = true) : s (92 + 14 * p) ≠ 0 := by
  rcases h.2.1 p hp with q | q
  · simp [eng, q.2.2] at ht
  · rw [q.1]; decide
theorem prs_none {s : SS} {c : Nat} (h : prs s c = none) : tc s (pl s c) = false := by
  unfold prs at h
  split at h
  · cases h
  · rename_i q; simpa using q
theorem prs_some {s : SS} {c p : Nat} (h : prs s c = some p) : p = pl s c ∧ tc s (pl s c) = true := by
  unfold prs at h
  split at h
  · rename_i q; cases h; exact ⟨rfl, q⟩
  · cases h
theorem prs_f {s : SS} {c : Nat} (h : tc s (pl s c) = false) : prs s c = none := by simp [prs, h]
theorem prs_t {s : SS} {c : Nat} (h : tc s (pl s c) = true) : prs s c = some (pl s c) := by simp [prs, h]
def rdy (s : SS) (c : Nat) : Bool := tc s (pl s c) && decide (gC s c 0 = 1)
theorem rdy_f1 {s : SS} {c : Nat} (h : tc s (pl s c) = false) : rdy s c = false := by simp [rdy, h]
theorem rdy_f2 {s : SS} {c : Nat} (h : gC s c 0 = 0) : rdy s c = false := by simp [rdy, h]
theorem rdy_t {s : SS} {c : Nat} (h : tc s (pl s c) = true) (hi : Inv s) (hc : c < 4) (h2 : ¬ gC s c 0 = 0) : rdy s c = true := by
  have := (hi.1 c hc).1.resolve_left h2
  simp [rdy, h, this]
def wok (s : SS) (b : Option Nat) (c : Nat) : Bool := rdy s c && (match b with | none => true | some d => decide (gC s d 1 < gC s c 1))
def wst (s : SS) (b : Option Nat) (c : Nat) : Option Nat := if wok s b c then some c else b
def whoN (s : SS) : Nat → Option Nat
  | 0 => none
  | i + 1 => wst s (whoN s i) ((lst s + (i + 1)) % 4)
def who (s : SS) : Option Nat := whoN s 4
theorem wst_lt {s : SS} {b : Option Nat} {c : Nat} (hc : c < 4) (hb : ∀ d, b = some d → d < 4) : ∀ d, wst s b c = some d → d < 4 := by
  intro d h
  unfold wst at h
  split at h
  · cases h; exact hc
  · exact hb d h
theorem whoN_lt (s : SS) : ∀ i d, whoN s i = some d → d < 4
  | 0, d, h => by cases h
  | i + 1, d, h => wst_lt (Nat.mod_lt _ (by decide)) (whoN_lt s i) d h
theorem wst_rdy {s : SS} {b : Option Nat} {c : Nat} (hb : ∀ d, b = some d → rdy s d = true) : ∀ d, wst s b c = some d → rdy s d = true := by
  intro d h
  unfold wst at h
  split at h
  · rename_i q; cases h; unfold wok at q; simp only [Bool.and_eq_true] at q; exact q.1
  · exact hb d h
theorem whoN_rdy (s : SS) : ∀ i d, whoN s i = some d → rdy s d = true
  | 0, d, h => by cases h
  | i + 1, d, h => wst_rdy (whoN_rdy s i) d h
theorem wst_n {s : SS} {b : Option Nat} {c : Nat} (h : rdy s c = false) : wst s b c = b := by simp [wst, wok, h]
theorem wst_0 {s : SS} {c : Nat} (h : rdy s c = true) : wst s none c = some c := by simp [wst, wok, h]
theorem wst_y {s : SS} {c d : Nat} (h : rdy s c = true) (h2 : gC s d 1 < gC s c 1) : wst s (some d) c = some c := by simp only [wst, wok, h, Bool.true_and]; rw [if_pos (decide_eq_true h2)]
theorem wst_no {s : SS} {c d : Nat} (h2 : ¬ gC s d 1 < gC s c 1) : wst s (some d) c = some d := by
  unfold wst wok
  rw [if_neg]
  simp only [Bool.and_eq_true, not_and]
  intro _
  simpa using h2
/-- how many of the first n -/
def cnt (f : Nat → Bool) : Nat → Nat
  | 0 => 0
  | i + 1 => cnt f i + (if f i then 1 else 0)
theorem cnt_le (f : Nat → Bool) : ∀ n, cnt f n ≤ n
  | 0 => Nat.le_refl _
  | i + 1 => by have := cnt_le f i; unfold cnt; split <;> omega
theorem cnt_f {f : Nat → Bool} {j : Nat} (h : f j = false) : cnt f (j + 1) = cnt f j := by simp [cnt, h]
theorem cnt_t {f : Nat → Bool} {j : Nat} (h : f j = true) : cnt f (j + 1) = cnt f j + 1 := by simp [cnt, h]
def elo (s : SS) (c : Nat) : Nat := cnt (fun j => eng s (c * 6 + j)) 6
def els (s : SS) : Nat → Nat
  | 0 => 0
  | i + 1 => els s i + elo s i
theorem els_le (s : SS) : ∀ n, els s n ≤ 6 * n
  | 0 => Nat.le_refl _
  | i + 1 => by have := els_le s i; have := cnt_le (fun j => eng s (i * 6 + j)) 6; unfold els elo; omega
/-! floorMod -/
theorem xor64 (x : Int32) : (x ^^^ nI 64) < 0 ↔ x < 0 := by
  have h : (x.toBitVec ^^^ (64#32)).msb = (x.toBitVec.msb ^^ (64#32).msb) := BitVec.msb_xor
  have h3 : (64#32 : BitVec 32).msb = false := by decide
  rw [h3, Bool.xor_false, BitVec.msb_eq_toInt, BitVec.msb_eq_toInt] at h
  rw [Int32.lt_iff_toInt_lt, Int32.lt_iff_toInt_lt]
  exact decide_eq_decide.mp h
theorem am_nI (x : Int32) : (nI (am x)).toInt = x.toInt % 64 := by
  rw [nI_toInt (by have := am_lt x; omega)]
  unfold am; omega
theorem t64 : (nI 64).toInt = 64 := by decide
theorem fm_p {x : Int32} (h : ¬ x < 0) : x - x / nI 64 * nI 64 = nI (am x) := by
  apply Int32.toInt_inj.mp
  rw [rem_toInt, am_nI, t64]
  rw [Int32.lt_iff_toInt_lt] at h
  exact Int.tmod_eq_emod_of_nonneg (by have z : (0 : Int32).toInt = 0 := rfl; omega)
theorem fm_z {x : Int32} (h : x - x / nI 64 * nI 64 = 0) : x - x / nI 64 * nI 64 = nI (am x) := by
  apply Int32.toInt_inj.mp
  have e := congrArg Int32.toInt h
  rw [rem_toInt, t64] at e
  rw [rem_toInt, am_nI, t64, e]
  have z : (0 : Int32).toInt = 0 := rfl
  rw [z] at e ⊢
  have := Int.dvd_of_tmod_eq_zero e
  omega
theorem fm_n {x : Int32} (h : x < 0) (h2 : ¬ x - x / nI 64 * nI 64 = 0) : x - x / nI 64 * nI 64 + nI 64 = nI (am x) := by
  have z : (0 : Int32).toInt = 0 := rfl
  have hb := tmod_bounds (a := x.toInt) (M := 64) (by decide)
  have hx : x.toInt < 0 := by rw [Int32.lt_iff_toInt_lt] at h; omega
  have e0 : ¬ x.toInt.tmod 64 = 0 := by
    intro q
    apply h2
    apply Int32.toInt_inj.mp
    rw [rem_toInt, t64, z]; exact q
  have e1 : x.toInt.tmod 64 = -((-x.toInt) % 64) := by
    have := Int.neg_tmod (a := -x.toInt) (b := 64)
    rw [Int.neg_neg] at this
    rw [this, Int.tmod_eq_emod_of_nonneg (by omega)]
  apply Int32.toInt_inj.mp
  rw [am_nI, Jvm.Kit.i32_add (by rw [rem_toInt, t64]; omega) (by rw [rem_toInt, t64]; omega), rem_toInt, t64]
  omega
