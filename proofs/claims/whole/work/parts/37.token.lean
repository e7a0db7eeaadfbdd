/-! the reference's tokens -/
section TK
variable (sg : SS) (n : Nat)
def numB (k : Nat) : Bool := dgt (sg k) || decide (sg k = 45)
def mv (k : Nat) : Nat → Int32
  | 0 => 0
  | j + 1 => if nI 9999 < mv k j then mv k j else nI 10 * mv k j + sg (k + j) - nI 48
def nvM (k : Nat) : Int32 := if bel sg n k = true then -(mv sg (fsx sg n k) (fm sg n k)) else mv sg (fsx sg n k) (fm sg n k)
def tkN (k : Nat) : Int32 := if wf sg n k = true then nI 1000 else nI 1001
def tNx (k : Nat) : Nat := if sk sg n k < n then (if numB sg (sk sg n k) = true then nend sg n (sk sg n k) else sk sg n k + 1) else n
def tTo (k : Nat) : Int32 := if sk sg n k < n then (if numB sg (sk sg n k) = true then tkN sg n (sk sg n k) else sg (sk sg n k)) else -1
def tVa (k : Nat) (va : Int32) : Int32 := if sk sg n k < n then (if numB sg (sk sg n k) = true then nvM sg n (sk sg n k) else va) else va
def vaN (k : Nat) (va : Int32) : Nat → Int32
  | 0 => va
  | j + 1 => tVa sg n (npp sg n k j) (vaN k va j)
def rdN (k : Nat) (rd : SS) : Nat → SS
  | 0 => rd
  | j + 1 => upd (rdN k rd j) j (nval sg n (sk sg n (npp sg n k j)))
def fgB (k : Nat) : Bool := decide (k < n) && dgt (sg k)
end TK
def SgOk (sg : SS) (n : Nat) : Prop := ∀ j, j < n → nat? (sg j) 0 256
section TL
variable {sg : SS} {n : Nat}
theorem fgB_f1 {k : Nat} (h : n ≤ k) : fgB sg n k = false := by simp [fgB, Nat.not_lt.mpr h]
theorem fgB_f2 {k : Nat} (h : dgt (sg k) = false) : fgB sg n k = false := by simp [fgB, h]
theorem fgB_t {k : Nat} (h : k < n) (h2 : dgt (sg k) = true) : fgB sg n k = true := by simp [fgB, h, h2]
theorem fgB_y {k : Nat} (h : fgB sg n k = true) : k < n ∧ dgt (sg k) = true := by simpa [fgB] using h
theorem fgB_n {k : Nat} (h : fgB sg n k = false) : ¬ (k < n ∧ dgt (sg k) = true) := fun q => by rw [fgB_t q.1 q.2] at h; cases h
theorem numB_1 {k : Nat} (h : dgt (sg k) = true) : numB sg k = true := by simp [numB, h]
theorem numB_2 {k : Nat} (h : sg k = 45) : numB sg k = true := by simp [numB, h]
theorem numB_0 {k : Nat} (h : dgt (sg k) = false) (h2 : ¬ sg k = 45) : numB sg k = false := by simp [numB, h, h2]
theorem wf_num {k : Nat} (h : wf sg n k = true) : k < n ∧ numB sg k = true := by
  have h1 := (wf_iff.mp h).1
  rcases hb : bel sg n k with _ | _
  · unfold fm at h1
    rw [fsx_f hb] at h1
    have := fg_pos h1
    exact ⟨this.1, numB_1 this.2⟩
  · have := bel_lt hb
    exact ⟨this.1, numB_2 this.2⟩
theorem tN_e {k : Nat} (h : ¬ sk sg n k < n) : tNx sg n k = n := if_neg h
theorem tT_e {k : Nat} (h : ¬ sk sg n k < n) : tTo sg n k = -1 := if_neg h
theorem tV_e {k : Nat} {va : Int32} (h : ¬ sk sg n k < n) : tVa sg n k va = va := if_neg h
theorem tN_y {k : Nat} (h : sk sg n k < n) (h2 : numB sg (sk sg n k) = true) : tNx sg n k = nend sg n (sk sg n k) := (if_pos h).trans (if_pos h2)
theorem tT_y {k : Nat} (h : sk sg n k < n) (h2 : numB sg (sk sg n k) = true) : tTo sg n k = tkN sg n (sk sg n k) := (if_pos h).trans (if_pos h2)
theorem tV_y {k : Nat} {va : Int32} (h : sk sg n k < n) (h2 : numB sg (sk sg n k) = true) : tVa sg n k va = nvM sg n (sk sg n k) := (if_pos h).trans (if_pos h2)
theorem tN_n {k : Nat} (h : sk sg n k < n) (h2 : numB sg (sk sg n k) = false) : tNx sg n k = sk sg n k + 1 := (if_pos h).trans (if_neg (by rw [h2]; decide))
theorem tT_n {k : Nat} (h : sk sg n k < n) (h2 : numB sg (sk sg n k) = false) : tTo sg n k = sg (sk sg n k) := (if_pos h).trans (if_neg (by rw [h2]; decide))
theorem tV_n {k : Nat} {va : Int32} (h : sk sg n k < n) (h2 : numB sg (sk sg n k) = false) : tVa sg n k va = va := (if_pos h).trans (if_neg (by rw [h2]; decide))
theorem tNx_le {k : Nat} (hk : k ≤ n) : tNx sg n k ≤ n := by
  unfold tNx
  split
  · split
    · exact nend_le (sk_n hk)
    · assumption
  · exact Nat.le_refl _
theorem npp_n {k : Nat} (hk : k ≤ n) : ∀ j, npp sg n k j ≤ n
  | 0 => hk
  | j + 1 => nend_le (sk_n (npp_n hk j))
theorem tkN_t {k : Nat} (h : wf sg n k = true) : tkN sg n k = nI 1000 := if_pos h
theorem tkN_f {k : Nat} (h : wf sg n k = false) : tkN sg n k = nI 1001 := if_neg (by rw [h]; decide)
theorem mv_nv {k : Nat} : ∀ (m : Nat), m ≤ 3 → (∀ j, j < m → dgt (sg (k + j)) = true) → mv sg k m = nv sg k m
  | 0, _, _ => rfl
  | m + 1, hm, hd => by
    have h1 := mv_nv (k := k) m (by omega) (fun j hj => hd j (by omega))
    obtain ⟨v, e1, e2, -⟩ := nv_nat (sg := sg) (k := k) m (by omega) (fun j hj => hd j (by omega))
    have hv : v < 1000 := Nat.lt_of_lt_of_le e2 (by have := Nat.pow_le_pow_right (n := 10) (by decide) (show m ≤ 3 by omega); exact this)
    show (if nI 9999 < mv sg k m then _ else _) = nv sg k m * 10 + sg (k + m) - 48
    rw [h1, if_neg (by rw [e1]; exact nI_nlt (by omega) (by decide)), Int32.mul_comm]; rfl
theorem nvM_w {k : Nat} (h : wf sg n k = true) : nvM sg n k = nval sg n k := by
  unfold nvM nval
  rw [mv_nv (fm sg n k) (wf_iff.mp h).2.1 (fun j hj => (fg_dig j _ hj).2)]
theorem tT_w {k : Nat} (h : wf sg n (sk sg n k) = true) : tTo sg n k = nI 1000 := by
  have := wf_num h
  rw [tT_y this.1 this.2, tkN_t h]
theorem tN_w {k : Nat} (h : wf sg n (sk sg n k) = true) : tNx sg n k = nend sg n (sk sg n k) := by
  have := wf_num h
  exact tN_y this.1 this.2
theorem tV_w {k : Nat} {va : Int32} (h : wf sg n (sk sg n k) = true) : tVa sg n k va = nval sg n (sk sg n k) := by
  have := wf_num h
  rw [tV_y this.1 this.2, nvM_w h]
theorem sg_ne {j x : Nat} (hs : SgOk sg n) (hj : j < n) (hx : 256 ≤ x) (hx2 : x < 2 ^ 31) : ¬ sg j = nI x := by
  obtain ⟨d, -, h2, h3⟩ := hs j hj
  rw [h3, nI_eq (by omega) hx2]; omega
theorem sg_m1 {j : Nat} (hs : SgOk sg n) (hj : j < n) : ¬ sg j = -1 := by
  obtain ⟨d, -, h2, h3⟩ := hs j hj
  rw [h3]; exact nI_m1 (by omega)
theorem tT_wf {k : Nat} (hs : SgOk sg n) (h : tTo sg n k = nI 1000) : wf sg n (sk sg n k) = true := by
  by_cases h1 : sk sg n k < n
  · rcases h2 : numB sg (sk sg n k) with _ | _
    · rw [tT_n h1 h2] at h; exact absurd h (sg_ne hs h1 (by decide) (by decide))
    · rw [tT_y h1 h2] at h
      rcases h3 : wf sg n (sk sg n k) with _ | _
      · rw [tkN_f h3] at h; exact absurd h (by decide)
      · rfl
  · rw [tT_e h1] at h; exact absurd h (by decide)
theorem tT_nw {k : Nat} (hs : SgOk sg n) (h : ¬ tTo sg n k = nI 1000) : wf sg n (sk sg n k) = false := by
  rcases h3 : wf sg n (sk sg n k) with _ | _
  · rfl
  · exact absurd (tT_w h3) h
theorem tkN_c {k x : Nat} (hx : x < 1000) : ¬ tkN sg n k = nI x := by
  unfold tkN
  split
  · rw [nI_eq (by decide) (by omega)]; omega
  · rw [nI_eq (by decide) (by omega)]; omega
theorem tkN_m1 {k : Nat} : ¬ tkN sg n k = -1 := by
  unfold tkN
  split <;> decide
/-- a sign that is no figure and no '-' is its own token -/
theorem tT_c {k x : Nat} (hx : x < 1000) (h : tTo sg n k = nI x) : sk sg n k < n ∧ sg (sk sg n k) = nI x ∧ tNx sg n k = sk sg n k + 1 := by
  by_cases h1 : sk sg n k < n
  · rcases h2 : numB sg (sk sg n k) with _ | _
    · rw [tT_n h1 h2] at h; exact ⟨h1, h, tN_n h1 h2⟩
    · rw [tT_y h1 h2] at h; exact absurd h (tkN_c hx)
  · rw [tT_e h1] at h; exact absurd h.symm (nI_m1 (by omega))
theorem tT_s {k x : Nat} (h1 : sk sg n k < n) (h : sg (sk sg n k) = nI x) (hx : inR (nI x) (nI 48) (nI 57) = false) (h4 : ¬ nI x = 45) : tTo sg n k = nI x := by
  have h2 : numB sg (sk sg n k) = false := numB_0 (by unfold dgt; rw [h]; exact hx) (by rw [h]; exact h4)
  rw [tT_n h1 h2, h]
theorem tT_m {k : Nat} (hs : SgOk sg n) (h : tTo sg n k = -1) : ¬ sk sg n k < n := by
  intro h1
  rcases h2 : numB sg (sk sg n k) with _ | _
  · rw [tT_n h1 h2] at h; exact sg_m1 hs h1 h
  · rw [tT_y h1 h2] at h; exact tkN_m1 h
theorem tT_nm {k : Nat} (h : ¬ tTo sg n k = -1) : sk sg n k < n := by
  by_cases h1 : sk sg n k < n
  · exact h1
  · exact absurd (tT_e h1) h
theorem hcn_t {k : Nat} (h1 : ¬ tTo sg n k = nI 108) (h2 : ¬ tTo sg n k = nI 102) (h3 : ¬ tTo sg n k = nI 99) (hk : sk sg n k < n) : hcn (sg (sk sg n k)) = 0 := by
  refine hcn_0 (fun e => h1 ?_) (fun e => h2 ?_) (fun e => h3 ?_)
  · exact tT_s hk e (by decide) (by decide)
  · exact tT_s hk e (by decide) (by decide)
  · exact tT_s hk e (by decide) (by decide)
/-- the j-th number of those that begin at k stands -/
def okJ (sg : SS) (n : Nat) (lo hi : SS) (k j : Nat) : Bool := rdk sg n (sk sg n (npp sg n k j)) (lo j) (hi j)
def allJ (sg : SS) (n : Nat) (lo hi : SS) (k e : Nat) : Prop := ∀ j, j < e → okJ sg n lo hi k j = true
theorem all_0 {lo hi : SS} {k : Nat} : allJ sg n lo hi k 0 := fun j h => absurd h (Nat.not_lt_zero _)
theorem all_s {lo hi : SS} {k e : Nat} (h : allJ sg n lo hi k e) (h2 : okJ sg n lo hi k e = true) : allJ sg n lo hi k (e + 1) := fun j hj => by
  by_cases q : j = e
  · rw [q]; exact h2
  · exact h j (by omega)
theorem frl_al {lo hi : SS} {k e : Nat} : ∀ (r i : Nat), i + r = e → allJ sg n lo hi k e → frl sg n lo hi r i (npp sg n k i) = frl sg n lo hi 0 e (npp sg n k e)
  | 0, i, h, _ => by rw [show i = e by omega]
  | r + 1, i, h, ha => by
    have h1 := ha i (by omega)
    have e1 : frl sg n lo hi (r + 1) i (npp sg n k i) = frl sg n lo hi r (i + 1) (npp sg n k (i + 1)) := if_pos h1
    rw [e1]; exact frl_al r (i + 1) (by omega) ha
theorem frl_fl {lo hi : SS} {k e : Nat} : ∀ (r i : Nat), i ≤ e → e < i + r → allJ sg n lo hi k e → okJ sg n lo hi k e = false → frl sg n lo hi r i (npp sg n k i) = (false, sk sg n (npp sg n k e))
  | 0, i, h, h2, _, _ => by omega
  | r + 1, i, h, h2, ha, hf => by
    by_cases q : i = e
    · subst q
      exact if_neg (by have : rdk sg n (sk sg n (npp sg n k i)) (lo i) (hi i) = false := hf; rw [this]; decide)
    · have h1 := ha i (by omega)
      have e1 : frl sg n lo hi (r + 1) i (npp sg n k i) = frl sg n lo hi r (i + 1) (npp sg n k (i + 1)) := if_pos h1
      rw [e1]; exact frl_fl r (i + 1) (by omega) (by omega) ha hf
/-- reads, one behind the other: all r of them, or up to the e-th -/
def RS (sg : SS) (n : Nat) (lo hi : SS) (k r e : Nat) (b : Bool) : Prop := (b = true ∧ e = r ∧ allJ sg n lo hi k r) ∨ (b = false ∧ e < r ∧ allJ sg n lo hi k e ∧ okJ sg n lo hi k e = false)
theorem frl_RS {lo hi : SS} {k r e : Nat} {b : Bool} (h : RS sg n lo hi k r e b) (hb : b = false) : frl sg n lo hi r 0 k = (false, sk sg n (npp sg n k e)) := by
  rcases h with h | h
  · rw [h.1] at hb; cases hb
  · exact frl_fl r 0 (Nat.zero_le _) (by omega) h.2.2.1 h.2.2.2
theorem frl_RT {lo hi : SS} {k r e : Nat} {b : Bool} (h : RS sg n lo hi k r e b) (hb : b = true) : e = r ∧ frl sg n lo hi r 0 k = frl sg n lo hi 0 r (npp sg n k r) := by
  rcases h with h | h
  · exact ⟨h.2.1, frl_al r 0 (by omega) h.2.2⟩
  · rw [h.1] at hb; cases hb
theorem rdN_at {k : Nat} {rd : SS} : ∀ (e j : Nat), j < e → rdN sg n k rd e j = nval sg n (sk sg n (npp sg n k j))
  | 0, j, h => absurd h (Nat.not_lt_zero _)
  | e + 1, j, h => by
    show upd (rdN sg n k rd e) e _ j = _
    by_cases q : j = e
    · subst q; exact up_eq
    · rw [up_ne q]; exact rdN_at e j (by omega)
/-- what is known behind an item: whether it stands, how far it was read -/
def RI (sg : SS) (n : Nat) (k e : Nat) : Prop := ((itR sg n k).1 = true → e = hcn (sg k) ∧ tNx sg n (npp sg n (k + 1) e) = (itR sg n k).2) ∧ ((itR sg n k).1 = false → sk sg n (npp sg n (k + 1) e) = (itR sg n k).2)
theorem RI_f {k e r : Nat} {lo hi : SS} {b : Bool} (hit : itR sg n k = frl sg n lo hi r 0 (k + 1)) (h : RS sg n lo hi (k + 1) r e b) (hb : b = false) : (itR sg n k).1 = false ∧ RI sg n k e := by
  have := frl_RS h hb
  rw [← hit] at this
  unfold RI
  exact ⟨by rw [this], fun q => (by rw [this] at q; cases q), fun _ => by rw [this]⟩
theorem RI_n {k e r : Nat} {lo hi : SS} {b : Bool} (hit : itR sg n k = frl sg n lo hi r 0 (k + 1)) (h : RS sg n lo hi (k + 1) r e b) (hb : b = true) (h59 : ¬ tTo sg n (npp sg n (k + 1) e) = nI 59) : (itR sg n k).1 = false ∧ RI sg n k e := by
  obtain ⟨he, hf⟩ := frl_RT h hb
  subst he
  have : frl sg n lo hi 0 e (npp sg n (k + 1) e) = (false, sk sg n (npp sg n (k + 1) e)) := if_neg (fun q => h59 (tT_s q.1 q.2 (by decide) (by decide)))
  rw [← hit, this] at hf
  unfold RI
  exact ⟨by rw [hf], fun q => (by rw [hf] at q; cases q), fun _ => by rw [hf]⟩
theorem RI_y {k e r : Nat} {lo hi : SS} {b : Bool} (hit : itR sg n k = frl sg n lo hi r 0 (k + 1)) (hr : hcn (sg k) = r) (h : RS sg n lo hi (k + 1) r e b) (hb : b = true) (h59 : tTo sg n (npp sg n (k + 1) e) = nI 59) : (itR sg n k).1 = true ∧ RI sg n k e := by
  obtain ⟨he, hf⟩ := frl_RT h hb
  subst he
  obtain ⟨q1, q2, q3⟩ := tT_c (by decide) h59
  have : frl sg n lo hi 0 e (npp sg n (k + 1) e) = (true, sk sg n (npp sg n (k + 1) e) + 1) := if_pos ⟨q1, q2⟩
  rw [← hit, this] at hf
  unfold RI
  exact ⟨by rw [hf], fun q => ⟨hr.symm, by rw [hf, q3]⟩, fun q => by rw [hf] at q; cases q⟩
theorem RI_iv {k e : Nat} {rd : SS} (h : RI sg n k e) (hok : (itR sg n k).1 = true) : ∀ j, j < hcn (sg k) → rdN sg n (k + 1) rd e j = iv sg n k j := fun j hj => by
  rw [rdN_at e j (by have := (h.1 hok).1; omega)]; rfl
end TL
theorem inR_N {j a b : Nat} (hj : j < 2 ^ 31) (ha : a < 2 ^ 31) (hb : b < 2 ^ 31) (h : inR (nI j) (nI a) (nI b) = true) : a ≤ j ∧ j ≤ b := by
  obtain ⟨x, h1, h2, h3⟩ := inR_nat ha hb h
  rw [nI_eq hj (by omega)] at h3
  omega
theorem inR_Nf {j a b : Nat} (hb : b < 2 ^ 31) (h : inR (nI j) (nI a) (nI b) = false) : ¬ (a ≤ j ∧ j ≤ b) := fun q => by
  rw [inR_in q.1 q.2 hb] at h; cases h
abbrev MQx (_D : DX) (M : Nat → Nat) (u m n nx pl it : Nat) (to va : Int32) : va_W := [(M 0, .inr (5, [.ref (M 1), .int (nI u), .ref (M 2), .ref (M 3), .ref (M 4), .ref (M 5), .int (nI m), .ref (M 6), .ref (M 7), .int (nI n), .ref (M 8), .int (nI nx), .int (nI pl), .int to, .int va, .ref (M 9), .int (nI it)]))]
abbrev MT (D : DX) (M : Nat → Nat) (u m n it : Nat) (sg : SS) (k : Nat) (va : Int32) : va_W := MQx D M u m n (tNx sg n k) (sk sg n k) it (tTo sg n k) (tVa sg n k va)
