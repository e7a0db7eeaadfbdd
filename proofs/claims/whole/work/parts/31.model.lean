/-! the reference's own order of doing things -/
abbrev QT : Type := Nat × Nat × Nat × Nat × Nat × Nat × Int32 × Int32
abbrev MO (_D : DX) (M : Nat → Nat) (q : QT) : va_W := [(M 0, .inr (5, [.ref (M 1), .int (nI q.1), .ref (M 2), .ref (M 3), .ref (M 4), .ref (M 5), .int (nI q.2.1), .ref (M 6), .ref (M 7), .int (nI q.2.2.1), .ref (M 8), .int (nI q.2.2.2.1), .int (nI q.2.2.2.2.1), .int q.2.2.2.2.2.2.1, .int q.2.2.2.2.2.2.2, .ref (M 9), .int (nI q.2.2.2.2.2.1)]))]
abbrev AR (D : DX) (a N : Nat) (f : SS) : va_W := [(a, .inl (dI D, N, .inl f))]
abbrev AZ (D : DX) (a N : Nat) (f : SS) : va_W := [(a, .inl (dZ D, N, .inl f))]
theorem eng_hf {s : SS} (h : Inv s) {p : Nat} (hp : p < 24) (h1 : ¬ s (92 + 14 * p) = 1) : eng s p = false := by
  cases he : eng s p with
  | false => rfl
  | true => exact absurd (h.le hp (h.eng_ hp he)).1 h1
def prM (s : SS) (c : Nat) : Int32 := match prs s c with
  | none => -9
  | some p => nI (92 + 14 * p)
theorem prM_t {s : SS} {c : Nat} (h : tc s (pl s c) = true) : prM s c = nI (92 + 14 * pl s c) := by unfold prM; rw [prs_t h]
theorem prM_f {s : SS} {c : Nat} (h : tc s (pl s c) = false) : prM s c = -9 := by unfold prM; rw [prs_f h]
theorem tc_e {s : SS} {p : Nat} (h : eng s p = true) (h2 : gL s p 12 = 0) : tc s p = true := tc_t (of_decide_eq_true h) h2
theorem tc_ef {s : SS} {p : Nat} (h : eng s p = false) : tc s p = false := tc_f1 (of_decide_eq_false h)
theorem ar_p {x : Int32} (h : 0 ≤ x - x / nI 64 * nI 64) : x - x / nI 64 * nI 64 = nI (am x) := by
  by_cases hx : x < 0
  · refine fm_z ?_
    apply Int32.toInt_inj.mp
    have z : (0 : Int32).toInt = 0 := rfl
    rw [Int32.le_iff_toInt_le, rem_toInt, t64, z] at h
    rw [rem_toInt, t64, z]
    rw [Int32.lt_iff_toInt_lt, z] at hx
    have := Int.neg_tmod (a := -x.toInt) (b := 64)
    rw [Int.neg_neg] at this
    rw [this, Int.tmod_eq_emod_of_nonneg (by omega)] at h ⊢
    omega
  · exact fm_p hx
theorem ar_n {x : Int32} (h : ¬ 0 ≤ x - x / nI 64 * nI 64) : x - x / nI 64 * nI 64 + nI 64 = nI (am x) := by
  have z : (0 : Int32).toInt = 0 := rfl
  by_cases hx : x < 0
  · exact fm_n hx (fun e => h (by rw [e]; decide))
  · exfalso
    apply h
    rw [fm_p hx]
    exact nI_pos' (by have := am_lt x; omega)
theorem upd_id {f : SS} {k : Nat} {x : Int32} (h : x = f k) : upd f k x = f := by
  funext j; unfold upd; split
  · rename_i e; rw [e, h]
  · rfl
theorem upd_uu {f : SS} {k : Nat} {x y : Int32} : upd (upd f k x) k y = upd f k y := by
  funext j; unfold upd; split <;> rfl
theorem upd_cm {f : SS} {k i : Nat} {x y : Int32} (h : k ≠ i) : upd (upd f k x) i y = upd (upd f i y) k x := by
  funext j; unfold upd
  by_cases h1 : j = i
  · subst h1; rw [if_pos rfl, if_neg (Ne.symm h), if_pos rfl]
  · rw [if_neg h1]
    by_cases h2 : j = k
    · rw [if_pos h2, if_pos h2]
    · rw [if_neg h2, if_neg h2, if_neg h1]
theorem add0 (x : Int32) : x + nI 0 = x := by show x + 0 = x; exact Int32.add_zero x
/-- the address of a unit hangs on nine numbers of the letter -/
theorem ad_of {s t : SS} {p : Nat} (h : ∀ j, j < 9 → t (93 + 14 * p + j) = s (93 + 14 * p + j)) {k way : Nat} (hw : way < 2) : ad t p k way = ad s p k way := by
  unfold ad nn gL
  rw [h 2 (by decide), h way (by omega), h (6 + way) (by omega), h (3 + way) (by omega)]
theorem caF_s {p : Nat} : ∀ (m k : Nat) (s : SS), caF p (m + 1) k s = upd (caF p m k s) (ad (caF p m k s) p (k + m) 1) (caF p m k s (ad (caF p m k s) p (k + m) 0))
  | 0, _, _ => rfl
  | m + 1, k, s => by
    show caF p (m + 1) (k + 1) _ = _
    rw [caF_s m (k + 1), show k + 1 + m = k + (m + 1) by omega]; rfl
theorem caF_up {p i : Nat} {x : Int32} (hi : 64 ≤ i) (h9 : ∀ j, j < 9 → 93 + 14 * p + j ≠ i) : ∀ (m k : Nat) (s : SS), caF p m k (upd s i x) = upd (caF p m k s) i x
  | 0, _, _ => rfl
  | m + 1, k, s => by
    have e : ∀ w, w < 2 → ad (upd s i x) p k w = ad s p k w := fun w hw => ad_of (fun j hj => up_ne (h9 j hj)) hw
    have l0 := ad_lt s p k 0
    have l1 := ad_lt s p k 1
    show caF p m (k + 1) (upd (upd s i x) (ad (upd s i x) p k 1) ((upd s i x) (ad (upd s i x) p k 0))) = _
    rw [e 1 (by decide), e 0 (by decide), up_ne (by omega), upd_cm (by omega), caF_up hi h9 m (k + 1)]
    rfl
/-- midway: e units of the grant are carried -/
def cst (s : SS) (p e : Nat) : SS := upd (caF p e (un s p - re s p) s) (93 + 14 * p + 11) (nI (re s p - e))
theorem cst_ne {s : SS} {p e k : Nat} (hk : 64 ≤ k) (h : k ≠ 93 + 14 * p + 11) : cst s p e k = s k := by unfold cst; rw [up_ne h, caF_ne _ _ _ hk]
theorem cst_ad {s : SS} {p e k way : Nat} (hw : way < 2) : ad (cst s p e) p k way = ad (caF p e (un s p - re s p) s) p k way := ad_of (fun j hj => up_ne (by omega)) hw
theorem cst_0 {s : SS} {p : Nat} (h : gL s p 11 = nI (re s p)) : cst s p 0 = s := upd_id h.symm
theorem cst_s {s : SS} {p e : Nat} (he : e < re s p) (hr : re s p ≤ un s p) : upd (upd (cst s p e) (ad (cst s p e) p (un s p - (re s p - e)) 1) (cst s p e (ad (cst s p e) p (un s p - (re s p - e)) 0))) (93 + 14 * p + 11) (nI (re s p - e - 1)) = cst s p (e + 1) := by
  have l0 := ad_lt (cst s p e) p (un s p - (re s p - e)) 0
  have l1 := ad_lt (cst s p e) p (un s p - (re s p - e)) 1
  rw [show cst s p (e + 1) = upd (caF p (e + 1) (un s p - re s p) s) (93 + 14 * p + 11) (nI (re s p - (e + 1))) from rfl, caF_s]
  have ek : un s p - re s p + e = un s p - (re s p - e) := by omega
  rw [ek, ← cst_ad (by decide), ← cst_ad (by decide)]
  have ev : cst s p e (ad (cst s p e) p (un s p - (re s p - e)) 0) = caF p e (un s p - re s p) s (ad (cst s p e) p (un s p - (re s p - e)) 0) := up_ne (by omega)
  rw [ev]
  generalize ad (cst s p e) p (un s p - (re s p - e)) 1 = a1 at l1 ⊢
  generalize ad (cst s p e) p (un s p - (re s p - e)) 0 = a0 at l0 ⊢
  rw [show cst s p e = upd (caF p e (un s p - re s p) s) (93 + 14 * p + 11) (nI (re s p - e)) from rfl]
  rw [upd_cm (f := caF p e (un s p - re s p) s) (by omega), upd_uu]
  rfl
theorem mny_a {s : SS} {c : Nat} (h : re s (pl s c) ≤ bu s c) : re s (pl s c) = mny s c := by unfold mny; rw [Nat.min_def]; split <;> omega
theorem mny_b {s : SS} {c : Nat} (h : ¬ re s (pl s c) ≤ bu s c) : bu s c = mny s c := by unfold mny; rw [Nat.min_def]; split <;> omega
/-- the reference's order gives the same -/
theorem gr3_M {s : SS} {c : Nat} (hc : c < 4) (hp : pl s c < 24) : upd (upd (cst s (pl s c) (mny s c)) (64 + 7 * c + 6) (cst s (pl s c) (mny s c) (64 + 7 * c + 6) + nI 1)) 453 (nI c) = gr3 true s c := by
  have e1 : cst s (pl s c) (mny s c) (64 + 7 * c + 6) = s (64 + 7 * c + 6) := cst_ne (by omega) (by omega)
  rw [e1]
  show _ = upd (caF (pl s c) (mny s c) (un s (pl s c) - re s (pl s c)) (upd (upd s 453 (nI c)) (64 + 7 * c + 6) (upd s 453 (nI c) (64 + 7 * c + 6) + 1))) (93 + 14 * pl s c + 11) (nI (re s (pl s c) - mny s c))
  rw [caF_up (by omega) (fun j hj => by omega), caF_up (by omega) (fun j hj => by omega), up_ne (s := s) (by omega : 64 + 7 * c + 6 ≠ 453)]
  unfold cst
  rw [upd_cm (f := caF (pl s c) (mny s c) (un s (pl s c) - re s (pl s c)) s) (k := 93 + 14 * pl s c + 11) (i := 64 + 7 * c + 6) (by omega)]
  rw [upd_cm (f := upd (caF (pl s c) (mny s c) (un s (pl s c) - re s (pl s c)) s) (64 + 7 * c + 6) _) (k := 93 + 14 * pl s c + 11) (i := 453) (by omega)]
  rw [upd_cm (f := caF (pl s c) (mny s c) (un s (pl s c) - re s (pl s c)) s) (k := 64 + 7 * c + 6) (i := 453) (by omega)]
  rfl
/-! the number of ticks may be counted at the end -/
theorem wb1_454 {s : SS} {p : Nat} {x : Int32} (hp : p < 24) : wb1 (upd s 454 x) p = upd (wb1 s p) 454 x := by
  unfold wb1
  rw [upd_cm (k := 454) (i := 93 + 14 * p + 9) (by omega), upd_cm (k := 454) (i := 93 + 14 * p + 10) (by omega), upd_cm (k := 454) (i := 93 + 14 * p + 12) (by omega)]
theorem wbF_454 {s : SS} {p : Nat} {x : Int32} (hp : p < 24) : wbF (upd s 454 x) p = upd (wbF s p) 454 x := by
  unfold wbF wb2
  rw [wb1_454 hp]
  have e8 : gL (upd (wb1 s p) 454 x) p 8 = gL (wb1 s p) p 8 := up_ne (by omega)
  have e5 : gC (upd (wb1 s p) 454 x) (p / 6) 5 = gC (wb1 s p) (p / 6) 5 := up_ne (by omega)
  rw [e8, e5]
  split
  · rw [upd_cm (k := 454) (i := 64 + 7 * (p / 6) + 5) (by omega), upd_cm (k := 454) (i := 428) (by omega)]
  · rw [upd_cm (k := 454) (i := 428) (by omega)]
theorem tk1_454 {s : SS} {x : Int32} (h : Inv s) : tk1 (upd s 454 x) = upd (tk1 s) 454 x := by
  unfold tk1
  rw [up_ne (by decide), show qu (upd s 454 x) = qu s from by unfold qu; rw [up_ne (by decide)]]
  by_cases hq : s 428 = 0
  · rw [if_pos hq, if_pos hq]
  · rw [if_neg hq, if_neg hq, wbF_454 (h.qu_ hq).2.2]
theorem tk_M {s : SS} (h : Inv s) : tk s = upd (tk1 s) 454 (s 454 + 1) := tk1_454 h
theorem tk1_ne {s : SS} (h : Inv s) : tk1 s 454 = s 454 := by
  unfold tk1
  split
  · rfl
  · rename_i q
    have := (h.qu_ q).2.2
    unfold wbF
    rw [up_ne (by decide), wb2_ne ⟨by omega, by omega, by omega, by omega⟩]
theorem tkW_M {s : SS} (h : Inv s) : tkW s = who (tk1 s) := by unfold tkW; rw [tk_M h]; exact who_454
theorem re_454 {s : SS} {p : Nat} {x : Int32} (hp : p < 24) : re (upd s 454 x) p = re s p := re_up (by omega)
theorem gr_454 {s : SS} {c : Nat} {x : Int32} (hc : c < 4) (hp : pl s c < 24) : grF true (upd s 454 x) c = upd (grF true s c) 454 x := by
  have e1 : pl (upd s 454 x) c = pl s c := pl_up (by omega)
  have e2 : re (upd s 454 x) (pl s c) = re s (pl s c) := re_454 hp
  have e3 : mny (upd s 454 x) c = mny s c := by unfold mny; rw [e1, e2, bu_up (by omega)]
  have e4 : un (upd s 454 x) (pl s c) = un s (pl s c) := un_up (by omega) (by omega)
  have e5 : gr1 (upd s 454 x) c = upd (gr1 s c) 454 x := by
    unfold gr1 gC
    rw [upd_cm (k := 454) (i := 453) (by omega), up_ne (by omega), upd_cm (k := 454) (i := 64 + 7 * c + 6) (by omega)]
  have e6 : gr3 true (upd s 454 x) c = upd (gr3 true s c) 454 x := by
    show upd (caF (pl (upd s 454 x) c) (mny (upd s 454 x) c) (un (upd s 454 x) (pl (upd s 454 x) c) - re (upd s 454 x) (pl (upd s 454 x) c)) (gr1 (upd s 454 x) c)) (93 + 14 * pl (upd s 454 x) c + 11) (nI (re (upd s 454 x) (pl (upd s 454 x) c) - mny (upd s 454 x) c)) = _
    rw [e1, e2, e3, e4, e5, caF_up (by omega) (fun j hj => by omega), upd_cm (k := 454) (i := 93 + 14 * pl s c + 11) (by omega)]
    rfl
  unfold grF
  rw [e1, e2, e3, e6]
  split
  · unfold wtF
    rw [hd_up (by omega), upd_cm (k := 454) (i := 93 + 14 * pl s c + 12) (by omega), upd_cm (k := 454) (i := 429) (by omega), upd_cm (k := 454) (i := 428) (by omega), upd_cm (k := 454) (i := 64 + 7 * c + 4) (by omega)]
  · rfl
theorem grF_ne {s : SS} {c : Nat} (hc : c < 4) (hp : pl s c < 24) : grF true s c 454 = s 454 := by
  unfold grF
  split
  · unfold wtF; rw [up_ne (by omega), up_ne (by omega), up_ne (by omega), up_ne (by omega), gr3_ne ⟨by omega, by omega, by omega⟩ (by omega)]
  · exact gr3_ne ⟨by omega, by omega, by omega⟩ (by omega)
theorem tkF_Mn {s : SS} (h : Inv s) (hw : who (tk1 s) = none) : tkF true s = upd (tk1 s) 454 (tk1 s 454 + nI 1) := by
  rw [tkF_n (by rw [tkW_M h]; exact hw), tk_M h, tk1_ne h]; rfl
theorem tkF_Ms {s : SS} {c : Nat} (h : Inv s) (hw : who (tk1 s) = some c) : tkF true s = upd (grF true (tk1 s) c) 454 (grF true (tk1 s) c 454 + nI 1) := by
  have hc := who_lt hw
  have hp := (Inv_tk1 h).pl_ hc
  rw [tkF_s (by rw [tkW_M h]; exact hw), tk_M h, gr_454 hc hp, grF_ne hc hp, tk1_ne h]; rfl
