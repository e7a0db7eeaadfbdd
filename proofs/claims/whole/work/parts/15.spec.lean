/-! what is changed: written back, granted, a tick; and that it keeps what holds -/
theorem ChOk_up {s : SS} {k c : Nat} {x : Int32} (h : ∀ j, j < 5 → 64 + 7 * c + j ≠ k) (hs : ChOk s c) : ChOk (upd s k x) c := by
  unfold ChOk gC at *
  rw [up_ne (h 0 (by decide)), up_ne (h 1 (by decide)), up_ne (h 2 (by decide)), up_ne (h 3 (by decide)), up_ne (h 4 (by decide))]
  exact hs
theorem nn_up {s : SS} {k p : Nat} {x : Int32} (h : 93 + 14 * p + 2 ≠ k) : nn (upd s k x) p = nn s p := by unfold nn gL; rw [up_ne h]
theorem rr_up {s : SS} {k p : Nat} {x : Int32} (h : 93 + 14 * p + 5 ≠ k) : rr (upd s k x) p = rr s p := by unfold rr gL; rw [up_ne h]
theorem re_up {s : SS} {k p : Nat} {x : Int32} (h : 93 + 14 * p + 11 ≠ k) : re (upd s k x) p = re s p := by unfold re gL; rw [up_ne h]
theorem un_up {s : SS} {k p : Nat} {x : Int32} (h : 93 + 14 * p + 2 ≠ k) (h2 : 93 + 14 * p + 5 ≠ k) : un (upd s k x) p = un s p := by unfold un; rw [nn_up h, rr_up h2]
theorem hd_up {s : SS} {k c : Nat} {x : Int32} (h : 64 + 7 * c + 4 ≠ k) : hd (upd s k x) c = hd s c := by unfold hd gC; rw [up_ne h]
theorem bu_up {s : SS} {k c : Nat} {x : Int32} (h : 64 + 7 * c + 2 ≠ k) : bu (upd s k x) c = bu s c := by unfold bu gC; rw [up_ne h]
theorem pl_up {s : SS} {k c : Nat} {x : Int32} (h : 64 + 7 * c + 4 ≠ k) : pl (upd s k x) c = pl s c := by unfold pl; rw [hd_up h]
theorem tc_up {s : SS} {k p : Nat} {x : Int32} (h : 93 + 14 * p + 9 ≠ k) (h2 : 93 + 14 * p + 12 ≠ k) : tc (upd s k x) p = tc s p := by unfold tc gL; rw [up_ne h, up_ne h2]
theorem eng_up {s : SS} {k p : Nat} {x : Int32} (h : 93 + 14 * p + 9 ≠ k) : eng (upd s k x) p = eng s p := by unfold eng gL; rw [up_ne h]
theorem LeOk_up {s : SS} {k p : Nat} {x : Int32} (h : 92 + 14 * p ≠ k ∧ 93 + 14 * p + 2 ≠ k ∧ 93 + 14 * p + 5 ≠ k ∧ 93 + 14 * p + 9 ≠ k ∧ 93 + 14 * p + 11 ≠ k) (hs : LeOk s p) : LeOk (upd s k x) p := by
  unfold LeOk gL at *
  rw [un_up h.2.1 h.2.2.1, up_ne h.1, up_ne h.2.1, up_ne h.2.2.1, up_ne h.2.2.2.1, up_ne h.2.2.2.2]
  exact hs
/-- the owner of a letter that is there may be anyone -/
theorem LeOk_ow {s : SS} {p : Nat} {x : Int32} (hs : LeOk s p) (hh : s (92 + 14 * p) ≠ 0) : LeOk (upd s (93 + 14 * p + 9) x) p := by
  rcases hs with q | q
  · exact absurd q.1 hh
  · refine Or.inr ?_
    unfold gL at *
    rw [un_up (by omega) (by omega), up_ne (by omega), up_ne (by omega), up_ne (by omega), up_ne (by omega)]
    exact q
theorem LeOk_re {s : SS} {p e : Nat} (hs : LeOk s p) (hh : s (92 + 14 * p) ≠ 0) (he : e ≤ un s p) : LeOk (upd s (93 + 14 * p + 11) (nI e)) p := by
  rcases hs with q | q
  · exact absurd q.1 hh
  · refine Or.inr ?_
    unfold gL at *
    rw [un_up (by omega) (by omega), up_ne (by omega), up_ne (by omega), up_ne (by omega), up_eq]
    exact ⟨q.1, q.2.1, q.2.2.1, e, Nat.zero_le _, by omega, rfl⟩
def freeK (k : Nat) : Prop := (∀ c, c < 4 → ∀ j, j < 5 → 64 + 7 * c + j ≠ k) ∧ (∀ p, p < 24 → 92 + 14 * p ≠ k ∧ 93 + 14 * p + 2 ≠ k ∧ 93 + 14 * p + 5 ≠ k ∧ 93 + 14 * p + 9 ≠ k ∧ 93 + 14 * p + 11 ≠ k) ∧ k ≠ 428 ∧ k ≠ 429 ∧ k ≠ 453
theorem Inv_free {s : SS} {k : Nat} {x : Int32} (h : Inv s) (hk : freeK k) : Inv (upd s k x) := by
  refine ⟨fun c hc => ChOk_up (hk.1 c hc) (h.1 c hc), fun p hp => LeOk_up (hk.2.1 p hp) (h.2.1 p hp), ?_, ?_⟩
  · rw [up_ne (Ne.symm hk.2.2.1), up_ne (Ne.symm hk.2.2.2.1)]; exact h.2.2.1
  · rw [up_ne (Ne.symm hk.2.2.2.2)]; exact h.2.2.2
theorem fr_mem {k : Nat} (h : k < 64) : freeK k := ⟨fun c hc j hj => by omega, fun p hp => by omega, by omega, by omega, by omega⟩
theorem fr_ch {c j : Nat} (hc : c < 4) (hj : 5 ≤ j) (hj2 : j < 7) : freeK (64 + 7 * c + j) := ⟨fun d hd i hi => by omega, fun p hp => by omega, by omega, by omega, by omega⟩
theorem fr_le {p j : Nat} (hp : p < 24) (hj : j < 13) (h : j ≠ 2 ∧ j ≠ 5 ∧ j ≠ 9 ∧ j ≠ 11) : freeK (93 + 14 * p + j) := ⟨fun d hd i hi => by omega, fun q hq => by omega, by omega, by omega, by omega⟩
theorem fr_454 : freeK 454 := ⟨fun d hd i hi => by omega, fun q hq => by omega, by omega, by omega, by omega⟩
theorem Inv_L {s : SS} {p j : Nat} {x : Int32} (h : Inv s) (hp : p < 24) (hj : j < 13) (hn : LeOk (upd s (93 + 14 * p + j) x) p) : Inv (upd s (93 + 14 * p + j) x) := by
  refine ⟨fun c hc => ChOk_up (fun i hi => by omega) (h.1 c hc), fun q hq => ?_, ?_, ?_⟩
  · by_cases e : q = p
    · subst e; exact hn
    · exact LeOk_up (by omega) (h.2.1 q hq)
  · rw [up_ne (by omega), up_ne (by omega)]; exact h.2.2.1
  · rw [up_ne (by omega)]; exact h.2.2.2
theorem Inv_C {s : SS} {c j : Nat} {x : Int32} (h : Inv s) (hc : c < 4) (hj : j < 7) (hn : ChOk (upd s (64 + 7 * c + j) x) c) : Inv (upd s (64 + 7 * c + j) x) := by
  refine ⟨fun d hd => ?_, fun q hq => LeOk_up (by omega) (h.2.1 q hq), ?_, ?_⟩
  · by_cases e : d = c
    · subst e; exact hn
    · exact ChOk_up (fun i hi => by omega) (h.1 d hd)
  · rw [up_ne (by omega), up_ne (by omega)]; exact h.2.2.1
  · rw [up_ne (by omega)]; exact h.2.2.2
theorem Inv_l {s : SS} {c : Nat} (h : Inv s) (hc : c < 4) : Inv (upd s 453 (nI c)) := by
  refine ⟨fun d hd => ChOk_up (fun i hi => by omega) (h.1 d hd), fun q hq => LeOk_up (by omega) (h.2.1 q hq), ?_, ?_⟩
  · rw [up_ne (by omega), up_ne (by omega)]; exact h.2.2.1
  · rw [up_eq]; exact ⟨c, Nat.zero_le _, hc, rfl⟩
theorem Inv_q0 {s : SS} (h : Inv s) : Inv (upd s 428 0) := by
  refine ⟨fun d hd => ChOk_up (fun i hi => by omega) (h.1 d hd), fun q hq => LeOk_up (by omega) (h.2.1 q hq), Or.inl up_eq, ?_⟩
  rw [up_ne (by omega)]; exact h.2.2.2
theorem Inv_q1 {s : SS} {p : Nat} (h : Inv s) (hp : p < 24) : Inv (upd (upd s 429 (nI p)) 428 1) := by
  refine ⟨fun d hd => ChOk_up (fun i hi => by omega) (ChOk_up (fun i hi => by omega) (h.1 d hd)), fun q hq => LeOk_up (by omega) (LeOk_up (by omega) (h.2.1 q hq)), Or.inr ⟨up_eq, ?_⟩, ?_⟩
  · rw [up_ne (by omega), up_eq]; exact ⟨p, Nat.zero_le _, hp, rfl⟩
  · rw [up_ne (by omega), up_ne (by omega)]; exact h.2.2.2
theorem Inv_h {s : SS} {c i : Nat} (h : Inv s) (hc : c < 4) (hi : i < 6) : Inv (upd s (64 + 7 * c + 4) (nI i)) := by
  refine Inv_C h hc (by decide) ?_
  have q := h.1 c hc
  unfold ChOk gC at *
  rw [up_ne (by omega), up_ne (by omega), up_ne (by omega), up_ne (by omega), up_eq]
  exact ⟨q.1, q.2.1, q.2.2.1, q.2.2.2.1, i, Nat.zero_le _, hi, rfl⟩
/-- written back -/
def wb1 (s : SS) (p : Nat) : SS := upd (upd (upd s (93 + 14 * p + 9) 0) (93 + 14 * p + 10) 1) (93 + 14 * p + 12) 0
def wb2 (s : SS) (p : Nat) : SS := if gL (wb1 s p) p 8 = 0 then upd (wb1 s p) (64 + 7 * (p / 6) + 5) (gC (wb1 s p) (p / 6) 5 + 1) else wb1 s p
def wbF (s : SS) (p : Nat) : SS := upd (wb2 s p) 428 0
theorem wb1_ne {s : SS} {p k : Nat} (h : k ≠ 93 + 14 * p + 9 ∧ k ≠ 93 + 14 * p + 10 ∧ k ≠ 93 + 14 * p + 12) : wb1 s p k = s k := by unfold wb1; rw [up_ne h.2.2, up_ne h.2.1, up_ne h.1]
theorem wb2_ne {s : SS} {p k : Nat} (h : k ≠ 93 + 14 * p + 9 ∧ k ≠ 93 + 14 * p + 10 ∧ k ≠ 93 + 14 * p + 12 ∧ k ≠ 64 + 7 * (p / 6) + 5) : wb2 s p k = s k := by
  unfold wb2
  split
  · rw [up_ne h.2.2.2]; exact wb1_ne ⟨h.1, h.2.1, h.2.2.1⟩
  · exact wb1_ne ⟨h.1, h.2.1, h.2.2.1⟩
theorem Inv_wb1 {s : SS} {p : Nat} (h : Inv s) (hp : p < 24) : Inv (wb1 s p) := by
  unfold wb1
  refine Inv_free (Inv_free ?_ (fr_le hp (by decide) (by decide))) (fr_le hp (by decide) (by decide))
  refine Inv_L h hp (by decide) ?_
  rcases h.2.1 p hp with q | q
  · refine Or.inl ?_
    unfold gL at *
    rw [up_ne (by omega), up_ne (by omega), up_eq]
    exact ⟨q.1, q.2.1, rfl⟩
  · exact LeOk_ow (Or.inr q) (by rw [q.1]; decide)
theorem Inv_wb2 {s : SS} {p : Nat} (h : Inv s) (hp : p < 24) : Inv (wb2 s p) := by
  unfold wb2
  split
  · exact Inv_free (Inv_wb1 h hp) (fr_ch (by omega) (by decide) (by decide))
  · exact Inv_wb1 h hp
theorem Inv_wb {s : SS} {p : Nat} (h : Inv s) (hp : p < 24) : Inv (wbF s p) := Inv_q0 (Inv_wb2 h hp)
/-- bytes carried -/
def caF (p : Nat) : Nat → Nat → SS → SS
  | 0, _, s => s
  | m + 1, k, s => caF p m (k + 1) (upd s (ad s p k 1) (s (ad s p k 0)))
theorem caF_ne {p : Nat} : ∀ (m k : Nat) (s : SS) {j : Nat}, 64 ≤ j → caF p m k s j = s j
  | 0, _, _, _, _ => rfl
  | m + 1, k, s, j, h => by
    show caF p m (k + 1) _ j = s j
    rw [caF_ne m (k + 1) _ h, up_ne (by have := ad_lt s p k 1; omega)]
theorem Inv_ca {p : Nat} : ∀ (m k : Nat) {s : SS}, Inv s → Inv (caF p m k s)
  | 0, _, _, h => h
  | m + 1, k, s, h => Inv_ca m (k + 1) (Inv_free h (fr_mem (ad_lt s p k 1)))
def gr1 (s : SS) (c : Nat) : SS := upd (upd s 453 (nI c)) (64 + 7 * c + 6) (gC (upd s 453 (nI c)) c 6 + 1)
def mny (s : SS) (c : Nat) : Nat := min (bu s c) (re s (pl s c))
def gr2 (b : Bool) (s : SS) (c : Nat) : SS := if b then caF (pl s c) (mny s c) (un s (pl s c) - re s (pl s c)) (gr1 s c) else gr1 s c
def gr3 (b : Bool) (s : SS) (c : Nat) : SS := upd (gr2 b s c) (93 + 14 * pl s c + 11) (nI (re s (pl s c) - mny s c))
def wtF (s : SS) (c p : Nat) : SS := upd (upd (upd (upd s (93 + 14 * p + 12) 1) 429 (nI p)) 428 1) (64 + 7 * c + 4) (nI ((hd s c + 1) % 6))
def grF (b : Bool) (s : SS) (c : Nat) : SS := if re s (pl s c) = mny s c then wtF (gr3 b s c) c (pl s c) else gr3 b s c
theorem gr1_ne {s : SS} {c k : Nat} (h : k ≠ 453 ∧ k ≠ 64 + 7 * c + 6) : gr1 s c k = s k := by unfold gr1; rw [up_ne h.2, up_ne h.1]
theorem gr2_ne {b : Bool} {s : SS} {c k : Nat} (h : k ≠ 453 ∧ k ≠ 64 + 7 * c + 6) (h2 : 64 ≤ k) : gr2 b s c k = s k := by
  unfold gr2
  split
  · rw [caF_ne _ _ _ h2]; exact gr1_ne h
  · exact gr1_ne h
theorem gr3_ne {b : Bool} {s : SS} {c k : Nat} (h : k ≠ 453 ∧ k ≠ 64 + 7 * c + 6 ∧ k ≠ 93 + 14 * pl s c + 11) (h2 : 64 ≤ k) : gr3 b s c k = s k := by
  unfold gr3
  rw [up_ne h.2.2]; exact gr2_ne ⟨h.1, h.2.1⟩ h2
theorem Inv_gr1 {s : SS} {c : Nat} (h : Inv s) (hc : c < 4) : Inv (gr1 s c) := Inv_free (Inv_l h hc) (fr_ch hc (by decide) (by decide))
theorem Inv_gr2 {b : Bool} {s : SS} {c : Nat} (h : Inv s) (hc : c < 4) : Inv (gr2 b s c) := by
  unfold gr2
  split
  · exact Inv_ca _ _ (Inv_gr1 h hc)
  · exact Inv_gr1 h hc
theorem un_of {s t : SS} {p : Nat} (h : ∀ k, 93 ≤ k → k < 428 → t k = s k) (hp : p < 24) : un t p = un s p := by unfold un nn rr gL; rw [h _ (by omega) (by omega), h _ (by omega) (by omega)]
theorem Inv_gr3 {b : Bool} {s : SS} {c : Nat} (h : Inv s) (hc : c < 4) (ht : tc s (pl s c) = true) : Inv (gr3 b s c) := by
  have hp := h.pl_ hc
  have hle := h.le hp (h.tc_ hp ht)
  have h2 : ∀ k, 93 ≤ k → k < 428 → gr2 b s c k = s k := fun k h1 h2 => gr2_ne ⟨by omega, by omega⟩ (by omega)
  refine Inv_L (Inv_gr2 h hc) hp (by decide) (LeOk_re ((Inv_gr2 h hc).2.1 _ hp) ?_ ?_)
  · rw [gr2_ne ⟨by omega, by omega⟩ (by omega), hle.1]; decide
  · rw [un_of h2 hp]; have := hle.2.2.2.2; omega
theorem hd_gr3 {b : Bool} {s : SS} {c : Nat} (hc : c < 4) : hd (gr3 b s c) c = hd s c := by
  unfold hd gC; rw [gr3_ne ⟨by omega, by omega, by omega⟩ (by omega)]
theorem Inv_wt {s : SS} {c p : Nat} (h : Inv s) (hc : c < 4) (hp : p < 24) : Inv (wtF s c p) := by
  unfold wtF
  exact Inv_h (Inv_q1 (Inv_free h (fr_le hp (by decide) (by decide))) hp) hc (Nat.mod_lt _ (by decide))
theorem Inv_gr {b : Bool} {s : SS} {c : Nat} (h : Inv s) (hc : c < 4) (ht : tc s (pl s c) = true) : Inv (grF b s c) := by
  unfold grF
  split
  · exact Inv_wt (Inv_gr3 h hc ht) hc (h.pl_ hc)
  · exact Inv_gr3 h hc ht
/-- a tick -/
def tk0 (s : SS) : SS := upd s 454 (s 454 + 1)
def tk1 (s : SS) : SS := if s 428 = 0 then s else wbF s (qu s)
def tk (s : SS) : SS := tk1 (tk0 s)
def tkW (s : SS) : Option Nat := who (tk s)
def tkF (b : Bool) (s : SS) : SS := match tkW s with
  | none => tk s
  | some c => grF b (tk s) c
theorem Inv.qu_ {s : SS} (h : Inv s) (hq : ¬ s 428 = 0) : s 428 = 1 ∧ s 429 = nI (qu s) ∧ qu s < 24 := by
  have q := h.2.2.1.resolve_left hq
  have := q.2.to (by decide)
  exact ⟨q.1, this.1, this.2.2⟩
theorem Inv_tk0 {s : SS} (h : Inv s) : Inv (tk0 s) := Inv_free h fr_454
theorem Inv_tk1 {s : SS} (h : Inv s) : Inv (tk1 s) := by
  unfold tk1
  split
  · exact h
  · rename_i q; exact Inv_wb h (h.qu_ q).2.2
theorem Inv_tk {s : SS} (h : Inv s) : Inv (tk s) := Inv_tk1 (Inv_tk0 h)
theorem tk_q {s : SS} : tk s 428 = 0 := by
  unfold tk tk1
  split
  · assumption
  · exact up_eq
theorem who_lt {s : SS} {c : Nat} (h : who s = some c) : c < 4 := whoN_lt s 4 c h
theorem who_tc {s : SS} {c : Nat} (h : who s = some c) : tc s (pl s c) = true := by
  have := whoN_rdy s 4 c h
  unfold rdy at this
  simp only [Bool.and_eq_true] at this
  exact this.1
theorem Inv_tF {b : Bool} {s : SS} (h : Inv s) : Inv (tkF b s) := by
  unfold tkF
  split
  · exact Inv_tk h
  · rename_i c q; exact Inv_gr (Inv_tk h) (who_lt q) (who_tc q)
