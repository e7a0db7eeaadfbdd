/-! history, sightings, and what many ticks come to -/
abbrev HO (D : DX) (Y : Nat → Nat) (P : Nat → Nat → Nat) (nw kn : Nat) : va_W := [(Y 0, .inr (1, [.ref (Y 1), .int (nI nw), .int (nI kn)])), (Y 1, .inl (dE D, 6, .inr (.inr (.inr (.inr (fun i => some (P i 0)))))))]
def hup (h : Nat → SS) (j : Nat) (s : SS) : Nat → SS := fun i => if i = j then s else h i
abbrev ZW (D : DX) (Z : Nat → Nat) (tk wh : SS) (m : Nat) : va_W := [(Z 0, .inr (2, [.ref (Z 1), .ref (Z 2), .int (nI m)])), (Z 1, .inl (dI D, 6, .inl tk)), (Z 2, .inl (dI D, 6, .inl wh))]
def itk (b : Bool) (s : SS) : Nat → SS
  | 0 => s
  | j + 1 => tkF b (itk b s j)
theorem Inv_it {b : Bool} {s : SS} (h : Inv s) : ∀ j, Inv (itk b s j)
  | 0 => h
  | j + 1 => Inv_tF (Inv_it h j)
/-! who is granted does not hang on the bytes -/
def eqv (s t : SS) : Prop := ∀ k, 64 ≤ k → s k = t k
theorem eqv.rf {s : SS} : eqv s s := fun _ _ => rfl
theorem eqv.up {s t : SS} (h : eqv s t) {k : Nat} {x : Int32} : eqv (upd s k x) (upd t k x) := by
  intro j hj; unfold upd; split
  · rfl
  · exact h j hj
theorem eq_hd {s t : SS} (h : eqv s t) {c : Nat} : hd s c = hd t c := by unfold hd gC; rw [h _ (by omega)]
theorem eq_bu {s t : SS} (h : eqv s t) {c : Nat} : bu s c = bu t c := by unfold bu gC; rw [h _ (by omega)]
theorem eq_nn {s t : SS} (h : eqv s t) {p : Nat} : nn s p = nn t p := by unfold nn gL; rw [h _ (by omega)]
theorem eq_rr {s t : SS} (h : eqv s t) {p : Nat} : rr s p = rr t p := by unfold rr gL; rw [h _ (by omega)]
theorem eq_re {s t : SS} (h : eqv s t) {p : Nat} : re s p = re t p := by unfold re gL; rw [h _ (by omega)]
theorem eq_tc {s t : SS} (h : eqv s t) {p : Nat} : tc s p = tc t p := by unfold tc gL; rw [h _ (by omega), h _ (by omega)]
theorem eq_eng {s t : SS} (h : eqv s t) {p : Nat} : eng s p = eng t p := by unfold eng gL; rw [h _ (by omega)]
theorem eq_un {s t : SS} (h : eqv s t) {p : Nat} : un s p = un t p := by unfold un; rw [eq_nn h, eq_rr h]
theorem eq_pl {s t : SS} (h : eqv s t) {c : Nat} : pl s c = pl t c := by unfold pl; rw [eq_hd h]
theorem eq_rdy {s t : SS} (h : eqv s t) {c : Nat} : rdy s c = rdy t c := by unfold rdy gC; rw [eq_pl h, eq_tc h, h _ (by omega)]
theorem eq_lst {s t : SS} (h : eqv s t) : lst s = lst t := by unfold lst; rw [h _ (by omega)]
theorem eq_qu {s t : SS} (h : eqv s t) : qu s = qu t := by unfold qu; rw [h _ (by omega)]
theorem eq_wst {s t : SS} (h : eqv s t) {b : Option Nat} {c : Nat} : wst s b c = wst t b c := by
  unfold wst wok
  rw [eq_rdy h]
  cases b with
  | none => rfl
  | some d => simp only [gC, h (64 + 7 * d + 1) (by omega), h (64 + 7 * c + 1) (by omega)]
theorem eq_whoN {s t : SS} (h : eqv s t) : ∀ i, whoN s i = whoN t i
  | 0 => rfl
  | i + 1 => by show wst s (whoN s i) _ = wst t (whoN t i) _; rw [eq_whoN h i, eq_wst h, eq_lst h]
theorem eq_who {s t : SS} (h : eqv s t) : who s = who t := eq_whoN h 4
theorem eq_elo {s t : SS} (h : eqv s t) {c : Nat} : elo s c = elo t c := by
  unfold elo
  rw [show (fun j => eng s (c * 6 + j)) = fun j => eng t (c * 6 + j) from funext fun j => eq_eng h]
theorem eq_wb1 {s t : SS} (h : eqv s t) {p : Nat} : eqv (wb1 s p) (wb1 t p) := h.up.up.up
theorem eq_wb2 {s t : SS} (h : eqv s t) {p : Nat} : eqv (wb2 s p) (wb2 t p) := by
  have h1 := eq_wb1 h (p := p)
  unfold wb2 gL gC
  rw [h1 (93 + 14 * p + 8) (by omega), h1 (64 + 7 * (p / 6) + 5) (by omega)]
  split
  · exact h1.up
  · exact h1
theorem eq_wb {s t : SS} (h : eqv s t) {p : Nat} : eqv (wbF s p) (wbF t p) := (eq_wb2 h).up
theorem eq_tk {s t : SS} (h : eqv s t) : eqv (tk s) (tk t) := by
  have h0 : eqv (tk0 s) (tk0 t) := by unfold tk0; rw [h 454 (by omega)]; exact h.up
  unfold tk tk1
  rw [h0 428 (by omega), eq_qu h0]
  split
  · exact h0
  · exact eq_wb h0
theorem eqv.tr {s t u : SS} (h : eqv s t) (h2 : eqv t u) : eqv s u := fun k hk => (h k hk).trans (h2 k hk)
theorem eqv.sy {s t : SS} (h : eqv s t) : eqv t s := fun k hk => (h k hk).symm
theorem eq_ca {p : Nat} (m k : Nat) (s : SS) : eqv (caF p m k s) s := fun _ hj => caF_ne m k s hj
theorem eq_gr1 {s t : SS} (h : eqv s t) {c : Nat} : eqv (gr1 s c) (gr1 t c) := by
  have h1 : eqv (upd s 453 (nI c)) (upd t 453 (nI c)) := h.up
  unfold gr1 gC
  rw [h1 (64 + 7 * c + 6) (by omega)]
  exact h1.up
theorem eq_gr2 {b d : Bool} {s t : SS} (h : eqv s t) {c : Nat} : eqv (gr2 b s c) (gr2 d t c) := by
  have g : ∀ (e : Bool) (u : SS), eqv (gr2 e u c) (gr1 u c) := by
    intro e u
    unfold gr2
    split
    · exact eq_ca _ _ _
    · exact eqv.rf
  exact (g b s).tr ((eq_gr1 h).tr (g d t).sy)
theorem eq_mny {s t : SS} (h : eqv s t) {c : Nat} : mny s c = mny t c := by unfold mny; rw [eq_bu h, eq_pl h, eq_re h]
theorem eq_gr3 {b d : Bool} {s t : SS} (h : eqv s t) {c : Nat} : eqv (gr3 b s c) (gr3 d t c) := by
  unfold gr3
  rw [eq_pl h, eq_re h, eq_mny h]
  exact (eq_gr2 h).up
theorem eq_wt {s t : SS} (h : eqv s t) {c p : Nat} : eqv (wtF s c p) (wtF t c p) := by
  unfold wtF
  rw [eq_hd h]
  exact h.up.up.up.up
theorem eq_gr {b d : Bool} {s t : SS} (h : eqv s t) {c : Nat} : eqv (grF b s c) (grF d t c) := by
  unfold grF
  rw [eq_pl h, eq_re h, eq_mny h]
  split
  · exact eq_wt (eq_gr3 h)
  · exact eq_gr3 h
theorem eq_tkW {s t : SS} (h : eqv s t) : tkW s = tkW t := eq_who (eq_tk h)
theorem eq_tkF {b d : Bool} {s t : SS} (h : eqv s t) : eqv (tkF b s) (tkF d t) := by
  unfold tkF
  rw [eq_tkW h]
  split
  · exact eq_tk h
  · exact eq_gr (eq_tk h)
theorem eq_it {b d : Bool} {s t : SS} (h : eqv s t) : ∀ j, eqv (itk b s j) (itk d t j)
  | 0 => h
  | j + 1 => eq_tkF (eq_it h j)
/-! counts and firsts -/
def gcn (s : SS) : Nat → Nat
  | 0 => 0
  | j + 1 => gcn s j + (if tkW (itk true s j) = none then 0 else 1)
theorem gcn_n {s : SS} {j : Nat} (h : tkW (itk true s j) = none) : gcn s (j + 1) = gcn s j := by show _ + (if _ then _ else _) = _; rw [if_pos h]; rfl
theorem gcn_s {s : SS} {j : Nat} (h : ¬ tkW (itk true s j) = none) : gcn s (j + 1) = gcn s j + 1 := by show _ + (if _ then _ else _) = _; rw [if_neg h]
theorem gcn_le (s : SS) : ∀ j, gcn s j ≤ j
  | 0 => Nat.le_refl _
  | j + 1 => by have := gcn_le s j; unfold gcn; split <;> omega
def fsN (f : Nat → Bool) : Nat → Nat → Option Nat
  | 0, _ => none
  | r + 1, j => if f j = true then some j else fsN f r (j + 1)
theorem fsN_t {f : Nat → Bool} {r j : Nat} (h : f j = true) : fsN f (r + 1) j = some j := if_pos h
theorem fsN_f {f : Nat → Bool} {r j : Nat} (h : f j = false) : fsN f (r + 1) j = fsN f r (j + 1) := if_neg (by rw [h]; decide)
theorem fsN_none {f : Nat → Bool} : ∀ (r j : Nat), (∀ i, j ≤ i → f i = false) → fsN f r j = none
  | 0, _, _ => rfl
  | r + 1, j, h => by rw [fsN_f (h j (Nat.le_refl j))]; exact fsN_none r (j + 1) (fun i hi => h i (by omega))
theorem fsN_cong {f g : Nat → Bool} : ∀ (r j : Nat), (∀ i, f i = g i) → fsN f r j = fsN g r j
  | 0, _, _ => rfl
  | r + 1, j, h => by unfold fsN; rw [h j, fsN_cong r (j + 1) h]
/-- over: the first number of ticks behind which the channel has nothing of the engine's -/
def ovP (b : Bool) (s : SS) (c : Nat) : Nat → Bool := fun j => decide (elo (itk b s j) c = 0)
def ovF (b : Bool) (s : SS) (c most : Nat) : Option Nat := fsN (ovP b s c) (most + 1) 0
theorem ovP_eq {s : SS} {c : Nat} (j : Nat) : ovP false s c j = ovP true s c j := by unfold ovP; rw [eq_elo (eq_it (b := false) (d := true) (s := s) eqv.rf j)]
/-- the number of ticks is looked at by nobody -/
theorem rdy_454 {s : SS} {x : Int32} {c : Nat} : rdy (upd s 454 x) c = rdy s c := by unfold rdy gC; rw [pl_up (by omega), tc_up (by omega) (by omega), up_ne (by omega)]
theorem wst_454 {s : SS} {x : Int32} {b : Option Nat} {c : Nat} : wst (upd s 454 x) b c = wst s b c := by
  unfold wst wok
  rw [rdy_454]
  cases b with
  | none => rfl
  | some d => simp only [gC, up_ne (s := s) (x := x) (show 64 + 7 * d + 1 ≠ 454 by omega), up_ne (s := s) (x := x) (show 64 + 7 * c + 1 ≠ 454 by omega)]
theorem whoN_454 {s : SS} {x : Int32} : ∀ i, whoN (upd s 454 x) i = whoN s i
  | 0 => rfl
  | i + 1 => by
    show wst (upd s 454 x) (whoN (upd s 454 x) i) _ = wst s (whoN s i) _
    rw [whoN_454 i, wst_454]
    unfold lst; rw [up_ne (by decide)]
theorem who_454 {s : SS} {x : Int32} : who (upd s 454 x) = who s := whoN_454 4
theorem elo_454 {s : SS} {x : Int32} {c : Nat} : elo (upd s 454 x) c = elo s c := by
  unfold elo
  rw [show (fun j => eng (upd s 454 x) (c * 6 + j)) = fun j => eng s (c * 6 + j) from funext fun j => eng_up (by omega)]
/-- a tick that writes nothing back and grants nobody is followed by its like -/
theorem idle {b : Bool} {s : SS} (hq : s 428 = 0) (hw : tkW s = none) : tkF b s = tk0 s ∧ (tk0 s) 428 = 0 ∧ tkW (tk0 s) = none := by
  have h0 : (tk0 s) 428 = 0 := by unfold tk0; rw [up_ne (by decide)]; exact hq
  have h1 : (tk0 (tk0 s)) 428 = 0 := by rw [show tk0 (tk0 s) = upd (tk0 s) 454 (tk0 s 454 + 1) from rfl, up_ne (by decide)]; exact h0
  refine ⟨by rw [tkF_n hw, tk_n h0], h0, ?_⟩
  have e0 : tkW s = who s := by unfold tkW; rw [tk_n h0]; exact who_454
  have e1 : tkW (tk0 s) = who s := by unfold tkW; rw [tk_n h1]; exact who_454.trans who_454
  rw [e1, ← e0]; exact hw
theorem idle_it {b : Bool} {s : SS} {c : Nat} (hq : s 428 = 0) (hw : tkW s = none) : ∀ j, (itk b s j) 428 = 0 ∧ tkW (itk b s j) = none ∧ elo (itk b s j) c = elo s c
  | 0 => ⟨hq, hw, rfl⟩
  | j + 1 => by
    obtain ⟨h1, h2, h3⟩ := idle_it (b := b) (c := c) hq hw j
    obtain ⟨g1, g2, g3⟩ := idle (b := b) h1 h2
    refine ⟨?_, ?_, ?_⟩
    · show tkF b (itk b s j) 428 = 0; rw [g1]; exact g2
    · show tkW (tkF b (itk b s j)) = none; rw [g1]; exact g3
    · show elo (tkF b (itk b s j)) c = _; rw [g1, ← h3]; exact elo_454
theorem itk_add {b : Bool} {s : SS} (i : Nat) : ∀ j, itk b s (i + j) = itk b (itk b s i) j
  | 0 => rfl
  | j + 1 => by show tkF b (itk b s (i + j)) = tkF b _; rw [itk_add i j]
theorem ov_idle {b : Bool} {s : SS} {c j : Nat} (hq : (itk b s j) 428 = 0) (hw : tkW (itk b s j) = none) (he : ¬ elo (itk b s j) c = 0) (r : Nat) : fsN (ovP b s c) r j = none := by
  refine fsN_none r j (fun i hi => ?_)
  obtain ⟨d, rfl⟩ : ∃ d, i = j + d := ⟨i - j, by omega⟩
  unfold ovP
  rw [itk_add, (idle_it (c := c) hq hw d).2.2]
  exact decide_eq_false he
/-- what was seen is so -/
def swN (tk' wh : SS) (k : Nat) (a : Int32) : Nat → Bool
  | 0 => true
  | i + 1 => swN tk' wh k a i && (!(decide (tk' i = nI k)) || decide (wh i = a))
def caT (s tk' wh : SS) (m : Nat) : Nat → Bool
  | 0 => true
  | k + 1 => caT s tk' wh m k && swN tk' wh (k + 1) (oN (tkW (itk false s k))) m
def mxT (tk' : SS) : Nat → Nat
  | 0 => 0
  | i + 1 => max (mxT tk' i) (tk' i).toNatClampNeg
def SeOk (tk' wh : SS) (m : Nat) : Prop := m ≤ 6 ∧ ∀ i, i < m → nat? (tk' i) 1 41
theorem mxT_le {tk' : SS} : ∀ (m : Nat), (∀ i, i < m → nat? (tk' i) 1 41) → mxT tk' m ≤ 40
  | 0, _ => Nat.zero_le _
  | m + 1, h => by
    have h1 := mxT_le m (fun i hi => h i (by omega))
    have h2 := (h m (by omega)).to (by decide)
    show max _ _ ≤ 40
    rw [Nat.max_def]; split <;> omega
theorem mxT_ge {tk' : SS} {i : Nat} : ∀ (m : Nat), i < m → (tk' i).toNatClampNeg ≤ mxT tk' m
  | 0, h => absurd h (Nat.not_lt_zero _)
  | m + 1, h => by
    show _ ≤ max _ _
    rw [Nat.max_def]
    by_cases e : i = m
    · subst e; split <;> omega
    · have := mxT_ge m (i := i) (tk' := tk') (by omega); split <;> omega
theorem swN_none {tk' wh : SS} {k : Nat} {a : Int32} : ∀ (m : Nat), (∀ i, i < m → ¬ tk' i = nI k) → swN tk' wh k a m = true
  | 0, _ => rfl
  | m + 1, h => by
    show (swN tk' wh k a m && _) = true
    rw [swN_none m (fun i hi => h i (by omega)), decide_eq_false (h m (by omega))]; rfl
theorem swN_n {tk' wh : SS} {k : Nat} {a : Int32} {i : Nat} (h : ¬ tk' i = nI k) : swN tk' wh k a (i + 1) = swN tk' wh k a i := by
  show (_ && (!(decide _) || _)) = _; rw [decide_eq_false h]; simp
theorem swN_y {tk' wh : SS} {k : Nat} {a : Int32} {i : Nat} (h : wh i = a) : swN tk' wh k a (i + 1) = swN tk' wh k a i := by
  show (_ && (_ || decide _)) = _; rw [decide_eq_true h]; simp
theorem swN_f {tk' wh : SS} {k : Nat} {a : Int32} {i : Nat} (h : tk' i = nI k) (h2 : ¬ wh i = a) : swN tk' wh k a (i + 1) = false := by
  show (_ && (!(decide _) || decide _)) = _; rw [decide_eq_true h, decide_eq_false h2]; simp
theorem swN_up {tk' wh : SS} {k : Nat} {a : Int32} {i : Nat} (h : swN tk' wh k a i = false) : ∀ d, swN tk' wh k a (i + d) = false
  | 0 => h
  | d + 1 => by show (swN tk' wh k a (i + d) && _) = false; rw [swN_up h d]; rfl
theorem caT_up {s tk' wh : SS} {m k : Nat} (h : caT s tk' wh m k = false) : ∀ d, caT s tk' wh m (k + d) = false
  | 0 => h
  | d + 1 => by show (caT s tk' wh m (k + d) && _) = false; rw [caT_up h d]; rfl
/-- behind the last tick that was seen nothing was seen -/
theorem caT_last {s tk' wh : SS} {m : Nat} (h : SeOk tk' wh m) : ∀ d, d ≤ 100 → caT s tk' wh m (mxT tk' m + d) = caT s tk' wh m (mxT tk' m)
  | 0, _ => rfl
  | d + 1, hd => by
    show (caT s tk' wh m (mxT tk' m + d) && swN tk' wh (mxT tk' m + d + 1) _ m) = _
    rw [caT_last h d (by omega), swN_none m (fun i hi e => ?_), Bool.and_true]
    have h1 := mxT_ge (tk' := tk') m hi
    have h2 := (h.2 i hi).to (by decide)
    rw [h2.1] at e
    have h3 := mxT_le m h.2
    have := congrArg Int32.toNatClampNeg e
    rw [nI_clamp (by omega)] at this
    rw [nI_clamp (by omega)] at this; omega
