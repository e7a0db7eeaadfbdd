/-! The frame: contracts 'Ct' over worlds, and a judgement 'J' whose arguments are pure data: a world, a pc, locals, a stack. -/
abbrev DX : Type := Launch × va_G × (ClassId × ClassId × ClassId) × List (String × String × String × Nat × Nat × (Nat → Int32))
abbrev dl (D : DX) : Launch := D.1
abbrev dG (D : DX) : va_G := D.2.1
abbrev dI (D : DX) : ClassId := D.2.2.1.1
abbrev dE (D : DX) : ClassId := D.2.2.1.2.1
abbrev dZ (D : DX) : ClassId := D.2.2.1.2.2
abbrev dT (D : DX) : List (ClassId × FieldType) := [(dI D, .int), (dE D, .object RX0), (dZ D, .boolean)]
def zOk (D : DX) (A : Nat → Prop) (U : State) (H : Heap) : Prop := ∀ q ∈ D.2.2.2, va_Z q.1 q.2.1 q.2.2.1 (.ref q.2.2.2.1) A U H ∧ va_T .int q.2.2.2.1 q.2.2.2.2.1 (fun k => .int (q.2.2.2.2.2 k)) A U H
def xOk (U : State) : Prop := va_Nw (.methodLinkNest RX3 66 yX4_within RX4) U ∧ va_AO RX0 U
def cQ (D : DX) (fin : Option Value → va_W → Prop) (A : Nat → Prop) : Array Value → State → Outcome → State → Prop := fun _ st oc t => (∃ (v : Option Value) (w' : va_W), oc = .returned v ∧ fin v w' ∧ va_P (dG D) classes w' t.heap ∧ va_D A w') ∧ va_F A st t
def cP (D : DX) (av : List Value) (w : va_W) (sz : Nat) : Array Value → State → Prop := va_Pc av (fun U => U.heap.size = sz ∧ va_P (dG D) classes w U.heap ∧ va_K (dG D) classes (dT D) U ∧ va_D (fun _ => True) w ∧ zOk D (va_A w sz) U U.heap ∧ xOk U)
/-- a method's contract: from any state that holds the world w it returns, and what it answers and the new world are as 'fin' tells -/
def Ct (D : DX) (y : MethodName) (b : ByteArray) (n : Nat) (r : Option FieldType) (rm : Room) (av : List Value) (w : va_W) (fin : Option Value → va_W → Prop) : Prop :=
  ∀ sz : Nat, Met (dl D) y (.code y b n r :: lw_g) rm (cP D av w sz) (cQ D fin (va_A w sz)) rm.cells rm.slots (va_A w sz)
abbrev GX : Type := Program × Env × State × MethodId × Array Value × List Frame × Method × Code × (Nat → Prop)
def Ok (D : DX) (Γ : GX) (y : MethodName) (cc : ByteArray) (nL : Nat) (ret : Option FieldType) : Prop :=
  match Γ with
  | (p, _, s, m, args, _, meth, c, A) => p.tables.exec = Jvm.exec ∧ c.code = cc ∧ meth.sig.returnType = ret ∧ c.maxLocals = nL ∧ s.vm.findClass y.cls = some m.cls ∧ (∀ w ∈ lw_g, w.before args s = true) ∧ meth.locks = false ∧ va_K (dG D) classes (dT D) s ∧ (∀ q, s.heap.size ≤ q → A q) ∧ meth.name = y.name ∧ zOk D A s s.heap ∧ xOk s
def Qf (D : DX) (Γ : GX) (R : Room) (fin : Option Value → va_W → Prop) : State → Prop := match Γ with
  | (_, _, s, _, args, below, _, _, A) => MQ below (cQ D fin A) args s R.cells R.slots A
def J (D : DX) (Γ : GX) (y : MethodName) (cc : ByteArray) (nL : Nat) (ret : Option FieldType) (R : Room) (Q : State → Prop) (k n : Nat) (w : va_W) (pc : Nat) (lv : List (Nat × Value)) (st : List Value) : Prop :=
  match Γ with
  | (p, e, s, m, args, below, meth, c, A) => Ok D (p, e, s, m, args, below, meth, c, A) y cc nL ret → ∀ (H : Heap) (locs : List Loc) (ls : Array Slot), va_P (dG D) classes w H → va_D A w → va_S A s.heap H locs → lv_has ls nL lv → W p (dl D) e R s m args below meth c H locs k n Q (F0 m pc ls st)
section FR1
variable {D : DX} {y : MethodName} {b : ByteArray} {nL : Nat} {r : Option FieldType} {rm : Room}
theorem ct_of {av : List Value} {w : va_W} {fin : Option Value → va_W → Prop} {lv0 : List (Nat × Value)} (hy : plainName y.cls = true) (hlen : (lg_sl av).length ≤ nL) (hlv : lv_args 0 av = lv0) (h : ∀ Γ : GX, J D Γ y b nL r rm (Qf D Γ rm fin) 0 0 w 0 lv0 []) : Ct D y b nL r rm av w fin := by
  intro sz
  refine Met.ofW (cc := b) (maxL := nL) (ret := r) hy rfl ?_
  intro p e s m args below meth c s₁ B hml hv
  obtain ⟨rfl, hsz, hP, hK, hD0, hZ, hX⟩ := hv
  subst hsz
  subst hlv
  have hD := hD0.self (sz := s.heap.size)
  have hts := atoms_spec (ws := .code y b nL r :: lw_g) B.pre
  have hl := lv_entry av (n := nL) hlen
  rw [lg_entry_eq]
  exact h (p, e, s, m, av.toArray, below, meth, c, va_A w s.heap.size) ⟨B.exec, B.bytes, B.returns, hml, findClass_of_methodNamed B.named, fun w hw => hts w (List.mem_cons_of_mem _ hw), B.notSynchronized, hK, fun q hq => Or.inr hq, (name_of_methodNamed B.named B.method).1, hZ, hX⟩ s.heap [] _ hP hD va_S.rf hl
theorem Ct.weaken {av : List Value} {w : va_W} {fin fin' : Option Value → va_W → Prop} (h : Ct D y b nL r rm av w fin) (hf : ∀ v w', fin v w' → fin' v w') : Ct D y b nL r rm av w fin' := by
  intro sz
  intro p e ha hc hk s m args below hfr happ hP hK
  obtain ⟨n, o, h1, h2, h3, ⟨⟨v, w', e1, e2, e3, e4⟩, hF⟩, hL⟩ := h sz p e ha hc hk s m args below hfr happ hP hK
  exact ⟨n, o, h1, h2, h3, ⟨⟨v, w', e1, hf v w' e2, e3, e4⟩, hF⟩, hL⟩
end FR1
/-! lists of cells -/
theorem wat {is : List Nat} {ws w : va_W} (hs : is.map (fun i => ws[i]?) = w.map some) (k : Nat) (q : Nat × va_E) (hq : w[k]? = some q) : ∃ i, is[k]? = some i ∧ ws[i]? = some q := by
  have h1 : (is.map (fun i => ws[i]?))[k]? = some (some q) := by rw [hs, List.getElem?_map, hq]; rfl
  rw [List.getElem?_map] at h1
  cases hi : is[k]? with
  | none => rw [hi] at h1; cases h1
  | some i => rw [hi] at h1; exact ⟨i, rfl, Option.some.inj h1⟩
def updw : va_W → List Nat → va_W → va_W
  | w, i :: is, q :: qs => updw (w.set i q) is qs
  | w, _, _ => w
theorem updw_at : ∀ (is : List Nat) (w w1 : va_W) (k : Nat) (q : Nat × va_E), (updw w is w1)[k]? = some q → is.length = w1.length → (∃ j : Nat, is[j]? = some k ∧ w1[j]? = some q) ∨ (k ∉ is ∧ w[k]? = some q)
  | [], w, w1, k, q, h, hl => by
    cases w1 with
    | nil => exact Or.inr ⟨List.not_mem_nil, h⟩
    | cons a t => simp at hl
  | i :: is, w, [], k, q, h, hl => by simp at hl
  | i :: is, w, a :: w1, k, q, h, hl => by
    rcases updw_at is (w.set i a) w1 k q h (by simpa using hl) with ⟨j, h1, h2⟩ | ⟨h1, h2⟩
    · exact Or.inl ⟨j + 1, h1, h2⟩
    · by_cases hk : k = i
      · subst hk
        rw [List.getElem?_set] at h2
        simp only [if_true] at h2
        split at h2
        · exact Or.inl ⟨0, rfl, h2⟩
        · cases h2
      · rw [List.getElem?_set_ne (fun e => hk e.symm)] at h2
        exact Or.inr ⟨fun hm => (List.mem_cons.mp hm).elim hk h1, h2⟩
theorem updw_addr : ∀ (is : List Nat) (w wc w1 : va_W), is.map (fun i => (w.map Prod.fst)[i]?) = (wc.map Prod.fst).map some → w1.map Prod.fst = wc.map Prod.fst → (updw w is w1).map Prod.fst = w.map Prod.fst
  | [], w, wc, w1, h, h1 => by cases w1 <;> rfl
  | i :: is, w, wc, [], h, h1 => rfl
  | i :: is, w, [], a :: w1, h, h1 => by simp at h1
  | i :: is, w, c :: wc, a :: w1, h, h1 => by
    simp only [List.map_cons, List.cons.injEq] at h h1
    have e : (w.set i a).map Prod.fst = w.map Prod.fst := by
      rw [List.map_set]
      apply List.ext_getElem?
      intro k
      rw [List.getElem?_set]
      by_cases hk : i = k
      · subst hk
        rw [if_pos rfl]
        rw [h.1, h1.1]
        have hlt : i < (w.map Prod.fst).length := by
          rcases Nat.lt_or_ge i (w.map Prod.fst).length with q | q
          · exact q
          · rw [List.getElem?_eq_none q] at h; cases h.1
        rw [if_pos hlt]
      · rw [if_neg hk]
    show (updw (w.set i a) is w1).map Prod.fst = w.map Prod.fst
    rw [updw_addr is (w.set i a) wc w1 (by rw [e]; exact h.2) h1.2, e]
theorem va_D_addr {A : Nat → Prop} {w w' : va_W} (h : va_D A w) (e : w'.map Prod.fst = w.map Prod.fst) : va_D A w' := by
  have at' : ∀ (k : Nat) (q : Nat × va_E), w'[k]? = some q → ∃ q', w[k]? = some q' ∧ q'.1 = q.1 := by
    intro k q hq
    have h1 : (w'.map Prod.fst)[k]? = some q.1 := by rw [List.getElem?_map, hq]; rfl
    rw [e, List.getElem?_map] at h1
    cases hw : w[k]? with
    | none => rw [hw] at h1; cases h1
    | some q' => rw [hw] at h1; exact ⟨q', rfl, Option.some.inj h1⟩
  refine ⟨fun i j p q hp hq hpq => ?_, fun k q hq => ?_⟩
  · obtain ⟨p', hp', ep⟩ := at' i p hp
    obtain ⟨q', hq', eq⟩ := at' j q hq
    exact h.1 i j p' q' hp' hq' (by rw [ep, eq, hpq])
  · obtain ⟨q', hq', eq⟩ := at' k q hq
    rw [← eq]; exact h.2 k q' hq'
/-- a cell's row may be told by another function that agrees in its range -/
theorem cell_cong {cA : ClassId} {n : Nat} {f g : Nat → Int32} (h : ∀ k, k < n → f k = g k) : vp_cell cA (n, .inl f) = vp_cell cA (n, .inl g) := by
  rw [vp_cell_i, vp_cell_i]
  unfold arrV
  have e : (fun j : Fin n => Value.int (f j.val)) = fun j => Value.int (g j.val) := funext fun j => by rw [h j.val j.isLt]
  rw [e]

