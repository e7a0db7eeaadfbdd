/-! a call on both sides -/
def StB (D : DX) (O : Nat) (X E F Y Z V : Nat → Nat) (P G : Nat → Nat → Nat) (M : Nat → Nat) (K : KT) (y4 : MethodName) (c4 : ByteArray) (n4 : Nat) (y5 : MethodName) (c5 : ByteArray) (n5 : Nat) (As : List Value) : Prop :=
  ∃ (A : Int32) (K' : KT), RelP K' ∧ (∀ wC, CE D O X E F Y Z V P G K wC → ∃ rm, Ct D y4 c4 n4 (some .int) rm (.ref O :: As) wC (fun v_ u_ => v_ = some (.int A) ∧ CE D O X E F Y Z V P G K' u_) ∧ RB rm) ∧ (∀ wM, ME D M K wM → ∃ rm, Ct D y5 c5 n5 (some .int) rm (.ref (M 0) :: As) wM (fun v_ u_ => v_ = some (.int A) ∧ ME D M K' u_) ∧ RB rm)
theorem prl_f {sg : SS} {n : Nat} : ∀ (f i k x : Nat), k ≤ n → (prl sg n f i k).1 = some x → x ≤ n
  | 0, i, k, x, hk, h => by cases h
  | f + 1, i, k, x, hk, h => by
    unfold prl at h
    split at h
    · rename_i q
      split at h
      · exact prl_f f (i + 1) _ x (sk_n (it_n q)) h
      · have := it_n (sg := sg) q
        cases h
        exact this
    · cases h
theorem prA_f {sg : SS} {n x : Nat} (h : (prA sg n).1 = some x) : x ≤ n := prl_f 25 0 _ x (sk_n (Nat.zero_le n)) h
theorem Inv_prl {sg s : SS} {n : Nat} : ∀ (f i k : Nat), k = ps sg n i → Inv (doN sg n s i) → Inv (doN sg n s (prl sg n f i k).2)
  | 0, i, k, _, h => h
  | f + 1, i, k, e, h => by
    unfold prl
    split
    · split
      · rename_i q
        refine Inv_prl f (i + 1) _ (by rw [e]; rfl) ?_
        rw [e] at q
        exact Inv_do h (it_ok q)
      · exact h
    · exact h
theorem Inv_prA {sg s : SS} {n : Nat} (h : Inv s) : Inv (doN sg n s (prA sg n).2) := Inv_prl 25 0 _ rfl h
theorem S_type (D : DX) (O : Nat) (X E F Y Z V : Nat → Nat) (P G : Nat → Nat → Nat) (M : Nat → Nat) (s sg : SS) (n : Nat) (h : Nat → SS) (nw kn : Nat) (tk wh : SS) (m : Nat) (kp : SS) (g : Nat → SS) (pa kt : SS) (R : RelP (s, sg, n, h, nw, kn, tk, wh, m, kp, g, pa, kt)) (v : Int32) : StB D O X E F Y Z V P G M (s, sg, n, h, nw, kn, tk, wh, m, kp, g, pa, kt) yX4_type cX4_type 2 yX5_type cX5_type 2 [.int v] := by
  obtain ⟨r1, r2, r3, r4, r5, r6, r7, r8⟩ := id R
  by_cases hb : inR v (nI 0) (nI 255) = true
  · by_cases hn : n = 120
    · exact ⟨_, _, R, L4_type_full D O X E F Y Z V P G s sg n h nw kn tk wh m kp g pa kt v hb hn, L5_type_full D M s sg n h nw kn tk wh m kp g pa kt v hb hn⟩
    · have hn : n < 120 := by omega
      exact ⟨_, _, Rel_type R hn hb, L4_type_ok D O X E F Y Z V P G s sg n h nw kn tk wh m kp g pa kt v hb hn, L5_type_ok D M s sg n h nw kn tk wh m kp g pa kt v hb hn⟩
  · exact ⟨_, _, R, L4_type_bad D O X E F Y Z V P G s sg n h nw kn tk wh m kp g pa kt v (Bool.eq_false_iff.mpr hb), L5_type_bad D M s sg n h nw kn tk wh m kp g pa kt v (Bool.eq_false_iff.mpr hb)⟩

theorem S_clear (D : DX) (O : Nat) (X E F Y Z V : Nat → Nat) (P G : Nat → Nat → Nat) (M : Nat → Nat) (s sg : SS) (n : Nat) (h : Nat → SS) (nw kn : Nat) (tk wh : SS) (m : Nat) (kp : SS) (g : Nat → SS) (pa kt : SS) (R : RelP (s, sg, n, h, nw, kn, tk, wh, m, kp, g, pa, kt)) : StB D O X E F Y Z V P G M (s, sg, n, h, nw, kn, tk, wh, m, kp, g, pa, kt) yX4_clear cX4_clear 2 yX5_clear cX5_clear 2 [] := by
  obtain ⟨r1, r2, r3, r4, r5, r6, r7, r8⟩ := id R
  exact ⟨_, _, Rel_clear R, L4_clear D O X E F Y Z V P G s sg n h nw kn tk wh m kp g pa kt , L5_clear D M s sg n h nw kn tk wh m kp g pa kt ⟩

theorem S_posts (D : DX) (O : Nat) (X E F Y Z V : Nat → Nat) (P G : Nat → Nat → Nat) (M : Nat → Nat) (s sg : SS) (n : Nat) (h : Nat → SS) (nw kn : Nat) (tk wh : SS) (m : Nat) (kp : SS) (g : Nat → SS) (pa kt : SS) (R : RelP (s, sg, n, h, nw, kn, tk, wh, m, kp, g, pa, kt)) (a : Nat → Nat) (hz : zT D a) : StB D O X E F Y Z V P G M (s, sg, n, h, nw, kn, tk, wh, m, kp, g, pa, kt) yX4_posts cX4_posts 3 yX5_posts cX5_posts 1 [] := by
  obtain ⟨r1, r2, r3, r4, r5, r6, r7, r8⟩ := id R
  cases hp : (prA sg n).1 with
  | some f =>
    have hf := prA_f hp
    exact ⟨_, _, R, L4_posts_fault D O X E F Y Z V P G s sg n h nw kn tk wh m kp g pa kt a hz r2 f (by omega) hp, L5_posts_fault D M s sg n h nw kn tk wh m kp g pa kt r2 r3 f hp⟩
  | none =>
    cases hA : okA sg n s (prA sg n).2 with
    | false => exact ⟨_, _, R, L4_posts_full D O X E F Y Z V P G s sg n h nw kn tk wh m kp g pa kt a hz r2 r1 hp hA, L5_posts_full D M s sg n h nw kn tk wh m kp g pa kt r2 r3 r1 hp hA⟩
    | true => exact ⟨_, _, Rel_clear (Rel_rem R (Inv_prA r1)), L4_posts_ok D O X E F Y Z V P G s sg n h nw kn tk wh m kp g pa kt a hz r2 r1 hp hA r4 r5, L5_posts_ok D M s sg n h nw kn tk wh m kp g pa kt r2 r3 r1 hp hA r5⟩

theorem S_ticks (D : DX) (O : Nat) (X E F Y Z V : Nat → Nat) (P G : Nat → Nat → Nat) (M : Nat → Nat) (s sg : SS) (n : Nat) (h : Nat → SS) (nw kn : Nat) (tk wh : SS) (m : Nat) (kp : SS) (g : Nat → SS) (pa kt : SS) (R : RelP (s, sg, n, h, nw, kn, tk, wh, m, kp, g, pa, kt)) (v : Int32) : StB D O X E F Y Z V P G M (s, sg, n, h, nw, kn, tk, wh, m, kp, g, pa, kt) yX4_ticks cX4_ticks 4 yX5_ticks cX5_ticks 4 [.int v] := by
  obtain ⟨r1, r2, r3, r4, r5, r6, r7, r8⟩ := id R
  by_cases hb : inR v (nI 1) (nI 40) = true
  · obtain ⟨q, h1, h2, rfl⟩ := inR_nat (by decide) (by decide) hb
    exact ⟨_, _, Rel_rem R (Inv_it r1 q), L4_ticks_ok D O X E F Y Z V P G s sg n h nw kn tk wh m kp g pa kt r1 r4 r5 q ⟨h1, by omega⟩, L5_ticks_ok D M s sg n h nw kn tk wh m kp g pa kt r1 r5 q ⟨h1, by omega⟩⟩
  · exact ⟨_, _, R, L4_ticks_bad D O X E F Y Z V P G s sg n h nw kn tk wh m kp g pa kt v (Bool.eq_false_iff.mpr hb), L5_ticks_bad D M s sg n h nw kn tk wh m kp g pa kt v (Bool.eq_false_iff.mpr hb)⟩

theorem S_cancels (D : DX) (O : Nat) (X E F Y Z V : Nat → Nat) (P G : Nat → Nat → Nat) (M : Nat → Nat) (s sg : SS) (n : Nat) (h : Nat → SS) (nw kn : Nat) (tk wh : SS) (m : Nat) (kp : SS) (g : Nat → SS) (pa kt : SS) (R : RelP (s, sg, n, h, nw, kn, tk, wh, m, kp, g, pa, kt)) (v : Int32) : StB D O X E F Y Z V P G M (s, sg, n, h, nw, kn, tk, wh, m, kp, g, pa, kt) yX4_cancels cX4_cancels 2 yX5_cancels cX5_cancels 6 [.int v] := by
  obtain ⟨r1, r2, r3, r4, r5, r6, r7, r8⟩ := id R
  by_cases hb : inR v (nI 0) (nI 3) = true
  · obtain ⟨c, h1, h2, rfl⟩ := inR_nat (by decide) (by decide) hb
    cases ht : tc s (pl s c) with
    | false => exact ⟨_, _, R, L4_cancels_none D O X E F Y Z V P G s sg n h nw kn tk wh m kp g pa kt r1 c h2 ht, L5_cancels_none D M s sg n h nw kn tk wh m kp g pa kt r1 c h2 ht⟩
    | true => exact ⟨_, _, Rel_rem R (Inv_cn r1 h2 ht), L4_cancels_ok D O X E F Y Z V P G s sg n h nw kn tk wh m kp g pa kt r1 r4 r5 c h2 ht, L5_cancels_ok D M s sg n h nw kn tk wh m kp g pa kt r1 r5 c h2 ht⟩
  · exact ⟨_, _, R, L4_cancels_bad D O X E F Y Z V P G s sg n h nw kn tk wh m kp g pa kt v (Bool.eq_false_iff.mpr hb), L5_cancels_bad D M s sg n h nw kn tk wh m kp g pa kt v (Bool.eq_false_iff.mpr hb)⟩

theorem S_switches (D : DX) (O : Nat) (X E F Y Z V : Nat → Nat) (P G : Nat → Nat → Nat) (M : Nat → Nat) (s sg : SS) (n : Nat) (h : Nat → SS) (nw kn : Nat) (tk wh : SS) (m : Nat) (kp : SS) (g : Nat → SS) (pa kt : SS) (R : RelP (s, sg, n, h, nw, kn, tk, wh, m, kp, g, pa, kt)) (v : Int32) : StB D O X E F Y Z V P G M (s, sg, n, h, nw, kn, tk, wh, m, kp, g, pa, kt) yX4_switches cX4_switches 3 yX5_switches cX5_switches 3 [.int v] := by
  obtain ⟨r1, r2, r3, r4, r5, r6, r7, r8⟩ := id R
  by_cases hb : inR v (nI 0) (nI 3) = true
  · obtain ⟨c, h1, h2, rfl⟩ := inR_nat (by decide) (by decide) hb
    exact ⟨_, _, Rel_rem R (Inv_sw r1 h2), L4_switches_ok D O X E F Y Z V P G s sg n h nw kn tk wh m kp g pa kt r1 r4 r5 c h2, L5_switches_ok D M s sg n h nw kn tk wh m kp g pa kt r1 r5 c h2⟩
  · exact ⟨_, _, R, L4_switches_bad D O X E F Y Z V P G s sg n h nw kn tk wh m kp g pa kt v (Bool.eq_false_iff.mpr hb), L5_switches_bad D M s sg n h nw kn tk wh m kp g pa kt v (Bool.eq_false_iff.mpr hb)⟩

theorem S_tunes (D : DX) (O : Nat) (X E F Y Z V : Nat → Nat) (P G : Nat → Nat → Nat) (M : Nat → Nat) (s sg : SS) (n : Nat) (h : Nat → SS) (nw kn : Nat) (tk wh : SS) (m : Nat) (kp : SS) (g : Nat → SS) (pa kt : SS) (R : RelP (s, sg, n, h, nw, kn, tk, wh, m, kp, g, pa, kt)) (v w z : Int32) : StB D O X E F Y Z V P G M (s, sg, n, h, nw, kn, tk, wh, m, kp, g, pa, kt) yX4_tunes cX4_tunes 4 yX5_tunes cX5_tunes 5 [.int v, .int w, .int z] := by
  obtain ⟨r1, r2, r3, r4, r5, r6, r7, r8⟩ := id R
  by_cases hb : inR v (nI 0) (nI 3) = true ∧ inR w (nI 0) (nI 3) = true ∧ inR z (nI 1) (nI 8) = true
  · obtain ⟨b1, b2, b3⟩ := hb
    obtain ⟨c, c1, c2, rfl⟩ := inR_nat (by decide) (by decide) b1
    obtain ⟨r, d1, d2, rfl⟩ := inR_nat (by decide) (by decide) b2
    obtain ⟨b, e1, e2, rfl⟩ := inR_nat (by decide) (by decide) b3
    by_cases hs : gC s c 1 = nI r ∧ gC s c 2 = nI b
    · exact ⟨_, _, R, L4_tunes_same D O X E F Y Z V P G s sg n h nw kn tk wh m kp g pa kt c r b c2 d2 ⟨e1, by omega⟩ hs.1 hs.2, L5_tunes_same D M s sg n h nw kn tk wh m kp g pa kt c r b c2 d2 ⟨e1, by omega⟩ hs.1 hs.2⟩
    · exact ⟨_, _, Rel_rem R (Inv_rb r1 c2 ⟨r, d1, d2, rfl⟩ ⟨b, e1, e2, rfl⟩), L4_tunes_ok D O X E F Y Z V P G s sg n h nw kn tk wh m kp g pa kt r1 r4 r5 c r b c2 d2 ⟨e1, by omega⟩ hs, L5_tunes_ok D M s sg n h nw kn tk wh m kp g pa kt r1 r5 c r b c2 d2 ⟨e1, by omega⟩ hs⟩
  · exact ⟨_, _, R, L4_tunes_bad D O X E F Y Z V P G s sg n h nw kn tk wh m kp g pa kt v w z hb, L5_tunes_bad D M s sg n h nw kn tk wh m kp g pa kt v w z hb⟩

theorem S_undo (D : DX) (O : Nat) (X E F Y Z V : Nat → Nat) (P G : Nat → Nat → Nat) (M : Nat → Nat) (s sg : SS) (n : Nat) (h : Nat → SS) (nw kn : Nat) (tk wh : SS) (m : Nat) (kp : SS) (g : Nat → SS) (pa kt : SS) (R : RelP (s, sg, n, h, nw, kn, tk, wh, m, kp, g, pa, kt)) : StB D O X E F Y Z V P G M (s, sg, n, h, nw, kn, tk, wh, m, kp, g, pa, kt) yX4_undo cX4_undo 1 yX5_undo cX5_undo 2 [] := by
  obtain ⟨r1, r2, r3, r4, r5, r6, r7, r8⟩ := id R
  by_cases hk : kn = 0
  · exact ⟨_, _, R, L4_undo_none D O X E F Y Z V P G s sg n h nw kn tk wh m kp g pa kt hk, L5_undo_none D M s sg n h nw kn tk wh m kp g pa kt hk⟩
  · have hk : 1 ≤ kn := by omega
    have q := Rel_undo R hk
    exact ⟨_, _, q.1, L4_undo_ok D O X E F Y Z V P G s sg n h nw kn tk wh m kp g pa kt r4 ⟨hk, r5⟩, L5_undo_ok D M s sg n h nw kn tk wh m kp g pa kt ⟨hk, r5⟩ q.2⟩

theorem S_at (D : DX) (O : Nat) (X E F Y Z V : Nat → Nat) (P G : Nat → Nat → Nat) (M : Nat → Nat) (s sg : SS) (n : Nat) (h : Nat → SS) (nw kn : Nat) (tk wh : SS) (m : Nat) (kp : SS) (g : Nat → SS) (pa kt : SS) (R : RelP (s, sg, n, h, nw, kn, tk, wh, m, kp, g, pa, kt)) (v : Int32) : StB D O X E F Y Z V P G M (s, sg, n, h, nw, kn, tk, wh, m, kp, g, pa, kt) yX4_at cX4_at 2 yX5_at cX5_at 2 [.int v] := by
  obtain ⟨r1, r2, r3, r4, r5, r6, r7, r8⟩ := id R
  exact ⟨_, _, R, L4_at D O X E F Y Z V P G s sg n h nw kn tk wh m kp g pa kt v, L5_at D M s sg n h nw kn tk wh m kp g pa kt v⟩

theorem S_channel (D : DX) (O : Nat) (X E F Y Z V : Nat → Nat) (P G : Nat → Nat → Nat) (M : Nat → Nat) (s sg : SS) (n : Nat) (h : Nat → SS) (nw kn : Nat) (tk wh : SS) (m : Nat) (kp : SS) (g : Nat → SS) (pa kt : SS) (R : RelP (s, sg, n, h, nw, kn, tk, wh, m, kp, g, pa, kt)) (v w : Int32) : StB D O X E F Y Z V P G M (s, sg, n, h, nw, kn, tk, wh, m, kp, g, pa, kt) yX4_channel cX4_channel 3 yX5_channel cX5_channel 4 [.int v, .int w] := by
  obtain ⟨r1, r2, r3, r4, r5, r6, r7, r8⟩ := id R
  exact ⟨_, _, R, L4_channel D O X E F Y Z V P G s sg n h nw kn tk wh m kp g pa kt r1 v w, L5_channel D M s sg n h nw kn tk wh m kp g pa kt r1 v w⟩

theorem S_slot (D : DX) (O : Nat) (X E F Y Z V : Nat → Nat) (P G : Nat → Nat → Nat) (M : Nat → Nat) (s sg : SS) (n : Nat) (h : Nat → SS) (nw kn : Nat) (tk wh : SS) (m : Nat) (kp : SS) (g : Nat → SS) (pa kt : SS) (R : RelP (s, sg, n, h, nw, kn, tk, wh, m, kp, g, pa, kt)) (v z w : Int32) : StB D O X E F Y Z V P G M (s, sg, n, h, nw, kn, tk, wh, m, kp, g, pa, kt) yX4_slot cX4_slot 5 yX5_slot cX5_slot 5 [.int v, .int z, .int w] := by
  obtain ⟨r1, r2, r3, r4, r5, r6, r7, r8⟩ := id R
  exact ⟨_, _, R, L4_slot D O X E F Y Z V P G s sg n h nw kn tk wh m kp g pa kt v z w, L5_slot D M s sg n h nw kn tk wh m kp g pa kt r1 v z w⟩

theorem S_unit (D : DX) (O : Nat) (X E F Y Z V : Nat → Nat) (P G : Nat → Nat → Nat) (M : Nat → Nat) (s sg : SS) (n : Nat) (h : Nat → SS) (nw kn : Nat) (tk wh : SS) (m : Nat) (kp : SS) (g : Nat → SS) (pa kt : SS) (R : RelP (s, sg, n, h, nw, kn, tk, wh, m, kp, g, pa, kt)) (v z c w : Int32) : StB D O X E F Y Z V P G M (s, sg, n, h, nw, kn, tk, wh, m, kp, g, pa, kt) yX4_unit cX4_unit 6 yX5_unit cX5_unit 6 [.int v, .int z, .int c, .int w] := by
  obtain ⟨r1, r2, r3, r4, r5, r6, r7, r8⟩ := id R
  exact ⟨_, _, R, L4_unit D O X E F Y Z V P G s sg n h nw kn tk wh m kp g pa kt r1 v z c w, L5_unit D M s sg n h nw kn tk wh m kp g pa kt r1 v z c w⟩

theorem S_waiting (D : DX) (O : Nat) (X E F Y Z V : Nat → Nat) (P G : Nat → Nat → Nat) (M : Nat → Nat) (s sg : SS) (n : Nat) (h : Nat → SS) (nw kn : Nat) (tk wh : SS) (m : Nat) (kp : SS) (g : Nat → SS) (pa kt : SS) (R : RelP (s, sg, n, h, nw, kn, tk, wh, m, kp, g, pa, kt)) (v : Int32) : StB D O X E F Y Z V P G M (s, sg, n, h, nw, kn, tk, wh, m, kp, g, pa, kt) yX4_waiting cX4_waiting 3 yX5_waiting cX5_waiting 2 [.int v] := by
  obtain ⟨r1, r2, r3, r4, r5, r6, r7, r8⟩ := id R
  exact ⟨_, _, R, L4_waiting D O X E F Y Z V P G s sg n h nw kn tk wh m kp g pa kt r1 v, L5_waiting D M s sg n h nw kn tk wh m kp g pa kt r1 v⟩

theorem S_both (D : DX) (O : Nat) (X E F Y Z V : Nat → Nat) (P G : Nat → Nat → Nat) (M : Nat → Nat) (s sg : SS) (n : Nat) (h : Nat → SS) (nw kn : Nat) (tk wh : SS) (m : Nat) (kp : SS) (g : Nat → SS) (pa kt : SS) (R : RelP (s, sg, n, h, nw, kn, tk, wh, m, kp, g, pa, kt)) (v z w c : Int32) : StB D O X E F Y Z V P G M (s, sg, n, h, nw, kn, tk, wh, m, kp, g, pa, kt) yX4_both cX4_both 7 yX5_both cX5_both 11 [.int v, .int z, .int w, .int c] := by
  obtain ⟨r1, r2, r3, r4, r5, r6, r7, r8⟩ := id R
  exact ⟨_, _, R, L4_both D O X E F Y Z V P G s sg n h nw kn tk wh m kp g pa kt r1 v z w c, L5_both D M s sg n h nw kn tk wh m kp g pa kt r1 v z w c⟩

theorem S_over (D : DX) (O : Nat) (X E F Y Z V : Nat → Nat) (P G : Nat → Nat → Nat) (M : Nat → Nat) (s sg : SS) (n : Nat) (h : Nat → SS) (nw kn : Nat) (tk wh : SS) (m : Nat) (kp : SS) (g : Nat → SS) (pa kt : SS) (R : RelP (s, sg, n, h, nw, kn, tk, wh, m, kp, g, pa, kt)) (v : Int32) : StB D O X E F Y Z V P G M (s, sg, n, h, nw, kn, tk, wh, m, kp, g, pa, kt) yX4_over cX4_over 2 yX5_over cX5_over 3 [.int v] := by
  obtain ⟨r1, r2, r3, r4, r5, r6, r7, r8⟩ := id R
  exact ⟨_, _, R, L4_over D O X E F Y Z V P G s sg n h nw kn tk wh m kp g pa kt r1 v, L5_over D M s sg n h nw kn tk wh m kp g pa kt r1 v⟩

theorem S_lands (D : DX) (O : Nat) (X E F Y Z V : Nat → Nat) (P G : Nat → Nat → Nat) (M : Nat → Nat) (s sg : SS) (n : Nat) (h : Nat → SS) (nw kn : Nat) (tk wh : SS) (m : Nat) (kp : SS) (g : Nat → SS) (pa kt : SS) (R : RelP (s, sg, n, h, nw, kn, tk, wh, m, kp, g, pa, kt)) (v : Int32) : StB D O X E F Y Z V P G M (s, sg, n, h, nw, kn, tk, wh, m, kp, g, pa, kt) yX4_lands cX4_lands 2 yX5_lands cX5_lands 6 [.int v] := by
  obtain ⟨r1, r2, r3, r4, r5, r6, r7, r8⟩ := id R
  exact ⟨_, _, R, L4_lands D O X E F Y Z V P G s sg n h nw kn tk wh m kp g pa kt r1 v, L5_lands D M s sg n h nw kn tk wh m kp g pa kt r1 v⟩

theorem S_enough (D : DX) (O : Nat) (X E F Y Z V : Nat → Nat) (P G : Nat → Nat → Nat) (M : Nat → Nat) (s sg : SS) (n : Nat) (h : Nat → SS) (nw kn : Nat) (tk wh : SS) (m : Nat) (kp : SS) (g : Nat → SS) (pa kt : SS) (R : RelP (s, sg, n, h, nw, kn, tk, wh, m, kp, g, pa, kt)) (v w : Int32) : StB D O X E F Y Z V P G M (s, sg, n, h, nw, kn, tk, wh, m, kp, g, pa, kt) yX4_enough cX4_enough 4 yX5_enough cX5_enough 6 [.int v, .int w] := by
  obtain ⟨r1, r2, r3, r4, r5, r6, r7, r8⟩ := id R
  exact ⟨_, _, R, L4_enough D O X E F Y Z V P G s sg n h nw kn tk wh m kp g pa kt r1 v w, L5_enough D M s sg n h nw kn tk wh m kp g pa kt r1 v w⟩

theorem S_granted (D : DX) (O : Nat) (X E F Y Z V : Nat → Nat) (P G : Nat → Nat → Nat) (M : Nat → Nat) (s sg : SS) (n : Nat) (h : Nat → SS) (nw kn : Nat) (tk wh : SS) (m : Nat) (kp : SS) (g : Nat → SS) (pa kt : SS) (R : RelP (s, sg, n, h, nw, kn, tk, wh, m, kp, g, pa, kt)) (v : Int32) : StB D O X E F Y Z V P G M (s, sg, n, h, nw, kn, tk, wh, m, kp, g, pa, kt) yX4_granted cX4_granted 3 yX5_granted cX5_granted 4 [.int v] := by
  obtain ⟨r1, r2, r3, r4, r5, r6, r7, r8⟩ := id R
  exact ⟨_, _, R, L4_granted D O X E F Y Z V P G s sg n h nw kn tk wh m kp g pa kt r1 v, L5_granted D M s sg n h nw kn tk wh m kp g pa kt r1 v⟩

theorem S_ranks (D : DX) (O : Nat) (X E F Y Z V : Nat → Nat) (P G : Nat → Nat → Nat) (M : Nat → Nat) (s sg : SS) (n : Nat) (h : Nat → SS) (nw kn : Nat) (tk wh : SS) (m : Nat) (kp : SS) (g : Nat → SS) (pa kt : SS) (R : RelP (s, sg, n, h, nw, kn, tk, wh, m, kp, g, pa, kt)) (v : Int32) : StB D O X E F Y Z V P G M (s, sg, n, h, nw, kn, tk, wh, m, kp, g, pa, kt) yX4_ranks cX4_ranks 4 yX5_ranks cX5_ranks 4 [.int v] := by
  obtain ⟨r1, r2, r3, r4, r5, r6, r7, r8⟩ := id R
  exact ⟨_, _, R, L4_ranks D O X E F Y Z V P G s sg n h nw kn tk wh m kp g pa kt r1 r6 v, L5_ranks D M s sg n h nw kn tk wh m kp g pa kt r1 r6 v⟩

theorem S_count (D : DX) (O : Nat) (X E F Y Z V : Nat → Nat) (P G : Nat → Nat → Nat) (M : Nat → Nat) (s sg : SS) (n : Nat) (h : Nat → SS) (nw kn : Nat) (tk wh : SS) (m : Nat) (kp : SS) (g : Nat → SS) (pa kt : SS) (R : RelP (s, sg, n, h, nw, kn, tk, wh, m, kp, g, pa, kt)) (w : Int32) : StB D O X E F Y Z V P G M (s, sg, n, h, nw, kn, tk, wh, m, kp, g, pa, kt) yX4_count cX4_count 2 yX5_count cX5_count 2 [.int w] := by
  obtain ⟨r1, r2, r3, r4, r5, r6, r7, r8⟩ := id R
  exact ⟨_, _, R, L4_count D O X E F Y Z V P G s sg n h nw kn tk wh m kp g pa kt w, L5_count D M s sg n h nw kn tk wh m kp g pa kt r1 w⟩

theorem S_sees (D : DX) (O : Nat) (X E F Y Z V : Nat → Nat) (P G : Nat → Nat → Nat) (M : Nat → Nat) (s sg : SS) (n : Nat) (h : Nat → SS) (nw kn : Nat) (tk wh : SS) (m : Nat) (kp : SS) (g : Nat → SS) (pa kt : SS) (R : RelP (s, sg, n, h, nw, kn, tk, wh, m, kp, g, pa, kt)) (v w : Int32) : StB D O X E F Y Z V P G M (s, sg, n, h, nw, kn, tk, wh, m, kp, g, pa, kt) yX4_sees cX4_sees 3 yX5_sees cX5_sees 3 [.int v, .int w] := by
  obtain ⟨r1, r2, r3, r4, r5, r6, r7, r8⟩ := id R
  by_cases hb : inR v (nI 1) (nI 40) = true ∧ (inR w (nI 0) (nI 3) = true ∨ w = -9)
  · by_cases hm : m = 6
    · exact ⟨_, _, R, L4_sees_full D O X E F Y Z V P G s sg n h nw kn tk wh m kp g pa kt v w hb hm, L5_sees_full D M s sg n h nw kn tk wh m kp g pa kt v w hb hm⟩
    · have hm : m < 6 := by have := r6.1; omega
      exact ⟨_, _, Rel_sees R hm hb.1, L4_sees_ok D O X E F Y Z V P G s sg n h nw kn tk wh m kp g pa kt v w hb hm, L5_sees_ok D M s sg n h nw kn tk wh m kp g pa kt v w hb hm⟩
  · exact ⟨_, _, R, L4_sees_bad D O X E F Y Z V P G s sg n h nw kn tk wh m kp g pa kt v w hb, L5_sees_bad D M s sg n h nw kn tk wh m kp g pa kt v w hb⟩

theorem S_forget (D : DX) (O : Nat) (X E F Y Z V : Nat → Nat) (P G : Nat → Nat → Nat) (M : Nat → Nat) (s sg : SS) (n : Nat) (h : Nat → SS) (nw kn : Nat) (tk wh : SS) (m : Nat) (kp : SS) (g : Nat → SS) (pa kt : SS) (R : RelP (s, sg, n, h, nw, kn, tk, wh, m, kp, g, pa, kt)) : StB D O X E F Y Z V P G M (s, sg, n, h, nw, kn, tk, wh, m, kp, g, pa, kt) yX4_forget cX4_forget 2 yX5_forget cX5_forget 2 [] := by
  obtain ⟨r1, r2, r3, r4, r5, r6, r7, r8⟩ := id R
  exact ⟨_, _, Rel_forget R, L4_forget D O X E F Y Z V P G s sg n h nw kn tk wh m kp g pa kt , L5_forget D M s sg n h nw kn tk wh m kp g pa kt ⟩

theorem S_keep (D : DX) (O : Nat) (X E F Y Z V : Nat → Nat) (P G : Nat → Nat → Nat) (M : Nat → Nat) (s sg : SS) (n : Nat) (h : Nat → SS) (nw kn : Nat) (tk wh : SS) (m : Nat) (kp : SS) (g : Nat → SS) (pa kt : SS) (R : RelP (s, sg, n, h, nw, kn, tk, wh, m, kp, g, pa, kt)) (v : Int32) : StB D O X E F Y Z V P G M (s, sg, n, h, nw, kn, tk, wh, m, kp, g, pa, kt) yX4_keep cX4_keep 2 yX5_keep cX5_keep 3 [.int v] := by
  obtain ⟨r1, r2, r3, r4, r5, r6, r7, r8⟩ := id R
  by_cases hb : inR v (nI 0) (nI 1) = true
  · obtain ⟨e, h1, h2, rfl⟩ := inR_nat (by decide) (by decide) hb
    exact ⟨_, _, Rel_keep R h2, L4_keep_ok D O X E F Y Z V P G s sg n h nw kn tk wh m kp g pa kt e h2, L5_keep_ok D M s sg n h nw kn tk wh m kp g pa kt r1 e h2⟩
  · exact ⟨_, _, R, L4_keep_bad D O X E F Y Z V P G s sg n h nw kn tk wh m kp g pa kt v (Bool.eq_false_iff.mpr hb), L5_keep_bad D M s sg n h nw kn tk wh m kp g pa kt v (Bool.eq_false_iff.mpr hb)⟩

theorem S_back (D : DX) (O : Nat) (X E F Y Z V : Nat → Nat) (P G : Nat → Nat → Nat) (M : Nat → Nat) (s sg : SS) (n : Nat) (h : Nat → SS) (nw kn : Nat) (tk wh : SS) (m : Nat) (kp : SS) (g : Nat → SS) (pa kt : SS) (R : RelP (s, sg, n, h, nw, kn, tk, wh, m, kp, g, pa, kt)) (v : Int32) : StB D O X E F Y Z V P G M (s, sg, n, h, nw, kn, tk, wh, m, kp, g, pa, kt) yX4_back cX4_back 2 yX5_back cX5_back 3 [.int v] := by
  obtain ⟨r1, r2, r3, r4, r5, r6, r7, r8⟩ := id R
  by_cases hb : inR v (nI 0) (nI 1) = true
  · obtain ⟨e, h1, h2, rfl⟩ := inR_nat (by decide) (by decide) hb
    by_cases hk : kp e = 0
    · exact ⟨_, _, R, L4_back_none D O X E F Y Z V P G s sg n h nw kn tk wh m kp g pa kt e h2 hk, L5_back_none D M s sg n h nw kn tk wh m kp g pa kt e h2 hk⟩
    · obtain ⟨q1, q2, q3, q4⟩ := Rel_back R h2 hk
      exact ⟨_, _, q4, L4_back_ok D O X E F Y Z V P G s sg n h nw kn tk wh m kp g pa kt e h2 q1, L5_back_ok D M s sg n h nw kn tk wh m kp g pa kt e h2 q1 q2 q3⟩
  · exact ⟨_, _, R, L4_back_bad D O X E F Y Z V P G s sg n h nw kn tk wh m kp g pa kt v (Bool.eq_false_iff.mpr hb), L5_back_bad D M s sg n h nw kn tk wh m kp g pa kt v (Bool.eq_false_iff.mpr hb)⟩
