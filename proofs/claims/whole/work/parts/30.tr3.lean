section RU8
variable {D : DX} {Γ : GX} {y : MethodName} {cc : ByteArray} {nL : Nat} {ret : Option FieldType} {R : Room} {Q : State → Prop} {k n : Nat} {w : va_W} {pc : Nat} {lv : List (Nat × Value)} {st : List Value}
theorem j_ldc2 {idx : Nat} {v : Int64} (hl : Cond.constantLong y.cls idx v ∈ lw_g) (hdg : decode cc pc = .ok (.ldc2_w idx, 3)) (kk : J D Γ y cc nL ret R Q k n w (pc + 3) lv (.long v :: st)) : J D Γ y cc nL ret R Q k n w pc lv st := by
  obtain ⟨p, e, s, m, args, below, meth, c, A⟩ := Γ
  intro h H locs ls hP hD hS hl2
  exact lv_ldc2 h.1 h.2.1 h.2.2.2.2.1 (h.2.2.2.2.2.1 _ hl) hdg (kk h H locs ls hP hD hS hl2)
end RU8
def bs1 (x : Int64) : Int64 := x - (usr x 1 &&& 6148914691236517205)
def bs2 (x : Int64) : Int64 := (x &&& 3689348814741910323) + (usr x 2 &&& 3689348814741910323)
def bs3 (x : Int64) : Int64 := (x + usr x 4) &&& 1085102592571150095
def bs4 (k : Nat) (x : Int64) : Int64 := x + usr x k
def uL (x : Int64) : Nat := x.toBitVec.toNat
theorem uL_of (x : Int64) : x = lN (uL x) ∧ uL x < 2 ^ 64 := ⟨wb_inj (by rw [wb_tb]; simp [uL]), x.toBitVec.isLt⟩
theorem bc_x (x : Int64) : bcF x = nI (pcN (uL x) 64) := by
  have h := uL_of x
  have e := bc_N h.2
  rw [← h.1] at e
  exact e
def boF (s : SS) (v z p q : Int32) : Int32 := if (inR v (nI 0) (nI 3) && inR z (nI 0) (nI 5)) = true ∧ (inR p (nI 0) (nI 3) && inR q (nI 0) (nI 5)) = true then (if has s (cl v * 6 + cl z) = true ∧ has s (cl p * 6 + cl q) = true then nI (pcN (uL (wbs s (cl v * 6 + cl z) (un s (cl v * 6 + cl z)) &&& wbs s (cl p * 6 + cl q) (un s (cl p * 6 + cl q)))) 64) else -9) else -1
theorem nI_m1 {j : Nat} (h : j < 2 ^ 31) : ¬ nI j = -1 := by
  intro q
  have e := congrArg Int32.toInt q
  rw [nI_toInt h] at e
  have z : (-1 : Int32).toInt = -1 := by decide
  omega
def doN (sg : SS) (n : Nat) (s : SS) : Nat → SS
  | 0 => s
  | t + 1 => doI (doN sg n s t) (sg (ps sg n t)) (iv sg n (ps sg n t))
def okA (sg : SS) (n : Nat) (s : SS) : Nat → Bool
  | 0 => true
  | t + 1 => okA sg n s t && okI (doN sg n s t) (sg (ps sg n t)) (iv sg n (ps sg n t))
theorem okA_up {sg s : SS} {n i : Nat} (h : okA sg n s i = false) : ∀ d, okA sg n s (i + d) = false
  | 0 => h
  | d + 1 => by show (okA sg n s (i + d) && _) = false; rw [okA_up h d]; rfl
theorem okA_no {sg s : SS} {n i m : Nat} (h : okA sg n s (i + 1) = false) (hm : i < m) : okA sg n s m = false := by
  have := okA_up h (m - (i + 1))
  rw [show i + 1 + (m - (i + 1)) = m by omega] at this
  exact this
theorem Inv_doN {sg s kd nu : SS} {n m : Nat} (h : Inv s) (hg : GoodI sg n kd nu m) : ∀ i, i ≤ m → Inv (doN sg n s i)
  | 0, _ => h
  | i + 1, hi => Inv_do (Inv_doN h hg i (by omega)) (it_ok (hg i (by omega)).1)
theorem prl_le {sg : SS} {n : Nat} (hn : n ≤ 120) : ∀ (f i k : Nat), 5 * i ≤ k → k ≤ n → (prl sg n f i k).2 ≤ 24
  | 0, i, k, h, hk => by show i ≤ 24; omega
  | f + 1, i, k, h, hk => by
    unfold prl
    split
    · rename_i q
      split
      · rename_i q2
        have h1 := it_len q2
        have h2 := it_n (sg := sg) q
        have h3 := sk_le (sg := sg) (n := n) (itR sg n k).2
        exact prl_le hn f (i + 1) _ (by omega) (sk_n h2)
      · show i ≤ 24; omega
    · show i ≤ 24; omega
theorem prA_le {sg : SS} {n : Nat} (hn : n ≤ 120) : (prA sg n).2 ≤ 24 := prl_le hn 25 0 _ (Nat.zero_le _) (sk_n (Nat.zero_le n))
section TR3
variable {D : DX}
set_option maxHeartbeats 4000000 in
set_option maxRecDepth 100000 in
theorem c_X4_posts_fault (O : Nat) (X E F Y Z V : Nat → Nat) (sg kd nu : SS) (k n ic : Nat) (a : Nat → Nat) (hz : zT D a) (hn : n ≤ 120) (f : Nat) (hf : f < 2 ^ 31) (hp : (prA sg n).1 = some f) : Ct D yX4_posts cX4_posts 3 (some .int) ({ frames := 6, cells := 0, slots := 0, locals := 134 } : Room) [.ref O] ((TR D O X E F Y Z V) ++ (TW D X sg kd nu k n ic)) (fun v_ u_ => v_ = some (.int ((-10) - nI f)) ∧ ∃ (kd1 nu1 : SS) (k1 ic1 : Nat), u_ = (TR D O X E F Y Z V) ++ (TW D X sg kd1 nu1 k1 n ic1)) := by
  refine ct_of (by decide) (Nat.le_of_ble_eq_true rfl) (lv0 := [(0, .ref O)]) rfl (fun Γ => ?_)
  refine j_aload_n dX4_posts_0 0 rfl ?_
  refine g_X4_10 rfl dX4_posts_1 0 rfl rfl ?_
  refine j_callV (c_X3_read X sg kd nu k n ic a hz hn) rfl cw_X4_63 rfl ⟨Nat.le_of_ble_eq_true rfl, Nat.le_of_ble_eq_true rfl⟩ ⟨rfl, rfl⟩ ⟨Nat.le_of_ble_eq_true rfl, Nat.le_of_ble_eq_true rfl⟩ dX4_posts_4 (rest := []) rfl (Nat.le_of_ble_eq_true rfl) [1, 2, 3, 4] rfl rfl 3 0 rfl rfl rfl (fun v_ w_ hf_ => ?_)
  obtain ⟨rfl, kd1, nu1, k1, rfl, hg⟩ := hf_
  refine ⟨rfl, ?_⟩
  refine j_ws (w2 := (TR D O X E F Y Z V) ++ (TW D X sg kd1 nu1 k1 n ((prA sg n).2))) (st2 := [.int (rdI sg n)]) rfl rfl ?_
  refine j_topi (v := nI f) (by unfold rdI; rw [hp]) ?_
  refine j_istore_n (lv2 := [(0, .ref O), (1, .int (nI f))]) dX4_posts_7 (by decide) [1, 0] rfl ?_
  refine j_iload_n dX4_posts_8 1 rfl ?_
  refine j_iconst (v := (-1)) dX4_posts_9 (by decide) ?_
  refine j_icmp_eq (tgt := 18) dX4_posts_10 (by decide) (fun h10 => absurd h10 (nI_m1 hf)) (fun h10 => ?_)
  refine j_bipush (v := (-10)) dX4_posts_13 (by decide) ?_
  refine j_iload_n dX4_posts_15 1 rfl ?_
  refine j_isub (v := (-10) - (nI f)) dX4_posts_16 (rfl) ?_
  exact j_iret dX4_posts_17 ⟨rfl, rfl⟩ ⟨rfl, _, _, _, _, rfl⟩

set_option maxHeartbeats 4000000 in
set_option maxRecDepth 100000 in
theorem c_X4_posts_full (O : Nat) (X E F Y Z V : Nat → Nat) (sg kd nu : SS) (k n ic : Nat) (a : Nat → Nat) (hz : zT D a) (hn : n ≤ 120) (s t0 : SS) (hI : Inv s) (hp : (prA sg n).1 = none) (hA : okA sg n s (prA sg n).2 = false) : Ct D yX4_posts cX4_posts 3 (some .int) ({ frames := 6, cells := 0, slots := 0, locals := 134 } : Room) [.ref O] ((TR D O X E F Y Z V) ++ (TW D X sg kd nu k n ic) ++ (EW D E s) ++ (EW D F t0)) (fun v_ u_ => v_ = some (.int (-3)) ∧ ∃ (kd1 nu1 : SS) (k1 : Nat) (t1 : SS), u_ = (TR D O X E F Y Z V) ++ (TW D X sg kd1 nu1 k1 n ((prA sg n).2)) ++ (EW D E s) ++ (EW D F t1)) := by
  have hM := prA_le (sg := sg) hn
  refine ct_of (by decide) (Nat.le_of_ble_eq_true rfl) (lv0 := [(0, .ref O)]) rfl (fun Γ => ?_)
  refine j_aload_n dX4_posts_0 0 rfl ?_
  refine g_X4_10 rfl dX4_posts_1 0 rfl rfl ?_
  refine j_callV (c_X3_read X sg kd nu k n ic a hz hn) rfl cw_X4_63 rfl ⟨Nat.le_of_ble_eq_true rfl, Nat.le_of_ble_eq_true rfl⟩ ⟨rfl, rfl⟩ ⟨Nat.le_of_ble_eq_true rfl, Nat.le_of_ble_eq_true rfl⟩ dX4_posts_4 (rest := []) rfl (Nat.le_of_ble_eq_true rfl) [1, 2, 3, 4] rfl rfl 3 0 rfl rfl rfl (fun v_ w_ hf_ => ?_)
  obtain ⟨rfl, kd1, nu1, k1, rfl, hg⟩ := hf_
  refine ⟨rfl, ?_⟩
  refine j_ws (w2 := (TR D O X E F Y Z V) ++ (TW D X sg kd1 nu1 k1 n ((prA sg n).2)) ++ (EW D E s) ++ (EW D F t0)) (st2 := [.int (rdI sg n)]) rfl rfl ?_
  refine j_topi (v := (-1)) (by unfold rdI; rw [hp]) ?_
  have hg := hg hp
  refine j_istore_n (lv2 := [(0, .ref O), (1, .int (-1))]) dX4_posts_7 (by decide) [1, 0] rfl ?_
  refine j_iload_n dX4_posts_8 1 rfl ?_
  refine j_iconst (v := (-1)) dX4_posts_9 (by decide) ?_
  refine j_icmp_eq (tgt := 18) dX4_posts_10 (by decide) (fun h10 => ?_) (fun h10 => absurd rfl h10)
  refine j_aload_n dX4_posts_18 0 rfl ?_
  refine g_X4_23 rfl dX4_posts_19 0 rfl rfl ?_
  refine j_aload_n dX4_posts_22 0 rfl ?_
  refine g_X4_19 rfl dX4_posts_23 0 rfl rfl ?_
  refine j_V (w2 := (TR D O X E F Y Z V) ++ (TW D X sg kd1 nu1 k1 n ((prA sg n).2)) ++ (EW D E s) ++ (EW D F s)) (st2 := []) (c_X0_copyFrom F E t0 s) rfl cw_X4_67 dX4_posts_26 [] rfl [10, 11, 12, 13, 14, 5, 6, 7, 8, 9] rfl rfl rfl 0 ?_ ⟨rfl, ⟨Nat.le_of_ble_eq_true rfl, Nat.le_of_ble_eq_true rfl⟩, ⟨rfl, rfl⟩, ⟨Nat.le_of_ble_eq_true rfl, Nat.le_of_ble_eq_true rfl⟩, Nat.le_of_ble_eq_true rfl, rfl, rfl⟩ rfl rfl rfl
  refine j_iconst (v := nI 0) dX4_posts_29 (by decide) ?_
  refine j_istore_n (lv2 := [(0, .ref O), (1, .int (-1)), (2, .int (nI 0))]) dX4_posts_30 (by decide) [1, 2, 0] rfl ?_
  have L31 : ∀ (fuel : Nat) (i : Nat), i ≤ (prA sg n).2 → okA sg n s i = true → (prA sg n).2 - i < fuel → J D Γ yX4_posts cX4_posts 3 (some .int) ({ frames := 6, cells := 0, slots := 0, locals := 134 } : Room) (Qf D Γ ({ frames := 6, cells := 0, slots := 0, locals := 134 } : Room) (fun v_ u_ => v_ = some (.int (-3)) ∧ ∃ (kd1 nu1 : SS) (k1 : Nat) (t1 : SS), u_ = (TR D O X E F Y Z V) ++ (TW D X sg kd1 nu1 k1 n ((prA sg n).2)) ++ (EW D E s) ++ (EW D F t1))) 0 0 ((TR D O X E F Y Z V) ++ (TW D X sg kd1 nu1 k1 n ((prA sg n).2)) ++ (EW D E s) ++ (EW D F (doN sg n s i))) 31 [(0, .ref O), (1, .int (-1)), (2, .int (nI i))] [] := by
    intro fuel
    induction fuel with
    | zero => intro i hi he hm; exact absurd hm (Nat.not_lt_zero _)
    | succ fuel ih =>
      intro i hi he hm
      refine j_iload_n dX4_posts_31 2 rfl ?_
      refine j_aload_n dX4_posts_32 0 rfl ?_
      refine g_X4_10 rfl dX4_posts_33 0 rfl rfl ?_
      refine g_X4_71 rfl dX4_posts_36 1 rfl rfl ?_
      refine j_icmp_ge_N (tgt := 66) dX4_posts_39 (by decide) ⟨by omega, by omega⟩ (fun h39 => absurd (by rw [← he, show i = (prA sg n).2 by omega]) (nBool hA)) (fun h39 => ?_)
      refine j_aload_n dX4_posts_42 0 rfl ?_
      refine g_X4_23 rfl dX4_posts_43 0 rfl rfl ?_
      refine j_aload_n dX4_posts_46 0 rfl ?_
      refine g_X4_10 rfl dX4_posts_47 0 rfl rfl ?_
      refine j_iload_n dX4_posts_50 2 rfl ?_
      obtain ⟨g1, g2, g3, g4⟩ := hg i (by omega)
      have hit := it_ok g1
      have hcg := doI_cong (s := doN sg n s i) (v := fun q => nu1 (i * 10 + q)) g4 hit.1
      have hv : ItOk (kd1 i) (fun q => nu1 (i * 10 + q)) := by
        rw [g3]; exact ⟨hit.1, fun q hq => by show inR (nu1 (i * 10 + q)) _ _ = true; rw [g4 q hq]; exact hit.2 q hq⟩
      refine j_V (w2 := (TR D O X E F Y Z V) ++ (TW D X sg kd1 nu1 k1 n ((prA sg n).2)) ++ (EW D E s) ++ (EW D F (if okI (doN sg n s i) (kd1 i) (fun q => nu1 (i * 10 + q)) = true then doI (doN sg n s i) (kd1 i) (fun q => nu1 (i * 10 + q)) else (doN sg n s i)))) (st2 := [.int (bI (okI (doN sg n s i) (kd1 i) (fun q => nu1 (i * 10 + q))))]) (c_X0_take F X (doN sg n s i) sg kd1 nu1 k1 n (prA sg n).2 (Inv_doN hI hg i (by omega)) i (by omega) hv) rfl cw_X4_74 dX4_posts_51 [] rfl [10, 11, 12, 13, 14, 1, 2, 3, 4] rfl rfl rfl 0 ?_ ⟨rfl, ⟨Nat.le_of_ble_eq_true rfl, Nat.le_of_ble_eq_true rfl⟩, ⟨rfl, rfl⟩, ⟨Nat.le_of_ble_eq_true rfl, Nat.le_of_ble_eq_true rfl⟩, Nat.le_of_ble_eq_true rfl, rfl, rfl⟩ rfl rfl rfl
      refine j_if_ne_B (tgt := 60) dX4_posts_54 (by decide) (fun h54 => ?_) (fun h54 => ?_)
      · skip
        refine j_w (w2 := (TR D O X E F Y Z V) ++ (TW D X sg kd1 nu1 k1 n ((prA sg n).2)) ++ (EW D E s) ++ (EW D F (doN sg n s (i + 1)))) (by rw [if_pos h54, g3, hcg.1]; rfl) ?_
        refine j_iinc (v := nI (i + 1)) (lv2 := [(0, .ref O), (1, .int (-1)), (2, .int (nI (i + 1)))]) dX4_posts_60 2 rfl (nI_1 _) (by decide) [1, 2, 0] rfl ?_
        refine j_goto (tgt := 31) dX4_posts_63 (by decide) ?_
        exact ih (i + 1) (by omega) (by show (okA sg n s i && _) = true; rw [he, ← hcg.2, ← g3, h54]; rfl) (by omega)
      · skip
        refine j_bipush (v := (-3)) dX4_posts_57 (by decide) ?_
        exact j_iret dX4_posts_59 ⟨rfl, rfl⟩ ⟨rfl, _, _, _, _, rfl⟩
  exact L31 ((prA sg n).2 + 1) 0 (by omega) rfl (by omega)

set_option maxHeartbeats 4000000 in
set_option maxRecDepth 100000 in
theorem c_X4_posts_ok (O : Nat) (X E F Y Z V : Nat → Nat) (sg kd nu : SS) (k n ic : Nat) (a : Nat → Nat) (hz : zT D a) (hn : n ≤ 120) (s t0 : SS) (hI : Inv s) (hp : (prA sg n).1 = none) (P : Nat → Nat → Nat) (nw kn j : Nat) (t : SS) (hj : j = (nw + 1) % 6) (hnw : nw < 6) (hkn : kn ≤ 6) (hA : okA sg n s (prA sg n).2 = true) : Ct D yX4_posts cX4_posts 3 (some .int) ({ frames := 6, cells := 0, slots := 0, locals := 134 } : Room) [.ref O] ((TR D O X E F Y Z V) ++ (TW D X sg kd nu k n ic) ++ (EW D E s) ++ (EW D F t0) ++ (HO D Y P nw kn) ++ (EW D (P j) t)) (fun v_ u_ => v_ = some (.int (nI (prA sg n).2)) ∧ ∃ (kd1 nu1 : SS) (k1 : Nat), u_ = (TR D O X E F Y Z V) ++ (TW D X sg kd1 nu1 k1 0 ((prA sg n).2)) ++ (EW D E (doN sg n s (prA sg n).2)) ++ (EW D F (doN sg n s (prA sg n).2)) ++ (HO D Y P j (min (kn + 1) 6)) ++ (EW D (P j) s)) := by
  have hM := prA_le (sg := sg) hn
  refine ct_of (by decide) (Nat.le_of_ble_eq_true rfl) (lv0 := [(0, .ref O)]) rfl (fun Γ => ?_)
  refine j_aload_n dX4_posts_0 0 rfl ?_
  refine g_X4_10 rfl dX4_posts_1 0 rfl rfl ?_
  refine j_callV (c_X3_read X sg kd nu k n ic a hz hn) rfl cw_X4_63 rfl ⟨Nat.le_of_ble_eq_true rfl, Nat.le_of_ble_eq_true rfl⟩ ⟨rfl, rfl⟩ ⟨Nat.le_of_ble_eq_true rfl, Nat.le_of_ble_eq_true rfl⟩ dX4_posts_4 (rest := []) rfl (Nat.le_of_ble_eq_true rfl) [1, 2, 3, 4] rfl rfl 3 0 rfl rfl rfl (fun v_ w_ hf_ => ?_)
  obtain ⟨rfl, kd1, nu1, k1, rfl, hg⟩ := hf_
  refine ⟨rfl, ?_⟩
  refine j_ws (w2 := (TR D O X E F Y Z V) ++ (TW D X sg kd1 nu1 k1 n ((prA sg n).2)) ++ (EW D E s) ++ (EW D F t0) ++ (HO D Y P nw kn) ++ (EW D (P j) t)) (st2 := [.int (rdI sg n)]) rfl rfl ?_
  refine j_topi (v := (-1)) (by unfold rdI; rw [hp]) ?_
  have hg := hg hp
  refine j_istore_n (lv2 := [(0, .ref O), (1, .int (-1))]) dX4_posts_7 (by decide) [1, 0] rfl ?_
  refine j_iload_n dX4_posts_8 1 rfl ?_
  refine j_iconst (v := (-1)) dX4_posts_9 (by decide) ?_
  refine j_icmp_eq (tgt := 18) dX4_posts_10 (by decide) (fun h10 => ?_) (fun h10 => absurd rfl h10)
  refine j_aload_n dX4_posts_18 0 rfl ?_
  refine g_X4_23 rfl dX4_posts_19 0 rfl rfl ?_
  refine j_aload_n dX4_posts_22 0 rfl ?_
  refine g_X4_19 rfl dX4_posts_23 0 rfl rfl ?_
  refine j_V (w2 := (TR D O X E F Y Z V) ++ (TW D X sg kd1 nu1 k1 n ((prA sg n).2)) ++ (EW D E s) ++ (EW D F s) ++ (HO D Y P nw kn) ++ (EW D (P j) t)) (st2 := []) (c_X0_copyFrom F E t0 s) rfl cw_X4_67 dX4_posts_26 [] rfl [10, 11, 12, 13, 14, 5, 6, 7, 8, 9] rfl rfl rfl 0 ?_ ⟨rfl, ⟨Nat.le_of_ble_eq_true rfl, Nat.le_of_ble_eq_true rfl⟩, ⟨rfl, rfl⟩, ⟨Nat.le_of_ble_eq_true rfl, Nat.le_of_ble_eq_true rfl⟩, Nat.le_of_ble_eq_true rfl, rfl, rfl⟩ rfl rfl rfl
  refine j_iconst (v := nI 0) dX4_posts_29 (by decide) ?_
  refine j_istore_n (lv2 := [(0, .ref O), (1, .int (-1)), (2, .int (nI 0))]) dX4_posts_30 (by decide) [1, 2, 0] rfl ?_
  have L31 : ∀ (fuel : Nat) (i : Nat), i ≤ (prA sg n).2 → okA sg n s i = true → (prA sg n).2 - i < fuel → J D Γ yX4_posts cX4_posts 3 (some .int) ({ frames := 6, cells := 0, slots := 0, locals := 134 } : Room) (Qf D Γ ({ frames := 6, cells := 0, slots := 0, locals := 134 } : Room) (fun v_ u_ => v_ = some (.int (nI (prA sg n).2)) ∧ ∃ (kd1 nu1 : SS) (k1 : Nat), u_ = (TR D O X E F Y Z V) ++ (TW D X sg kd1 nu1 k1 0 ((prA sg n).2)) ++ (EW D E (doN sg n s (prA sg n).2)) ++ (EW D F (doN sg n s (prA sg n).2)) ++ (HO D Y P j (min (kn + 1) 6)) ++ (EW D (P j) s))) 0 0 ((TR D O X E F Y Z V) ++ (TW D X sg kd1 nu1 k1 n ((prA sg n).2)) ++ (EW D E s) ++ (EW D F (doN sg n s i)) ++ (HO D Y P nw kn) ++ (EW D (P j) t)) 31 [(0, .ref O), (1, .int (-1)), (2, .int (nI i))] [] := by
    intro fuel
    induction fuel with
    | zero => intro i hi he hm; exact absurd hm (Nat.not_lt_zero _)
    | succ fuel ih =>
      intro i hi he hm
      refine j_iload_n dX4_posts_31 2 rfl ?_
      refine j_aload_n dX4_posts_32 0 rfl ?_
      refine g_X4_10 rfl dX4_posts_33 0 rfl rfl ?_
      refine g_X4_71 rfl dX4_posts_36 1 rfl rfl ?_
      refine j_icmp_ge_N (tgt := 66) dX4_posts_39 (by decide) ⟨by omega, by omega⟩ (fun h39 => ?_) (fun h39 => ?_)
      · skip
        have hiM : i = (prA sg n).2 := by omega
        subst hiM
        refine j_aload_n dX4_posts_66 0 rfl ?_
        refine g_X4_29 rfl dX4_posts_67 0 rfl rfl ?_
        refine j_aload_n dX4_posts_70 0 rfl ?_
        refine g_X4_19 rfl dX4_posts_71 0 rfl rfl ?_
        refine j_V (w2 := (TR D O X E F Y Z V) ++ (TW D X sg kd1 nu1 k1 n ((prA sg n).2)) ++ (EW D E s) ++ (EW D F (doN sg n s (prA sg n).2)) ++ (HO D Y P j (min (kn + 1) 6)) ++ (EW D (P j) s)) (st2 := []) (c_X1_remember Y P nw kn j t E s hj (by omega) (by omega)) rfl cw_X4_78 dX4_posts_74 [] rfl [15, 16, 17, 18, 19, 20, 21, 5, 6, 7, 8, 9] rfl rfl rfl 1 ?_ ⟨rfl, ⟨Nat.le_of_ble_eq_true rfl, Nat.le_of_ble_eq_true rfl⟩, ⟨rfl, rfl⟩, ⟨Nat.le_of_ble_eq_true rfl, Nat.le_of_ble_eq_true rfl⟩, Nat.le_of_ble_eq_true rfl, rfl, rfl⟩ rfl rfl rfl
        refine j_aload_n dX4_posts_77 0 rfl ?_
        refine g_X4_19 rfl dX4_posts_78 0 rfl rfl ?_
        refine j_aload_n dX4_posts_81 0 rfl ?_
        refine g_X4_23 rfl dX4_posts_82 0 rfl rfl ?_
        refine j_V (w2 := (TR D O X E F Y Z V) ++ (TW D X sg kd1 nu1 k1 n ((prA sg n).2)) ++ (EW D E (doN sg n s (prA sg n).2)) ++ (EW D F (doN sg n s (prA sg n).2)) ++ (HO D Y P j (min (kn + 1) 6)) ++ (EW D (P j) s)) (st2 := []) (c_X0_copyFrom E F s (doN sg n s (prA sg n).2)) rfl cw_X4_67 dX4_posts_85 [] rfl [5, 6, 7, 8, 9, 10, 11, 12, 13, 14] rfl rfl rfl 0 ?_ ⟨rfl, ⟨Nat.le_of_ble_eq_true rfl, Nat.le_of_ble_eq_true rfl⟩, ⟨rfl, rfl⟩, ⟨Nat.le_of_ble_eq_true rfl, Nat.le_of_ble_eq_true rfl⟩, Nat.le_of_ble_eq_true rfl, rfl, rfl⟩ rfl rfl rfl
        refine j_aload_n dX4_posts_88 0 rfl ?_
        refine g_X4_10 rfl dX4_posts_89 0 rfl rfl ?_
        refine j_V (w2 := (TR D O X E F Y Z V) ++ (TW D X sg kd1 nu1 k1 0 ((prA sg n).2)) ++ (EW D E (doN sg n s (prA sg n).2)) ++ (EW D F (doN sg n s (prA sg n).2)) ++ (HO D Y P j (min (kn + 1) 6)) ++ (EW D (P j) s)) (st2 := []) (c_X3_wipe X sg kd1 nu1 k1 n ((prA sg n).2)) rfl cw_X4_60 dX4_posts_92 [] rfl [1, 2, 3, 4] rfl rfl rfl 3 ?_ ⟨rfl, ⟨Nat.le_of_ble_eq_true rfl, Nat.le_of_ble_eq_true rfl⟩, ⟨rfl, rfl⟩, ⟨Nat.le_of_ble_eq_true rfl, Nat.le_of_ble_eq_true rfl⟩, Nat.le_of_ble_eq_true rfl, rfl, rfl⟩ rfl rfl rfl
        refine j_aload_n dX4_posts_95 0 rfl ?_
        refine g_X4_10 rfl dX4_posts_96 0 rfl rfl ?_
        refine g_X4_71 rfl dX4_posts_99 1 rfl rfl ?_
        exact j_iret dX4_posts_102 ⟨rfl, rfl⟩ ⟨rfl, _, _, _, rfl⟩
      · skip
        refine j_aload_n dX4_posts_42 0 rfl ?_
        refine g_X4_23 rfl dX4_posts_43 0 rfl rfl ?_
        refine j_aload_n dX4_posts_46 0 rfl ?_
        refine g_X4_10 rfl dX4_posts_47 0 rfl rfl ?_
        refine j_iload_n dX4_posts_50 2 rfl ?_
        obtain ⟨g1, g2, g3, g4⟩ := hg i (by omega)
        have hit := it_ok g1
        have hcg := doI_cong (s := doN sg n s i) (v := fun q => nu1 (i * 10 + q)) g4 hit.1
        have hv : ItOk (kd1 i) (fun q => nu1 (i * 10 + q)) := by
          rw [g3]; exact ⟨hit.1, fun q hq => by show inR (nu1 (i * 10 + q)) _ _ = true; rw [g4 q hq]; exact hit.2 q hq⟩
        refine j_V (w2 := (TR D O X E F Y Z V) ++ (TW D X sg kd1 nu1 k1 n ((prA sg n).2)) ++ (EW D E s) ++ (EW D F (if okI (doN sg n s i) (kd1 i) (fun q => nu1 (i * 10 + q)) = true then doI (doN sg n s i) (kd1 i) (fun q => nu1 (i * 10 + q)) else (doN sg n s i))) ++ (HO D Y P nw kn) ++ (EW D (P j) t)) (st2 := [.int (bI (okI (doN sg n s i) (kd1 i) (fun q => nu1 (i * 10 + q))))]) (c_X0_take F X (doN sg n s i) sg kd1 nu1 k1 n (prA sg n).2 (Inv_doN hI hg i (by omega)) i (by omega) hv) rfl cw_X4_74 dX4_posts_51 [] rfl [10, 11, 12, 13, 14, 1, 2, 3, 4] rfl rfl rfl 0 ?_ ⟨rfl, ⟨Nat.le_of_ble_eq_true rfl, Nat.le_of_ble_eq_true rfl⟩, ⟨rfl, rfl⟩, ⟨Nat.le_of_ble_eq_true rfl, Nat.le_of_ble_eq_true rfl⟩, Nat.le_of_ble_eq_true rfl, rfl, rfl⟩ rfl rfl rfl
        refine j_if_ne_B (tgt := 60) dX4_posts_54 (by decide) (fun h54 => ?_) (fun h54 => absurd hA (nBool (okA_no (by show (okA sg n s i && _) = false; rw [← hcg.2, ← g3, h54, Bool.and_false]) (by omega))))
        refine j_w (w2 := (TR D O X E F Y Z V) ++ (TW D X sg kd1 nu1 k1 n ((prA sg n).2)) ++ (EW D E s) ++ (EW D F (doN sg n s (i + 1))) ++ (HO D Y P nw kn) ++ (EW D (P j) t)) (by rw [if_pos h54, g3, hcg.1]; rfl) ?_
        refine j_iinc (v := nI (i + 1)) (lv2 := [(0, .ref O), (1, .int (-1)), (2, .int (nI (i + 1)))]) dX4_posts_60 2 rfl (nI_1 _) (by decide) [1, 2, 0] rfl ?_
        refine j_goto (tgt := 31) dX4_posts_63 (by decide) ?_
        exact ih (i + 1) (by omega) (by show (okA sg n s i && _) = true; rw [he, ← hcg.2, ← g3, h54]; rfl) (by omega)
  exact L31 ((prA sg n).2 + 1) 0 (by omega) rfl (by omega)

set_option maxHeartbeats 4000000 in
set_option maxRecDepth 100000 in
theorem c_J13_bitCount_95d88 (x : Int64) : Ct D yJ13_bitCount_95d88 cJ13_bitCount_95d88 2 (some .int) ({ frames := 0, cells := 0, slots := 0, locals := 0 } : Room) [.long x] (([] : va_W)) (fun v_ u_ => v_ = some (.int (bcF x)) ∧ u_ = ([] : va_W)) := by
  refine ct_ofF (by decide +kernel) (Nat.le_of_ble_eq_true rfl) (lv0 := [(0, .long x)]) rfl (fun Γ => ?_)
  refine j_lload_n dJ13_bitCount_95d88_0 0 rfl ?_
  refine j_lload_n dJ13_bitCount_95d88_1 0 rfl ?_
  refine j_iconst (v := nI 1) dJ13_bitCount_95d88_2 (by decide) ?_
  refine j_lushr (v := usr x 1) dJ13_bitCount_95d88_3 (rfl) ?_
  refine j_ldc2 (v := 6148914691236517205) m_kl_314 dJ13_bitCount_95d88_4 ?_
  refine j_land (v := (usr x 1) &&& (6148914691236517205 : Int64)) dJ13_bitCount_95d88_7 (rfl) ?_
  refine j_lsub (v := x - ((usr x 1) &&& (6148914691236517205 : Int64))) dJ13_bitCount_95d88_8 (rfl) ?_
  refine j_topl (v := bs1 x) rfl ?_
  refine j_lstore_n (lv2 := [(0, .long (bs1 x))]) dJ13_bitCount_95d88_9 (by decide) [0] rfl ?_
  refine j_lload_n dJ13_bitCount_95d88_10 0 rfl ?_
  refine j_ldc2 (v := 3689348814741910323) m_kl_316 dJ13_bitCount_95d88_11 ?_
  refine j_land (v := (bs1 x) &&& (3689348814741910323 : Int64)) dJ13_bitCount_95d88_14 (rfl) ?_
  refine j_lload_n dJ13_bitCount_95d88_15 0 rfl ?_
  refine j_iconst (v := nI 2) dJ13_bitCount_95d88_16 (by decide) ?_
  refine j_lushr (v := usr (bs1 x) 2) dJ13_bitCount_95d88_17 (rfl) ?_
  refine j_ldc2 (v := 3689348814741910323) m_kl_316 dJ13_bitCount_95d88_18 ?_
  refine j_land (v := (usr (bs1 x) 2) &&& (3689348814741910323 : Int64)) dJ13_bitCount_95d88_21 (rfl) ?_
  refine j_ladd (v := ((bs1 x) &&& (3689348814741910323 : Int64)) + ((usr (bs1 x) 2) &&& (3689348814741910323 : Int64))) dJ13_bitCount_95d88_22 (rfl) ?_
  refine j_topl (v := bs2 (bs1 x)) rfl ?_
  refine j_lstore_n (lv2 := [(0, .long (bs2 (bs1 x)))]) dJ13_bitCount_95d88_23 (by decide) [0] rfl ?_
  refine j_lload_n dJ13_bitCount_95d88_24 0 rfl ?_
  refine j_lload_n dJ13_bitCount_95d88_25 0 rfl ?_
  refine j_iconst (v := nI 4) dJ13_bitCount_95d88_26 (by decide) ?_
  refine j_lushr (v := usr (bs2 (bs1 x)) 4) dJ13_bitCount_95d88_27 (rfl) ?_
  refine j_ladd (v := (bs2 (bs1 x)) + (usr (bs2 (bs1 x)) 4)) dJ13_bitCount_95d88_28 (rfl) ?_
  refine j_ldc2 (v := 1085102592571150095) m_kl_318 dJ13_bitCount_95d88_29 ?_
  refine j_land (v := ((bs2 (bs1 x)) + (usr (bs2 (bs1 x)) 4)) &&& (1085102592571150095 : Int64)) dJ13_bitCount_95d88_32 (rfl) ?_
  refine j_topl (v := bs3 (bs2 (bs1 x))) rfl ?_
  refine j_lstore_n (lv2 := [(0, .long (bs3 (bs2 (bs1 x))))]) dJ13_bitCount_95d88_33 (by decide) [0] rfl ?_
  refine j_lload_n dJ13_bitCount_95d88_34 0 rfl ?_
  refine j_lload_n dJ13_bitCount_95d88_35 0 rfl ?_
  refine j_bipush (v := nI 8) dJ13_bitCount_95d88_36 (by decide) ?_
  refine j_lushr (v := usr (bs3 (bs2 (bs1 x))) 8) dJ13_bitCount_95d88_38 (rfl) ?_
  refine j_ladd (v := (bs3 (bs2 (bs1 x))) + (usr (bs3 (bs2 (bs1 x))) 8)) dJ13_bitCount_95d88_39 (rfl) ?_
  refine j_topl (v := bs4 8 (bs3 (bs2 (bs1 x)))) rfl ?_
  refine j_lstore_n (lv2 := [(0, .long (bs4 8 (bs3 (bs2 (bs1 x)))))]) dJ13_bitCount_95d88_40 (by decide) [0] rfl ?_
  refine j_lload_n dJ13_bitCount_95d88_41 0 rfl ?_
  refine j_lload_n dJ13_bitCount_95d88_42 0 rfl ?_
  refine j_bipush (v := nI 16) dJ13_bitCount_95d88_43 (by decide) ?_
  refine j_lushr (v := usr (bs4 8 (bs3 (bs2 (bs1 x)))) 16) dJ13_bitCount_95d88_45 (rfl) ?_
  refine j_ladd (v := (bs4 8 (bs3 (bs2 (bs1 x)))) + (usr (bs4 8 (bs3 (bs2 (bs1 x)))) 16)) dJ13_bitCount_95d88_46 (rfl) ?_
  refine j_topl (v := bs4 16 (bs4 8 (bs3 (bs2 (bs1 x))))) rfl ?_
  refine j_lstore_n (lv2 := [(0, .long (bs4 16 (bs4 8 (bs3 (bs2 (bs1 x))))))]) dJ13_bitCount_95d88_47 (by decide) [0] rfl ?_
  refine j_lload_n dJ13_bitCount_95d88_48 0 rfl ?_
  refine j_lload_n dJ13_bitCount_95d88_49 0 rfl ?_
  refine j_bipush (v := nI 32) dJ13_bitCount_95d88_50 (by decide) ?_
  refine j_lushr (v := usr (bs4 16 (bs4 8 (bs3 (bs2 (bs1 x))))) 32) dJ13_bitCount_95d88_52 (rfl) ?_
  refine j_ladd (v := (bs4 16 (bs4 8 (bs3 (bs2 (bs1 x))))) + (usr (bs4 16 (bs4 8 (bs3 (bs2 (bs1 x))))) 32)) dJ13_bitCount_95d88_53 (rfl) ?_
  refine j_topl (v := bs4 32 (bs4 16 (bs4 8 (bs3 (bs2 (bs1 x)))))) rfl ?_
  refine j_lstore_n (lv2 := [(0, .long (bs4 32 (bs4 16 (bs4 8 (bs3 (bs2 (bs1 x)))))))]) dJ13_bitCount_95d88_54 (by decide) [0] rfl ?_
  refine j_lload_n dJ13_bitCount_95d88_55 0 rfl ?_
  refine j_l2i (v := (bs4 32 (bs4 16 (bs4 8 (bs3 (bs2 (bs1 x)))))).toInt32) dJ13_bitCount_95d88_56 (rfl) ?_
  refine j_bipush (v := nI 127) dJ13_bitCount_95d88_57 (by decide) ?_
  refine j_iand (v := ((bs4 32 (bs4 16 (bs4 8 (bs3 (bs2 (bs1 x)))))).toInt32) &&& (nI 127)) dJ13_bitCount_95d88_59 (rfl) ?_
  exact j_iret dJ13_bitCount_95d88_60 ⟨rfl, rfl⟩ ⟨rfl, rfl⟩

set_option maxHeartbeats 4000000 in
set_option maxRecDepth 100000 in
theorem c_X4_both (O : Nat) (X E F Y Z V : Nat → Nat) (s : SS) (hI : Inv s) (v z p q : Int32) : Ct D yX4_both cX4_both 7 (some .int) ({ frames := 3, cells := 0, slots := 0, locals := 74 } : Room) [.ref O, .int v, .int z, .int p, .int q] ((TR D O X E F Y Z V) ++ (EW D E s)) (fun v_ u_ => v_ = some (.int (boF s v z p q)) ∧ u_ = (TR D O X E F Y Z V) ++ (EW D E s)) := by
  refine ct_of (by decide) (Nat.le_of_ble_eq_true rfl) (lv0 := [(0, .ref O), (1, .int v), (2, .int z), (3, .int p), (4, .int q)]) rfl (fun Γ => ?_)
  refine j_iload_n dX4_both_0 1 rfl ?_
  refine j_iload_n dX4_both_1 2 rfl ?_
  refine j_S (w2 := (TR D O X E F Y Z V) ++ (EW D E s)) (st2 := [.int (bI (inR v (nI 0) (nI 3) && inR z (nI 0) (nI 5)))]) (c_X4_isSlot v z) rfl cw_X4_120 dX4_both_2 [] rfl [] rfl rfl rfl ?_ ⟨rfl, ⟨Nat.le_of_ble_eq_true rfl, Nat.le_of_ble_eq_true rfl⟩, ⟨rfl, rfl⟩, ⟨Nat.le_of_ble_eq_true rfl, Nat.le_of_ble_eq_true rfl⟩, Nat.le_of_ble_eq_true rfl, rfl, rfl⟩
  refine j_if_eq_B (tgt := 17) dX4_both_5 (by decide) (fun h5 => ?_) (fun h5 => ?_)
  · skip
    refine j_iconst (v := (-1)) dX4_both_17 (by decide) ?_
    exact j_iret dX4_both_18 ⟨rfl, rfl⟩ ⟨by rw [show boF s v z p q = -1 from if_neg (fun r => nBool h5 r.1)], rfl⟩
  · skip
    refine j_iload_n dX4_both_8 3 rfl ?_
    refine j_iload dX4_both_9 4 rfl ?_
    refine j_S (w2 := (TR D O X E F Y Z V) ++ (EW D E s)) (st2 := [.int (bI (inR p (nI 0) (nI 3) && inR q (nI 0) (nI 5)))]) (c_X4_isSlot p q) rfl cw_X4_120 dX4_both_11 [] rfl [] rfl rfl rfl ?_ ⟨rfl, ⟨Nat.le_of_ble_eq_true rfl, Nat.le_of_ble_eq_true rfl⟩, ⟨rfl, rfl⟩, ⟨Nat.le_of_ble_eq_true rfl, Nat.le_of_ble_eq_true rfl⟩, Nat.le_of_ble_eq_true rfl, rfl, rfl⟩
    refine j_if_ne_B (tgt := 19) dX4_both_14 (by decide) (fun h14 => ?_) (fun h14 => ?_)
    · skip
      obtain ⟨hv1, hv2⟩ := (Bool.and_eq_true _ _).mp h5
      obtain ⟨hv3, hv4⟩ := (Bool.and_eq_true _ _).mp h14
      obtain ⟨c, hc1, hc2, rfl⟩ := inR_nat (by decide) (by decide) hv1
      obtain ⟨d, hd1, hd2, rfl⟩ := inR_nat (by decide) (by decide) hv2
      obtain ⟨e, he1, he2, rfl⟩ := inR_nat (by decide) (by decide) hv3
      obtain ⟨f, hf1, hf2, rfl⟩ := inR_nat (by decide) (by decide) hv4
      refine j_iload_n dX4_both_19 1 rfl ?_
      refine j_iload_n dX4_both_20 2 rfl ?_
      refine j_S (w2 := (TR D O X E F Y Z V) ++ (EW D E s)) (st2 := [.int (nI (c * 6 + d))]) (c_X0_placeOf c d) rfl cw_X4_124 dX4_both_21 [] rfl [] rfl rfl rfl ?_ ⟨rfl, ⟨Nat.le_of_ble_eq_true rfl, Nat.le_of_ble_eq_true rfl⟩, ⟨rfl, rfl⟩, ⟨Nat.le_of_ble_eq_true rfl, Nat.le_of_ble_eq_true rfl⟩, Nat.le_of_ble_eq_true rfl, rfl, rfl⟩
      refine j_istore (lv2 := [(0, .ref O), (1, .int (nI c)), (2, .int (nI d)), (3, .int (nI e)), (4, .int (nI f)), (5, .int (nI (c * 6 + d)))]) dX4_both_24 (by decide) [1, 2, 3, 4, 5, 0] rfl ?_
      refine j_iload_n dX4_both_26 3 rfl ?_
      refine j_iload dX4_both_27 4 rfl ?_
      refine j_S (w2 := (TR D O X E F Y Z V) ++ (EW D E s)) (st2 := [.int (nI (e * 6 + f))]) (c_X0_placeOf e f) rfl cw_X4_124 dX4_both_29 [] rfl [] rfl rfl rfl ?_ ⟨rfl, ⟨Nat.le_of_ble_eq_true rfl, Nat.le_of_ble_eq_true rfl⟩, ⟨rfl, rfl⟩, ⟨Nat.le_of_ble_eq_true rfl, Nat.le_of_ble_eq_true rfl⟩, Nat.le_of_ble_eq_true rfl, rfl, rfl⟩
      refine j_istore (lv2 := [(0, .ref O), (1, .int (nI c)), (2, .int (nI d)), (3, .int (nI e)), (4, .int (nI f)), (5, .int (nI (c * 6 + d))), (6, .int (nI (e * 6 + f)))]) dX4_both_32 (by decide) [1, 2, 3, 4, 5, 6, 0] rfl ?_
      refine j_aload_n dX4_both_34 0 rfl ?_
      refine g_X4_19 rfl dX4_both_35 0 rfl rfl ?_
      refine j_iload dX4_both_38 5 rfl ?_
      refine j_V (w2 := (TR D O X E F Y Z V) ++ (EW D E s)) (st2 := [.int (bI (has s (c * 6 + d)))]) (c_X0_hasLetter E s (c * 6 + d) (by omega)) rfl cw_X4_127 dX4_both_40 [] rfl [1, 2, 3, 4, 5] rfl rfl rfl 0 ?_ ⟨rfl, ⟨Nat.le_of_ble_eq_true rfl, Nat.le_of_ble_eq_true rfl⟩, ⟨rfl, rfl⟩, ⟨Nat.le_of_ble_eq_true rfl, Nat.le_of_ble_eq_true rfl⟩, Nat.le_of_ble_eq_true rfl, rfl, rfl⟩ rfl rfl rfl
      refine j_if_eq_B (tgt := 58) dX4_both_43 (by decide) (fun h43 => ?_) (fun h43 => ?_)
      · skip
        refine j_bipush (v := (-9)) dX4_both_58 (by decide) ?_
        exact j_iret dX4_both_60 ⟨rfl, rfl⟩ ⟨by unfold boF; rw [if_pos ⟨h5, h14⟩, cl_nI (show c < 2 ^ 31 by omega), cl_nI (show d < 2 ^ 31 by omega), cl_nI (show e < 2 ^ 31 by omega), cl_nI (show f < 2 ^ 31 by omega), if_neg (fun r => nBool h43 r.1)], rfl⟩
      · skip
        refine j_aload_n dX4_both_46 0 rfl ?_
        refine g_X4_19 rfl dX4_both_47 0 rfl rfl ?_
        refine j_iload dX4_both_50 6 rfl ?_
        refine j_V (w2 := (TR D O X E F Y Z V) ++ (EW D E s)) (st2 := [.int (bI (has s (e * 6 + f)))]) (c_X0_hasLetter E s (e * 6 + f) (by omega)) rfl cw_X4_127 dX4_both_52 [] rfl [1, 2, 3, 4, 5] rfl rfl rfl 0 ?_ ⟨rfl, ⟨Nat.le_of_ble_eq_true rfl, Nat.le_of_ble_eq_true rfl⟩, ⟨rfl, rfl⟩, ⟨Nat.le_of_ble_eq_true rfl, Nat.le_of_ble_eq_true rfl⟩, Nat.le_of_ble_eq_true rfl, rfl, rfl⟩ rfl rfl rfl
        refine j_if_ne_B (tgt := 61) dX4_both_55 (by decide) (fun h55 => ?_) (fun h55 => ?_)
        · skip
          have hh1 := (hI.hs (show c * 6 + d < 24 by omega)).mp h43
          have hh2 := (hI.hs (show e * 6 + f < 24 by omega)).mp h55
          refine j_aload_n dX4_both_61 0 rfl ?_
          refine g_X4_19 rfl dX4_both_62 0 rfl rfl ?_
          refine j_iload dX4_both_65 5 rfl ?_
          refine j_V (w2 := (TR D O X E F Y Z V) ++ (EW D E s)) (st2 := [.long (wbs s (c * 6 + d) (un s (c * 6 + d)))]) (c_X0_writtenBy E s hI (c * 6 + d) (by omega) hh1) rfl cw_X4_146 dX4_both_67 [] rfl [1, 2, 3, 4, 5] rfl rfl rfl 0 ?_ ⟨rfl, ⟨Nat.le_of_ble_eq_true rfl, Nat.le_of_ble_eq_true rfl⟩, ⟨rfl, rfl⟩, ⟨Nat.le_of_ble_eq_true rfl, Nat.le_of_ble_eq_true rfl⟩, Nat.le_of_ble_eq_true rfl, rfl, rfl⟩ rfl rfl rfl
          refine j_aload_n dX4_both_70 0 rfl ?_
          refine g_X4_19 rfl dX4_both_71 0 rfl rfl ?_
          refine j_iload dX4_both_74 6 rfl ?_
          refine j_V (w2 := (TR D O X E F Y Z V) ++ (EW D E s)) (st2 := [.long (wbs s (e * 6 + f) (un s (e * 6 + f))), .long (wbs s (c * 6 + d) (un s (c * 6 + d)))]) (c_X0_writtenBy E s hI (e * 6 + f) (by omega) hh2) rfl cw_X4_146 dX4_both_76 [.long (wbs s (c * 6 + d) (un s (c * 6 + d)))] rfl [1, 2, 3, 4, 5] rfl rfl rfl 0 ?_ ⟨rfl, ⟨Nat.le_of_ble_eq_true rfl, Nat.le_of_ble_eq_true rfl⟩, ⟨rfl, rfl⟩, ⟨Nat.le_of_ble_eq_true rfl, Nat.le_of_ble_eq_true rfl⟩, Nat.le_of_ble_eq_true rfl, rfl, rfl⟩ rfl rfl rfl
          refine j_land (v := (wbs s (c * 6 + d) (un s (c * 6 + d))) &&& (wbs s (e * 6 + f) (un s (e * 6 + f)))) dX4_both_79 (rfl) ?_
          refine j_S (w2 := (TR D O X E F Y Z V) ++ (EW D E s)) (st2 := [.int (bcF ((wbs s (c * 6 + d) (un s (c * 6 + d))) &&& (wbs s (e * 6 + f) (un s (e * 6 + f)))))]) (c_J13_bitCount_95d88 ((wbs s (c * 6 + d) (un s (c * 6 + d))) &&& (wbs s (e * 6 + f) (un s (e * 6 + f))))) rfl cw_X4_150 dX4_both_80 [] rfl [] rfl rfl rfl ?_ ⟨rfl, ⟨Nat.le_of_ble_eq_true rfl, Nat.le_of_ble_eq_true rfl⟩, ⟨rfl, rfl⟩, ⟨Nat.le_of_ble_eq_true rfl, Nat.le_of_ble_eq_true rfl⟩, Nat.le_of_ble_eq_true rfl, rfl, rfl⟩
          exact j_iret dX4_both_83 ⟨rfl, rfl⟩ ⟨by unfold boF; rw [if_pos ⟨h5, h14⟩, cl_nI (show c < 2 ^ 31 by omega), cl_nI (show d < 2 ^ 31 by omega), cl_nI (show e < 2 ^ 31 by omega), cl_nI (show f < 2 ^ 31 by omega), if_pos ⟨h43, h55⟩, bc_x], rfl⟩
        · skip
          refine j_bipush (v := (-9)) dX4_both_58 (by decide) ?_
          exact j_iret dX4_both_60 ⟨rfl, rfl⟩ ⟨by unfold boF; rw [if_pos ⟨h5, h14⟩, cl_nI (show c < 2 ^ 31 by omega), cl_nI (show d < 2 ^ 31 by omega), cl_nI (show e < 2 ^ 31 by omega), cl_nI (show f < 2 ^ 31 by omega), if_neg (fun r => nBool h55 r.2)], rfl⟩
    · skip
      refine j_iconst (v := (-1)) dX4_both_17 (by decide) ?_
      exact j_iret dX4_both_18 ⟨rfl, rfl⟩ ⟨by rw [show boF s v z p q = -1 from if_neg (fun r => nBool h14 r.2)], rfl⟩

end TR3
