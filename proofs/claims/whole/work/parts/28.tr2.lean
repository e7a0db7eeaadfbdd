section RU9
variable {D : DX} {Γ : GX} {y : MethodName} {cc : ByteArray} {nL : Nat} {ret : Option FieldType} {R : Room} {Q : State → Prop} {k n : Nat} {w w2 : va_W} {pc : Nat} {lv : List (Nat × Value)} {st st2 : List Value}
theorem j_ws (hw : w = w2) (hs : st = st2) (kk : J D Γ y cc nL ret R Q k n w2 pc lv st2) : J D Γ y cc nL ret R Q k n w pc lv st := by subst hw; subst hs; exact kk
end RU9
theorem ovF_eq {s : SS} {c most : Nat} : ovF false s c most = ovF true s c most := fsN_cong _ _ (fun j => ovP_eq j)
theorem fsN_ge {f : Nat → Bool} : ∀ (r j : Nat) {d : Nat}, fsN f r j = some d → j ≤ d ∧ d < j + r
  | 0, j, d, h => by cases h
  | r + 1, j, d, h => by
    unfold fsN at h
    split at h
    · cases h; omega
    · have := fsN_ge r (j + 1) h; omega
theorem ovF_le {b : Bool} {s : SS} {c most d : Nat} (h : ovF b s c most = some d) : d ≤ most := by have := fsN_ge _ _ h; omega
theorem Inv_bu {s : SS} {c b : Nat} (h : Inv s) (hc : c < 4) (h1 : 1 ≤ b) (h2 : b < 9) : Inv (upd s (64 + 7 * c + 2) (nI b)) := by
  refine Inv_C h hc (by decide) ?_
  have q := h.1 c hc
  unfold ChOk gC at *
  rw [up_ne (by omega), up_ne (by omega), up_eq, up_ne (by omega), up_ne (by omega)]
  exact ⟨q.1, q.2.1, ⟨b, h1, h2, rfl⟩, q.2.2.2⟩
theorem Inv_rk {s : SS} {c r : Nat} (h : Inv s) (hc : c < 4) (h2 : r < 4) : Inv (upd s (64 + 7 * c + 1) (nI r)) := by
  refine Inv_C h hc (by decide) ?_
  have q := h.1 c hc
  unfold ChOk gC at *
  rw [up_ne (by omega), up_eq, up_ne (by omega), up_ne (by omega), up_ne (by omega)]
  exact ⟨q.1, ⟨r, Nat.zero_le _, h2, rfl⟩, q.2.2⟩
theorem caT_40 {s tk' wh : SS} {m : Nat} (h : SeOk tk' wh m) : caT s tk' wh m 40 = caT s tk' wh m (mxT tk' m) := by
  have h1 := mxT_le m h.2
  have := caT_last (s := s) h (40 - mxT tk' m) (by omega)
  rw [show mxT tk' m + (40 - mxT tk' m) = 40 by omega] at this
  exact this
section TR2
variable {D : DX}
set_option maxHeartbeats 4000000 in
set_option maxRecDepth 100000 in
theorem c_X4_ticks_bad (O : Nat) (X E F Y Z V : Nat → Nat) (v : Int32) (hb : inR v (nI 1) (nI 40) = false) : Ct D yX4_ticks cX4_ticks 4 (some .int) ({ frames := 1, cells := 0, slots := 0, locals := 22 } : Room) [.ref O, .int v] (TR D O X E F Y Z V) (fun v_ u_ => v_ = some (.int (-1)) ∧ u_ = TR D O X E F Y Z V) := by
  refine ct_of (by decide) (Nat.le_of_ble_eq_true rfl) (lv0 := [(0, .ref O), (1, .int v)]) rfl (fun Γ => ?_)
  refine j_iload_n dX4_ticks_0 1 rfl ?_
  refine j_iconst (v := nI 1) dX4_ticks_1 (by decide) ?_
  refine j_bipush (v := nI 40) dX4_ticks_2 (by decide) ?_
  refine j_S (w2 := TR D O X E F Y Z V) (st2 := [.int (bI (inR v (nI 1) (nI 40)))]) (c_X4_within v (nI 1) (nI 40)) rfl cw_X4_48 dX4_ticks_4 [] rfl [] rfl rfl rfl ?_ ⟨rfl, ⟨Nat.le_of_ble_eq_true rfl, Nat.le_of_ble_eq_true rfl⟩, ⟨rfl, rfl⟩, ⟨Nat.le_of_ble_eq_true rfl, Nat.le_of_ble_eq_true rfl⟩, Nat.le_of_ble_eq_true rfl, rfl, rfl⟩
  refine j_if_ne_B (tgt := 12) dX4_ticks_7 (by decide) (fun h7 => absurd (hb.symm.trans h7) (by decide)) (fun h7 => ?_)
  refine j_iconst (v := (-1)) dX4_ticks_10 (by decide) ?_
  exact j_iret dX4_ticks_11 ⟨rfl, rfl⟩ ⟨rfl, rfl⟩

set_option maxHeartbeats 4000000 in
set_option maxRecDepth 100000 in
theorem c_X4_ticks_ok (O : Nat) (X E F Y Z V : Nat → Nat) (P : Nat → Nat → Nat) (nw kn j : Nat) (t : SS) (s : SS) (hj : j = (nw + 1) % 6) (hnw : nw < 6) (hkn : kn ≤ 6) (hI : Inv s) (q : Nat) (hq : 1 ≤ q ∧ q ≤ 40) : Ct D yX4_ticks cX4_ticks 4 (some .int) ({ frames := 5, cells := 0, slots := 0, locals := 120 } : Room) [.ref O, .int (nI q)] ((TR D O X E F Y Z V) ++ (EW D E s) ++ (HO D Y P nw kn) ++ (EW D (P j) t)) (fun v_ u_ => v_ = some (.int (nI (gcn s q))) ∧ u_ = (TR D O X E F Y Z V) ++ (EW D E (itk true s q)) ++ (HO D Y P j (min (kn + 1) 6)) ++ (EW D (P j) s)) := by
  refine ct_of (by decide) (Nat.le_of_ble_eq_true rfl) (lv0 := [(0, .ref O), (1, .int (nI q))]) rfl (fun Γ => ?_)
  refine j_iload_n dX4_ticks_0 1 rfl ?_
  refine j_iconst (v := nI 1) dX4_ticks_1 (by decide) ?_
  refine j_bipush (v := nI 40) dX4_ticks_2 (by decide) ?_
  refine j_S (w2 := (TR D O X E F Y Z V) ++ (EW D E s) ++ (HO D Y P nw kn) ++ (EW D (P j) t)) (st2 := [.int (bI (inR (nI q) (nI 1) (nI 40)))]) (c_X4_within (nI q) (nI 1) (nI 40)) rfl cw_X4_48 dX4_ticks_4 [] rfl [] rfl rfl rfl ?_ ⟨rfl, ⟨Nat.le_of_ble_eq_true rfl, Nat.le_of_ble_eq_true rfl⟩, ⟨rfl, rfl⟩, ⟨Nat.le_of_ble_eq_true rfl, Nat.le_of_ble_eq_true rfl⟩, Nat.le_of_ble_eq_true rfl, rfl, rfl⟩
  refine j_if_ne_B (tgt := 12) dX4_ticks_7 (by decide) (fun h7 => ?_) (fun h7 => absurd (inR_in (by omega) (by omega) (by omega)) (nBool h7))
  refine j_aload_n dX4_ticks_12 0 rfl ?_
  refine g_X4_29 rfl dX4_ticks_13 0 rfl rfl ?_
  refine j_aload_n dX4_ticks_16 0 rfl ?_
  refine g_X4_19 rfl dX4_ticks_17 0 rfl rfl ?_
  refine j_V (w2 := (TR D O X E F Y Z V) ++ (EW D E s) ++ (HO D Y P j (min (kn + 1) 6)) ++ (EW D (P j) s)) (st2 := []) (c_X1_remember Y P nw kn j t E s hj (by omega) (by omega)) rfl cw_X4_78 dX4_ticks_20 [] rfl [6, 7, 8, 9, 10, 11, 12, 1, 2, 3, 4, 5] rfl rfl rfl 1 ?_ ⟨rfl, ⟨Nat.le_of_ble_eq_true rfl, Nat.le_of_ble_eq_true rfl⟩, ⟨rfl, rfl⟩, ⟨Nat.le_of_ble_eq_true rfl, Nat.le_of_ble_eq_true rfl⟩, Nat.le_of_ble_eq_true rfl, rfl, rfl⟩ rfl rfl rfl
  refine j_iconst (v := nI 0) dX4_ticks_23 (by decide) ?_
  refine j_istore_n (lv2 := [(0, .ref O), (1, .int (nI q)), (2, .int (nI 0))]) dX4_ticks_24 (by decide) [1, 2, 0] rfl ?_
  refine j_iconst (v := nI 0) dX4_ticks_25 (by decide) ?_
  refine j_istore_n (lv2 := [(0, .ref O), (1, .int (nI q)), (2, .int (nI 0)), (3, .int (nI 0))]) dX4_ticks_26 (by decide) [1, 2, 3, 0] rfl ?_
  have L27 : ∀ (fuel : Nat) (i : Nat), i ≤ q → q - i < fuel → J D Γ yX4_ticks cX4_ticks 4 (some .int) ({ frames := 5, cells := 0, slots := 0, locals := 120 } : Room) (Qf D Γ ({ frames := 5, cells := 0, slots := 0, locals := 120 } : Room) (fun v_ u_ => v_ = some (.int (nI (gcn s q))) ∧ u_ = (TR D O X E F Y Z V) ++ (EW D E (itk true s q)) ++ (HO D Y P j (min (kn + 1) 6)) ++ (EW D (P j) s))) 0 0 ((TR D O X E F Y Z V) ++ (EW D E (itk true s i)) ++ (HO D Y P j (min (kn + 1) 6)) ++ (EW D (P j) s)) 27 [(0, .ref O), (1, .int (nI q)), (2, .int (nI (gcn s i))), (3, .int (nI i))] [] := by
    intro fuel
    induction fuel with
    | zero => intro i hi hm; exact absurd hm (Nat.not_lt_zero _)
    | succ fuel ih =>
      intro i hi hm
      refine j_iload_n dX4_ticks_27 3 rfl ?_
      refine j_iload_n dX4_ticks_28 1 rfl ?_
      refine j_icmp_ge_N (tgt := 54) dX4_ticks_29 (by decide) ⟨by omega, by omega⟩ (fun h29 => ?_) (fun h29 => ?_)
      · skip
        refine j_iload_n dX4_ticks_54 2 rfl ?_
        exact j_iret dX4_ticks_55 ⟨rfl, rfl⟩ ⟨by rw [show i = q by omega], by rw [show i = q by omega]⟩
      · skip
        refine j_aload_n dX4_ticks_32 0 rfl ?_
        refine g_X4_19 rfl dX4_ticks_33 0 rfl rfl ?_
        refine j_iconst (v := nI 1) dX4_ticks_36 (by decide) ?_
        refine j_V (w2 := (TR D O X E F Y Z V) ++ (EW D E (tkF true (itk true s i))) ++ (HO D Y P j (min (kn + 1) 6)) ++ (EW D (P j) s)) (st2 := [.int (oN (tkW (itk true s i)))]) (c_X0_tick E (itk true s i) true (Inv_it hI i)) rfl cw_X4_81 dX4_ticks_37 [] rfl [1, 2, 3, 4, 5] rfl rfl rfl 0 ?_ ⟨rfl, ⟨Nat.le_of_ble_eq_true rfl, Nat.le_of_ble_eq_true rfl⟩, ⟨rfl, rfl⟩, ⟨Nat.le_of_ble_eq_true rfl, Nat.le_of_ble_eq_true rfl⟩, Nat.le_of_ble_eq_true rfl, rfl, rfl⟩ rfl rfl rfl
        rcases hw : tkW (itk true s i) with _ | c
        · skip
          refine j_bipush (v := (-9)) dX4_ticks_40 (by decide) ?_
          refine j_icmp_eq (tgt := 48) dX4_ticks_42 (by decide) (fun h42 => ?_) (fun h42 => absurd rfl h42)
          refine j_iinc (v := nI (i + 1)) (lv2 := [(0, .ref O), (1, .int (nI q)), (2, .int (nI (gcn s i))), (3, .int (nI (i + 1)))]) dX4_ticks_48 3 rfl (nI_1 _) (by decide) [1, 2, 3, 0] rfl ?_
          refine j_goto (tgt := 27) dX4_ticks_51 (by decide) ?_
          have hh := ih (i + 1) (by omega) (by omega)
          rw [gcn_n hw] at hh
          exact hh
        · skip
          have hc4 := who_lt hw
          refine j_bipush (v := (-9)) dX4_ticks_40 (by decide) ?_
          refine j_icmp_eq (tgt := 48) dX4_ticks_42 (by decide) (fun h42 => absurd h42 (nI_m9 (by omega))) (fun h42 => ?_)
          refine j_iinc (v := nI (gcn s i + 1)) (lv2 := [(0, .ref O), (1, .int (nI q)), (2, .int (nI (gcn s i + 1))), (3, .int (nI i))]) dX4_ticks_45 2 rfl (nI_1 _) (by decide) [1, 2, 0, 3] rfl ?_
          refine j_iinc (v := nI (i + 1)) (lv2 := [(0, .ref O), (1, .int (nI q)), (2, .int (nI (gcn s i + 1))), (3, .int (nI (i + 1)))]) dX4_ticks_48 3 rfl (nI_1 _) (by decide) [1, 2, 3, 0] rfl ?_
          refine j_goto (tgt := 27) dX4_ticks_51 (by decide) ?_
          have hh := ih (i + 1) (by omega) (by omega)
          rw [gcn_s (by rw [hw]; exact Option.some_ne_none c)] at hh
          exact hh
  exact L27 (q + 1) 0 (by omega) (by omega)

set_option maxHeartbeats 4000000 in
set_option maxRecDepth 100000 in
theorem c_X4_cancels_bad (O : Nat) (X E F Y Z V : Nat → Nat) (v : Int32) (hb : inR v (nI 0) (nI 3) = false) : Ct D yX4_cancels cX4_cancels 2 (some .int) ({ frames := 2, cells := 0, slots := 0, locals := 42 } : Room) [.ref O, .int v] (TR D O X E F Y Z V) (fun v_ u_ => v_ = some (.int (-1)) ∧ u_ = TR D O X E F Y Z V) := by
  refine ct_of (by decide) (Nat.le_of_ble_eq_true rfl) (lv0 := [(0, .ref O), (1, .int v)]) rfl (fun Γ => ?_)
  refine j_iload_n dX4_cancels_0 1 rfl ?_
  refine j_S (w2 := TR D O X E F Y Z V) (st2 := [.int (bI (inR v (nI 0) (nI 3)))]) (c_X4_isChannel v) rfl cw_X4_85 dX4_cancels_1 [] rfl [] rfl rfl rfl ?_ ⟨rfl, ⟨Nat.le_of_ble_eq_true rfl, Nat.le_of_ble_eq_true rfl⟩, ⟨rfl, rfl⟩, ⟨Nat.le_of_ble_eq_true rfl, Nat.le_of_ble_eq_true rfl⟩, Nat.le_of_ble_eq_true rfl, rfl, rfl⟩
  refine j_if_ne_B (tgt := 9) dX4_cancels_4 (by decide) (fun h4 => absurd (hb.symm.trans h4) (by decide)) (fun h4 => ?_)
  refine j_iconst (v := (-1)) dX4_cancels_7 (by decide) ?_
  exact j_iret dX4_cancels_8 ⟨rfl, rfl⟩ ⟨rfl, rfl⟩

set_option maxHeartbeats 4000000 in
set_option maxRecDepth 100000 in
theorem c_X4_cancels_none (O : Nat) (X E F Y Z V : Nat → Nat) (s : SS) (hI : Inv s) (c : Nat) (hc : c < 4) (ht : tc s (pl s c) = false) : Ct D yX4_cancels cX4_cancels 2 (some .int) ({ frames := 2, cells := 0, slots := 0, locals := 44 } : Room) [.ref O, .int (nI c)] ((TR D O X E F Y Z V) ++ (EW D E s)) (fun v_ u_ => v_ = some (.int (-2)) ∧ u_ = (TR D O X E F Y Z V) ++ (EW D E s)) := by
  refine ct_of (by decide) (Nat.le_of_ble_eq_true rfl) (lv0 := [(0, .ref O), (1, .int (nI c))]) rfl (fun Γ => ?_)
  refine j_iload_n dX4_cancels_0 1 rfl ?_
  refine j_S (w2 := (TR D O X E F Y Z V) ++ (EW D E s)) (st2 := [.int (bI (inR (nI c) (nI 0) (nI 3)))]) (c_X4_isChannel (nI c)) rfl cw_X4_85 dX4_cancels_1 [] rfl [] rfl rfl rfl ?_ ⟨rfl, ⟨Nat.le_of_ble_eq_true rfl, Nat.le_of_ble_eq_true rfl⟩, ⟨rfl, rfl⟩, ⟨Nat.le_of_ble_eq_true rfl, Nat.le_of_ble_eq_true rfl⟩, Nat.le_of_ble_eq_true rfl, rfl, rfl⟩
  refine j_if_ne_B (tgt := 9) dX4_cancels_4 (by decide) (fun h4 => ?_) (fun h4 => absurd (inR_in (by omega) (by omega) (by omega)) (nBool h4))
  refine j_aload_n dX4_cancels_9 0 rfl ?_
  refine g_X4_19 rfl dX4_cancels_10 0 rfl rfl ?_
  refine j_iload_n dX4_cancels_13 1 rfl ?_
  refine j_V (w2 := (TR D O X E F Y Z V) ++ (EW D E s)) (st2 := [.int (oN (prs s c))]) (c_X0_presentOf E s hI c (by omega)) rfl cw_X4_88 dX4_cancels_14 [] rfl [1, 2, 3, 4, 5] rfl rfl rfl 0 ?_ ⟨rfl, ⟨Nat.le_of_ble_eq_true rfl, Nat.le_of_ble_eq_true rfl⟩, ⟨rfl, rfl⟩, ⟨Nat.le_of_ble_eq_true rfl, Nat.le_of_ble_eq_true rfl⟩, Nat.le_of_ble_eq_true rfl, rfl, rfl⟩ rfl rfl rfl
  refine j_topi (v := (-9)) (by rw [prs_f ht]; rfl) ?_
  refine j_bipush (v := (-9)) dX4_cancels_17 (by decide) ?_
  refine j_icmp_ne (tgt := 25) dX4_cancels_19 (by decide) (fun h19 => absurd rfl h19) (fun h19 => ?_)
  refine j_bipush (v := (-2)) dX4_cancels_22 (by decide) ?_
  exact j_iret dX4_cancels_24 ⟨rfl, rfl⟩ ⟨rfl, rfl⟩

set_option maxHeartbeats 4000000 in
set_option maxRecDepth 100000 in
theorem c_X4_cancels_ok (O : Nat) (X E F Y Z V : Nat → Nat) (P : Nat → Nat → Nat) (nw kn j : Nat) (t : SS) (s : SS) (hj : j = (nw + 1) % 6) (hnw : nw < 6) (hkn : kn ≤ 6) (hI : Inv s) (c : Nat) (hc : c < 4) (ht : tc s (pl s c) = true) : Ct D yX4_cancels cX4_cancels 2 (some .int) ({ frames := 4, cells := 0, slots := 0, locals := 102 } : Room) [.ref O, .int (nI c)] ((TR D O X E F Y Z V) ++ (EW D E s) ++ (HO D Y P nw kn) ++ (EW D (P j) t)) (fun v_ u_ => v_ = some (.int (cnA s c)) ∧ u_ = (TR D O X E F Y Z V) ++ (EW D E (cnF s c)) ++ (HO D Y P j (min (kn + 1) 6)) ++ (EW D (P j) s)) := by
  refine ct_of (by decide) (Nat.le_of_ble_eq_true rfl) (lv0 := [(0, .ref O), (1, .int (nI c))]) rfl (fun Γ => ?_)
  refine j_iload_n dX4_cancels_0 1 rfl ?_
  refine j_S (w2 := (TR D O X E F Y Z V) ++ (EW D E s) ++ (HO D Y P nw kn) ++ (EW D (P j) t)) (st2 := [.int (bI (inR (nI c) (nI 0) (nI 3)))]) (c_X4_isChannel (nI c)) rfl cw_X4_85 dX4_cancels_1 [] rfl [] rfl rfl rfl ?_ ⟨rfl, ⟨Nat.le_of_ble_eq_true rfl, Nat.le_of_ble_eq_true rfl⟩, ⟨rfl, rfl⟩, ⟨Nat.le_of_ble_eq_true rfl, Nat.le_of_ble_eq_true rfl⟩, Nat.le_of_ble_eq_true rfl, rfl, rfl⟩
  refine j_if_ne_B (tgt := 9) dX4_cancels_4 (by decide) (fun h4 => ?_) (fun h4 => absurd (inR_in (by omega) (by omega) (by omega)) (nBool h4))
  refine j_aload_n dX4_cancels_9 0 rfl ?_
  refine g_X4_19 rfl dX4_cancels_10 0 rfl rfl ?_
  refine j_iload_n dX4_cancels_13 1 rfl ?_
  refine j_V (w2 := (TR D O X E F Y Z V) ++ (EW D E s) ++ (HO D Y P nw kn) ++ (EW D (P j) t)) (st2 := [.int (oN (prs s c))]) (c_X0_presentOf E s hI c (by omega)) rfl cw_X4_88 dX4_cancels_14 [] rfl [1, 2, 3, 4, 5] rfl rfl rfl 0 ?_ ⟨rfl, ⟨Nat.le_of_ble_eq_true rfl, Nat.le_of_ble_eq_true rfl⟩, ⟨rfl, rfl⟩, ⟨Nat.le_of_ble_eq_true rfl, Nat.le_of_ble_eq_true rfl⟩, Nat.le_of_ble_eq_true rfl, rfl, rfl⟩ rfl rfl rfl
  refine j_topi (v := nI (pl s c)) (by rw [prs_t ht]; rfl) ?_
  refine j_bipush (v := (-9)) dX4_cancels_17 (by decide) ?_
  refine j_icmp_ne (tgt := 25) dX4_cancels_19 (by decide) (fun h19 => ?_) (fun h19 => absurd h19 (nI_m9 (by have := hI.pl_ hc; omega)))
  refine j_aload_n dX4_cancels_25 0 rfl ?_
  refine g_X4_29 rfl dX4_cancels_26 0 rfl rfl ?_
  refine j_aload_n dX4_cancels_29 0 rfl ?_
  refine g_X4_19 rfl dX4_cancels_30 0 rfl rfl ?_
  refine j_V (w2 := (TR D O X E F Y Z V) ++ (EW D E s) ++ (HO D Y P j (min (kn + 1) 6)) ++ (EW D (P j) s)) (st2 := []) (c_X1_remember Y P nw kn j t E s hj (by omega) (by omega)) rfl cw_X4_78 dX4_cancels_33 [] rfl [6, 7, 8, 9, 10, 11, 12, 1, 2, 3, 4, 5] rfl rfl rfl 1 ?_ ⟨rfl, ⟨Nat.le_of_ble_eq_true rfl, Nat.le_of_ble_eq_true rfl⟩, ⟨rfl, rfl⟩, ⟨Nat.le_of_ble_eq_true rfl, Nat.le_of_ble_eq_true rfl⟩, Nat.le_of_ble_eq_true rfl, rfl, rfl⟩ rfl rfl rfl
  refine j_aload_n dX4_cancels_36 0 rfl ?_
  refine g_X4_19 rfl dX4_cancels_37 0 rfl rfl ?_
  refine j_iload_n dX4_cancels_40 1 rfl ?_
  refine j_V (w2 := (TR D O X E F Y Z V) ++ (EW D E (cnF s c)) ++ (HO D Y P j (min (kn + 1) 6)) ++ (EW D (P j) s)) (st2 := [.int (cnA s c)]) (c_X0_cancel E s hI c (by omega)) rfl cw_X4_92 dX4_cancels_41 [] rfl [1, 2, 3, 4, 5] rfl rfl rfl 0 ?_ ⟨rfl, ⟨Nat.le_of_ble_eq_true rfl, Nat.le_of_ble_eq_true rfl⟩, ⟨rfl, rfl⟩, ⟨Nat.le_of_ble_eq_true rfl, Nat.le_of_ble_eq_true rfl⟩, Nat.le_of_ble_eq_true rfl, rfl, rfl⟩ rfl rfl rfl
  exact j_iret dX4_cancels_44 ⟨rfl, rfl⟩ ⟨rfl, rfl⟩

set_option maxHeartbeats 4000000 in
set_option maxRecDepth 100000 in
theorem c_X4_switches_bad (O : Nat) (X E F Y Z V : Nat → Nat) (v : Int32) (hb : inR v (nI 0) (nI 3) = false) : Ct D yX4_switches cX4_switches 3 (some .int) ({ frames := 2, cells := 0, slots := 0, locals := 42 } : Room) [.ref O, .int v] (TR D O X E F Y Z V) (fun v_ u_ => v_ = some (.int (-1)) ∧ u_ = TR D O X E F Y Z V) := by
  refine ct_of (by decide) (Nat.le_of_ble_eq_true rfl) (lv0 := [(0, .ref O), (1, .int v)]) rfl (fun Γ => ?_)
  refine j_iload_n dX4_switches_0 1 rfl ?_
  refine j_S (w2 := TR D O X E F Y Z V) (st2 := [.int (bI (inR v (nI 0) (nI 3)))]) (c_X4_isChannel v) rfl cw_X4_85 dX4_switches_1 [] rfl [] rfl rfl rfl ?_ ⟨rfl, ⟨Nat.le_of_ble_eq_true rfl, Nat.le_of_ble_eq_true rfl⟩, ⟨rfl, rfl⟩, ⟨Nat.le_of_ble_eq_true rfl, Nat.le_of_ble_eq_true rfl⟩, Nat.le_of_ble_eq_true rfl, rfl, rfl⟩
  refine j_if_ne_B (tgt := 9) dX4_switches_4 (by decide) (fun h4 => absurd (hb.symm.trans h4) (by decide)) (fun h4 => ?_)
  refine j_iconst (v := (-1)) dX4_switches_7 (by decide) ?_
  exact j_iret dX4_switches_8 ⟨rfl, rfl⟩ ⟨rfl, rfl⟩

set_option maxHeartbeats 4000000 in
set_option maxRecDepth 100000 in
theorem c_X4_switches_ok (O : Nat) (X E F Y Z V : Nat → Nat) (P : Nat → Nat → Nat) (nw kn j : Nat) (t : SS) (s : SS) (hj : j = (nw + 1) % 6) (hnw : nw < 6) (hkn : kn ≤ 6) (hI : Inv s) (c : Nat) (hc : c < 4) : Ct D yX4_switches cX4_switches 3 (some .int) ({ frames := 3, cells := 0, slots := 0, locals := 102 } : Room) [.ref O, .int (nI c)] ((TR D O X E F Y Z V) ++ (EW D E s) ++ (HO D Y P nw kn) ++ (EW D (P j) t)) (fun v_ u_ => v_ = some (.int (nI 1 - gC s c 0)) ∧ u_ = (TR D O X E F Y Z V) ++ (EW D E (upd s (64 + 7 * c + 0) (nI 1 - gC s c 0))) ++ (HO D Y P j (min (kn + 1) 6)) ++ (EW D (P j) s)) := by
  refine ct_of (by decide) (Nat.le_of_ble_eq_true rfl) (lv0 := [(0, .ref O), (1, .int (nI c))]) rfl (fun Γ => ?_)
  refine j_iload_n dX4_switches_0 1 rfl ?_
  refine j_S (w2 := (TR D O X E F Y Z V) ++ (EW D E s) ++ (HO D Y P nw kn) ++ (EW D (P j) t)) (st2 := [.int (bI (inR (nI c) (nI 0) (nI 3)))]) (c_X4_isChannel (nI c)) rfl cw_X4_85 dX4_switches_1 [] rfl [] rfl rfl rfl ?_ ⟨rfl, ⟨Nat.le_of_ble_eq_true rfl, Nat.le_of_ble_eq_true rfl⟩, ⟨rfl, rfl⟩, ⟨Nat.le_of_ble_eq_true rfl, Nat.le_of_ble_eq_true rfl⟩, Nat.le_of_ble_eq_true rfl, rfl, rfl⟩
  refine j_if_ne_B (tgt := 9) dX4_switches_4 (by decide) (fun h4 => ?_) (fun h4 => absurd (inR_in (by omega) (by omega) (by omega)) (nBool h4))
  refine j_aload_n dX4_switches_9 0 rfl ?_
  refine g_X4_29 rfl dX4_switches_10 0 rfl rfl ?_
  refine j_aload_n dX4_switches_13 0 rfl ?_
  refine g_X4_19 rfl dX4_switches_14 0 rfl rfl ?_
  refine j_V (w2 := (TR D O X E F Y Z V) ++ (EW D E s) ++ (HO D Y P j (min (kn + 1) 6)) ++ (EW D (P j) s)) (st2 := []) (c_X1_remember Y P nw kn j t E s hj (by omega) (by omega)) rfl cw_X4_78 dX4_switches_17 [] rfl [6, 7, 8, 9, 10, 11, 12, 1, 2, 3, 4, 5] rfl rfl rfl 1 ?_ ⟨rfl, ⟨Nat.le_of_ble_eq_true rfl, Nat.le_of_ble_eq_true rfl⟩, ⟨rfl, rfl⟩, ⟨Nat.le_of_ble_eq_true rfl, Nat.le_of_ble_eq_true rfl⟩, Nat.le_of_ble_eq_true rfl, rfl, rfl⟩ rfl rfl rfl
  refine j_iconst (v := nI 1) dX4_switches_20 (by decide) ?_
  refine j_aload_n dX4_switches_21 0 rfl ?_
  refine g_X4_19 rfl dX4_switches_22 0 rfl rfl ?_
  refine j_iload_n dX4_switches_25 1 rfl ?_
  refine j_iconst (v := nI 0) dX4_switches_26 (by decide) ?_
  refine j_V (w2 := (TR D O X E F Y Z V) ++ (EW D E s) ++ (HO D Y P j (min (kn + 1) 6)) ++ (EW D (P j) s)) (st2 := [.int (gC s c 0), .int (nI 1)]) (c_X0_ofChannel E s c 0 (by omega) (by omega)) rfl cw_X4_95 dX4_switches_27 [.int (nI 1)] rfl [1, 2, 3, 4, 5] rfl rfl rfl 0 ?_ ⟨rfl, ⟨Nat.le_of_ble_eq_true rfl, Nat.le_of_ble_eq_true rfl⟩, ⟨rfl, rfl⟩, ⟨Nat.le_of_ble_eq_true rfl, Nat.le_of_ble_eq_true rfl⟩, Nat.le_of_ble_eq_true rfl, rfl, rfl⟩ rfl rfl rfl
  refine j_isub (v := (nI 1) - (gC s c 0)) dX4_switches_30 (rfl) ?_
  refine j_istore_n (lv2 := [(0, .ref O), (1, .int (nI c)), (2, .int ((nI 1) - (gC s c 0)))]) dX4_switches_31 (by decide) [1, 2, 0] rfl ?_
  refine j_aload_n dX4_switches_32 0 rfl ?_
  refine g_X4_19 rfl dX4_switches_33 0 rfl rfl ?_
  refine j_iload_n dX4_switches_36 1 rfl ?_
  refine j_iconst (v := nI 0) dX4_switches_37 (by decide) ?_
  refine j_iload_n dX4_switches_38 2 rfl ?_
  refine j_V (w2 := (TR D O X E F Y Z V) ++ (EW D E (upd s (64 + 7 * c + 0) ((nI 1) - (gC s c 0)))) ++ (HO D Y P j (min (kn + 1) 6)) ++ (EW D (P j) s)) (st2 := []) (c_X0_setChannel E s c 0 ((nI 1) - (gC s c 0)) (by omega) (by omega)) rfl cw_X4_99 dX4_switches_39 [] rfl [1, 2, 3, 4, 5] rfl rfl rfl 0 ?_ ⟨rfl, ⟨Nat.le_of_ble_eq_true rfl, Nat.le_of_ble_eq_true rfl⟩, ⟨rfl, rfl⟩, ⟨Nat.le_of_ble_eq_true rfl, Nat.le_of_ble_eq_true rfl⟩, Nat.le_of_ble_eq_true rfl, rfl, rfl⟩ rfl rfl rfl
  refine j_iload_n dX4_switches_42 2 rfl ?_
  exact j_iret dX4_switches_43 ⟨rfl, rfl⟩ ⟨rfl, rfl⟩

set_option maxHeartbeats 4000000 in
set_option maxRecDepth 100000 in
theorem c_X4_tunes_bad (O : Nat) (X E F Y Z V : Nat → Nat) (v w z : Int32) (hb : ¬ (inR v (nI 0) (nI 3) = true ∧ inR w (nI 0) (nI 3) = true ∧ inR z (nI 1) (nI 8) = true)) : Ct D yX4_tunes cX4_tunes 4 (some .int) ({ frames := 2, cells := 0, slots := 0, locals := 42 } : Room) [.ref O, .int v, .int w, .int z] (TR D O X E F Y Z V) (fun v_ u_ => v_ = some (.int (-1)) ∧ u_ = TR D O X E F Y Z V) := by
  refine ct_of (by decide) (Nat.le_of_ble_eq_true rfl) (lv0 := [(0, .ref O), (1, .int v), (2, .int w), (3, .int z)]) rfl (fun Γ => ?_)
  refine j_iload_n dX4_tunes_0 1 rfl ?_
  refine j_S (w2 := TR D O X E F Y Z V) (st2 := [.int (bI (inR v (nI 0) (nI 3)))]) (c_X4_isChannel v) rfl cw_X4_85 dX4_tunes_1 [] rfl [] rfl rfl rfl ?_ ⟨rfl, ⟨Nat.le_of_ble_eq_true rfl, Nat.le_of_ble_eq_true rfl⟩, ⟨rfl, rfl⟩, ⟨Nat.le_of_ble_eq_true rfl, Nat.le_of_ble_eq_true rfl⟩, Nat.le_of_ble_eq_true rfl, rfl, rfl⟩
  refine j_if_eq_B (tgt := 26) dX4_tunes_4 (by decide) (fun h4 => ?_) (fun h4 => ?_)
  · skip
    refine j_iconst (v := (-1)) dX4_tunes_26 (by decide) ?_
    exact j_iret dX4_tunes_27 ⟨rfl, rfl⟩ ⟨rfl, rfl⟩
  · skip
    refine j_iload_n dX4_tunes_7 2 rfl ?_
    refine j_iconst (v := nI 0) dX4_tunes_8 (by decide) ?_
    refine j_iconst (v := nI 3) dX4_tunes_9 (by decide) ?_
    refine j_S (w2 := TR D O X E F Y Z V) (st2 := [.int (bI (inR w (nI 0) (nI 3)))]) (c_X4_within w (nI 0) (nI 3)) rfl cw_X4_48 dX4_tunes_10 [] rfl [] rfl rfl rfl ?_ ⟨rfl, ⟨Nat.le_of_ble_eq_true rfl, Nat.le_of_ble_eq_true rfl⟩, ⟨rfl, rfl⟩, ⟨Nat.le_of_ble_eq_true rfl, Nat.le_of_ble_eq_true rfl⟩, Nat.le_of_ble_eq_true rfl, rfl, rfl⟩
    refine j_if_eq_B (tgt := 26) dX4_tunes_13 (by decide) (fun h13 => ?_) (fun h13 => ?_)
    · skip
      refine j_iconst (v := (-1)) dX4_tunes_26 (by decide) ?_
      exact j_iret dX4_tunes_27 ⟨rfl, rfl⟩ ⟨rfl, rfl⟩
    · skip
      refine j_iload_n dX4_tunes_16 3 rfl ?_
      refine j_iconst (v := nI 1) dX4_tunes_17 (by decide) ?_
      refine j_bipush (v := nI 8) dX4_tunes_18 (by decide) ?_
      refine j_S (w2 := TR D O X E F Y Z V) (st2 := [.int (bI (inR z (nI 1) (nI 8)))]) (c_X4_within z (nI 1) (nI 8)) rfl cw_X4_48 dX4_tunes_20 [] rfl [] rfl rfl rfl ?_ ⟨rfl, ⟨Nat.le_of_ble_eq_true rfl, Nat.le_of_ble_eq_true rfl⟩, ⟨rfl, rfl⟩, ⟨Nat.le_of_ble_eq_true rfl, Nat.le_of_ble_eq_true rfl⟩, Nat.le_of_ble_eq_true rfl, rfl, rfl⟩
      refine j_if_ne_B (tgt := 28) dX4_tunes_23 (by decide) (fun h23 => absurd ⟨h4, h13, h23⟩ hb) (fun h23 => ?_)
      refine j_iconst (v := (-1)) dX4_tunes_26 (by decide) ?_
      exact j_iret dX4_tunes_27 ⟨rfl, rfl⟩ ⟨rfl, rfl⟩

set_option maxHeartbeats 4000000 in
set_option maxRecDepth 100000 in
theorem c_X4_tunes_same (O : Nat) (X E F Y Z V : Nat → Nat) (s : SS) (c r b : Nat) (hc : c < 4) (hr : r < 4) (hb : 1 ≤ b ∧ b ≤ 8) (h1 : gC s c 1 = nI r) (h2 : gC s c 2 = nI b) : Ct D yX4_tunes cX4_tunes 4 (some .int) ({ frames := 2, cells := 0, slots := 0, locals := 42 } : Room) [.ref O, .int (nI c), .int (nI r), .int (nI b)] ((TR D O X E F Y Z V) ++ (EW D E s)) (fun v_ u_ => v_ = some (.int (-2)) ∧ u_ = (TR D O X E F Y Z V) ++ (EW D E s)) := by
  refine ct_of (by decide) (Nat.le_of_ble_eq_true rfl) (lv0 := [(0, .ref O), (1, .int (nI c)), (2, .int (nI r)), (3, .int (nI b))]) rfl (fun Γ => ?_)
  refine j_iload_n dX4_tunes_0 1 rfl ?_
  refine j_S (w2 := (TR D O X E F Y Z V) ++ (EW D E s)) (st2 := [.int (bI (inR (nI c) (nI 0) (nI 3)))]) (c_X4_isChannel (nI c)) rfl cw_X4_85 dX4_tunes_1 [] rfl [] rfl rfl rfl ?_ ⟨rfl, ⟨Nat.le_of_ble_eq_true rfl, Nat.le_of_ble_eq_true rfl⟩, ⟨rfl, rfl⟩, ⟨Nat.le_of_ble_eq_true rfl, Nat.le_of_ble_eq_true rfl⟩, Nat.le_of_ble_eq_true rfl, rfl, rfl⟩
  refine j_if_eq_B (tgt := 26) dX4_tunes_4 (by decide) (fun h4 => absurd (inR_in (by omega) (by omega) (by omega)) (nBool h4)) (fun h4 => ?_)
  refine j_iload_n dX4_tunes_7 2 rfl ?_
  refine j_iconst (v := nI 0) dX4_tunes_8 (by decide) ?_
  refine j_iconst (v := nI 3) dX4_tunes_9 (by decide) ?_
  refine j_S (w2 := (TR D O X E F Y Z V) ++ (EW D E s)) (st2 := [.int (bI (inR (nI r) (nI 0) (nI 3)))]) (c_X4_within (nI r) (nI 0) (nI 3)) rfl cw_X4_48 dX4_tunes_10 [] rfl [] rfl rfl rfl ?_ ⟨rfl, ⟨Nat.le_of_ble_eq_true rfl, Nat.le_of_ble_eq_true rfl⟩, ⟨rfl, rfl⟩, ⟨Nat.le_of_ble_eq_true rfl, Nat.le_of_ble_eq_true rfl⟩, Nat.le_of_ble_eq_true rfl, rfl, rfl⟩
  refine j_if_eq_B (tgt := 26) dX4_tunes_13 (by decide) (fun h13 => absurd (inR_in (by omega) (by omega) (by omega)) (nBool h13)) (fun h13 => ?_)
  refine j_iload_n dX4_tunes_16 3 rfl ?_
  refine j_iconst (v := nI 1) dX4_tunes_17 (by decide) ?_
  refine j_bipush (v := nI 8) dX4_tunes_18 (by decide) ?_
  refine j_S (w2 := (TR D O X E F Y Z V) ++ (EW D E s)) (st2 := [.int (bI (inR (nI b) (nI 1) (nI 8)))]) (c_X4_within (nI b) (nI 1) (nI 8)) rfl cw_X4_48 dX4_tunes_20 [] rfl [] rfl rfl rfl ?_ ⟨rfl, ⟨Nat.le_of_ble_eq_true rfl, Nat.le_of_ble_eq_true rfl⟩, ⟨rfl, rfl⟩, ⟨Nat.le_of_ble_eq_true rfl, Nat.le_of_ble_eq_true rfl⟩, Nat.le_of_ble_eq_true rfl, rfl, rfl⟩
  refine j_if_ne_B (tgt := 28) dX4_tunes_23 (by decide) (fun h23 => ?_) (fun h23 => absurd (inR_in (by omega) (by omega) (by omega)) (nBool h23))
  refine j_aload_n dX4_tunes_28 0 rfl ?_
  refine g_X4_19 rfl dX4_tunes_29 0 rfl rfl ?_
  refine j_iload_n dX4_tunes_32 1 rfl ?_
  refine j_iconst (v := nI 1) dX4_tunes_33 (by decide) ?_
  refine j_V (w2 := (TR D O X E F Y Z V) ++ (EW D E s)) (st2 := [.int (gC s c 1)]) (c_X0_ofChannel E s c 1 (by omega) (by omega)) rfl cw_X4_95 dX4_tunes_34 [] rfl [1, 2, 3, 4, 5] rfl rfl rfl 0 ?_ ⟨rfl, ⟨Nat.le_of_ble_eq_true rfl, Nat.le_of_ble_eq_true rfl⟩, ⟨rfl, rfl⟩, ⟨Nat.le_of_ble_eq_true rfl, Nat.le_of_ble_eq_true rfl⟩, Nat.le_of_ble_eq_true rfl, rfl, rfl⟩ rfl rfl rfl
  refine j_iload_n dX4_tunes_37 2 rfl ?_
  refine j_icmp_ne (tgt := 57) dX4_tunes_38 (by decide) (fun h38 => absurd h1 h38) (fun h38 => ?_)
  refine j_aload_n dX4_tunes_41 0 rfl ?_
  refine g_X4_19 rfl dX4_tunes_42 0 rfl rfl ?_
  refine j_iload_n dX4_tunes_45 1 rfl ?_
  refine j_iconst (v := nI 2) dX4_tunes_46 (by decide) ?_
  refine j_V (w2 := (TR D O X E F Y Z V) ++ (EW D E s)) (st2 := [.int (gC s c 2)]) (c_X0_ofChannel E s c 2 (by omega) (by omega)) rfl cw_X4_95 dX4_tunes_47 [] rfl [1, 2, 3, 4, 5] rfl rfl rfl 0 ?_ ⟨rfl, ⟨Nat.le_of_ble_eq_true rfl, Nat.le_of_ble_eq_true rfl⟩, ⟨rfl, rfl⟩, ⟨Nat.le_of_ble_eq_true rfl, Nat.le_of_ble_eq_true rfl⟩, Nat.le_of_ble_eq_true rfl, rfl, rfl⟩ rfl rfl rfl
  refine j_iload_n dX4_tunes_50 3 rfl ?_
  refine j_icmp_ne (tgt := 57) dX4_tunes_51 (by decide) (fun h51 => absurd h2 h51) (fun h51 => ?_)
  refine j_bipush (v := (-2)) dX4_tunes_54 (by decide) ?_
  exact j_iret dX4_tunes_56 ⟨rfl, rfl⟩ ⟨rfl, rfl⟩

set_option maxHeartbeats 4000000 in
set_option maxRecDepth 100000 in
theorem c_X4_tunes_ok (O : Nat) (X E F Y Z V : Nat → Nat) (P : Nat → Nat → Nat) (nw kn j : Nat) (t : SS) (s : SS) (hj : j = (nw + 1) % 6) (hnw : nw < 6) (hkn : kn ≤ 6) (hI : Inv s) (c r b : Nat) (hc : c < 4) (hr : r < 4) (hb : 1 ≤ b ∧ b ≤ 8) (hd : ¬ (gC s c 1 = nI r ∧ gC s c 2 = nI b)) : Ct D yX4_tunes cX4_tunes 4 (some .int) ({ frames := 3, cells := 0, slots := 0, locals := 102 } : Room) [.ref O, .int (nI c), .int (nI r), .int (nI b)] ((TR D O X E F Y Z V) ++ (EW D E s) ++ (HO D Y P nw kn) ++ (EW D (P j) t)) (fun v_ u_ => v_ = some (.int (nI 1)) ∧ u_ = (TR D O X E F Y Z V) ++ (EW D E (upd (upd s (64 + 7 * c + 1) (nI r)) (64 + 7 * c + 2) (nI b))) ++ (HO D Y P j (min (kn + 1) 6)) ++ (EW D (P j) s)) := by
  refine ct_of (by decide) (Nat.le_of_ble_eq_true rfl) (lv0 := [(0, .ref O), (1, .int (nI c)), (2, .int (nI r)), (3, .int (nI b))]) rfl (fun Γ => ?_)
  refine j_iload_n dX4_tunes_0 1 rfl ?_
  refine j_S (w2 := (TR D O X E F Y Z V) ++ (EW D E s) ++ (HO D Y P nw kn) ++ (EW D (P j) t)) (st2 := [.int (bI (inR (nI c) (nI 0) (nI 3)))]) (c_X4_isChannel (nI c)) rfl cw_X4_85 dX4_tunes_1 [] rfl [] rfl rfl rfl ?_ ⟨rfl, ⟨Nat.le_of_ble_eq_true rfl, Nat.le_of_ble_eq_true rfl⟩, ⟨rfl, rfl⟩, ⟨Nat.le_of_ble_eq_true rfl, Nat.le_of_ble_eq_true rfl⟩, Nat.le_of_ble_eq_true rfl, rfl, rfl⟩
  refine j_if_eq_B (tgt := 26) dX4_tunes_4 (by decide) (fun h4 => absurd (inR_in (by omega) (by omega) (by omega)) (nBool h4)) (fun h4 => ?_)
  refine j_iload_n dX4_tunes_7 2 rfl ?_
  refine j_iconst (v := nI 0) dX4_tunes_8 (by decide) ?_
  refine j_iconst (v := nI 3) dX4_tunes_9 (by decide) ?_
  refine j_S (w2 := (TR D O X E F Y Z V) ++ (EW D E s) ++ (HO D Y P nw kn) ++ (EW D (P j) t)) (st2 := [.int (bI (inR (nI r) (nI 0) (nI 3)))]) (c_X4_within (nI r) (nI 0) (nI 3)) rfl cw_X4_48 dX4_tunes_10 [] rfl [] rfl rfl rfl ?_ ⟨rfl, ⟨Nat.le_of_ble_eq_true rfl, Nat.le_of_ble_eq_true rfl⟩, ⟨rfl, rfl⟩, ⟨Nat.le_of_ble_eq_true rfl, Nat.le_of_ble_eq_true rfl⟩, Nat.le_of_ble_eq_true rfl, rfl, rfl⟩
  refine j_if_eq_B (tgt := 26) dX4_tunes_13 (by decide) (fun h13 => absurd (inR_in (by omega) (by omega) (by omega)) (nBool h13)) (fun h13 => ?_)
  refine j_iload_n dX4_tunes_16 3 rfl ?_
  refine j_iconst (v := nI 1) dX4_tunes_17 (by decide) ?_
  refine j_bipush (v := nI 8) dX4_tunes_18 (by decide) ?_
  refine j_S (w2 := (TR D O X E F Y Z V) ++ (EW D E s) ++ (HO D Y P nw kn) ++ (EW D (P j) t)) (st2 := [.int (bI (inR (nI b) (nI 1) (nI 8)))]) (c_X4_within (nI b) (nI 1) (nI 8)) rfl cw_X4_48 dX4_tunes_20 [] rfl [] rfl rfl rfl ?_ ⟨rfl, ⟨Nat.le_of_ble_eq_true rfl, Nat.le_of_ble_eq_true rfl⟩, ⟨rfl, rfl⟩, ⟨Nat.le_of_ble_eq_true rfl, Nat.le_of_ble_eq_true rfl⟩, Nat.le_of_ble_eq_true rfl, rfl, rfl⟩
  refine j_if_ne_B (tgt := 28) dX4_tunes_23 (by decide) (fun h23 => ?_) (fun h23 => absurd (inR_in (by omega) (by omega) (by omega)) (nBool h23))
  refine j_aload_n dX4_tunes_28 0 rfl ?_
  refine g_X4_19 rfl dX4_tunes_29 0 rfl rfl ?_
  refine j_iload_n dX4_tunes_32 1 rfl ?_
  refine j_iconst (v := nI 1) dX4_tunes_33 (by decide) ?_
  refine j_V (w2 := (TR D O X E F Y Z V) ++ (EW D E s) ++ (HO D Y P nw kn) ++ (EW D (P j) t)) (st2 := [.int (gC s c 1)]) (c_X0_ofChannel E s c 1 (by omega) (by omega)) rfl cw_X4_95 dX4_tunes_34 [] rfl [1, 2, 3, 4, 5] rfl rfl rfl 0 ?_ ⟨rfl, ⟨Nat.le_of_ble_eq_true rfl, Nat.le_of_ble_eq_true rfl⟩, ⟨rfl, rfl⟩, ⟨Nat.le_of_ble_eq_true rfl, Nat.le_of_ble_eq_true rfl⟩, Nat.le_of_ble_eq_true rfl, rfl, rfl⟩ rfl rfl rfl
  refine j_iload_n dX4_tunes_37 2 rfl ?_
  refine j_icmp_ne (tgt := 57) dX4_tunes_38 (by decide) (fun h38 => ?_) (fun h38 => ?_)
  · skip
    refine j_aload_n dX4_tunes_57 0 rfl ?_
    refine g_X4_29 rfl dX4_tunes_58 0 rfl rfl ?_
    refine j_aload_n dX4_tunes_61 0 rfl ?_
    refine g_X4_19 rfl dX4_tunes_62 0 rfl rfl ?_
    refine j_V (w2 := (TR D O X E F Y Z V) ++ (EW D E s) ++ (HO D Y P j (min (kn + 1) 6)) ++ (EW D (P j) s)) (st2 := []) (c_X1_remember Y P nw kn j t E s hj (by omega) (by omega)) rfl cw_X4_78 dX4_tunes_65 [] rfl [6, 7, 8, 9, 10, 11, 12, 1, 2, 3, 4, 5] rfl rfl rfl 1 ?_ ⟨rfl, ⟨Nat.le_of_ble_eq_true rfl, Nat.le_of_ble_eq_true rfl⟩, ⟨rfl, rfl⟩, ⟨Nat.le_of_ble_eq_true rfl, Nat.le_of_ble_eq_true rfl⟩, Nat.le_of_ble_eq_true rfl, rfl, rfl⟩ rfl rfl rfl
    refine j_aload_n dX4_tunes_68 0 rfl ?_
    refine g_X4_19 rfl dX4_tunes_69 0 rfl rfl ?_
    refine j_iload_n dX4_tunes_72 1 rfl ?_
    refine j_iconst (v := nI 1) dX4_tunes_73 (by decide) ?_
    refine j_iload_n dX4_tunes_74 2 rfl ?_
    refine j_V (w2 := (TR D O X E F Y Z V) ++ (EW D E (upd s (64 + 7 * c + 1) (nI r))) ++ (HO D Y P j (min (kn + 1) 6)) ++ (EW D (P j) s)) (st2 := []) (c_X0_setChannel E s c 1 (nI r) (by omega) (by omega)) rfl cw_X4_99 dX4_tunes_75 [] rfl [1, 2, 3, 4, 5] rfl rfl rfl 0 ?_ ⟨rfl, ⟨Nat.le_of_ble_eq_true rfl, Nat.le_of_ble_eq_true rfl⟩, ⟨rfl, rfl⟩, ⟨Nat.le_of_ble_eq_true rfl, Nat.le_of_ble_eq_true rfl⟩, Nat.le_of_ble_eq_true rfl, rfl, rfl⟩ rfl rfl rfl
    refine j_aload_n dX4_tunes_78 0 rfl ?_
    refine g_X4_19 rfl dX4_tunes_79 0 rfl rfl ?_
    refine j_iload_n dX4_tunes_82 1 rfl ?_
    refine j_iconst (v := nI 2) dX4_tunes_83 (by decide) ?_
    refine j_iload_n dX4_tunes_84 3 rfl ?_
    refine j_V (w2 := (TR D O X E F Y Z V) ++ (EW D E (upd (upd s (64 + 7 * c + 1) (nI r)) (64 + 7 * c + 2) (nI b))) ++ (HO D Y P j (min (kn + 1) 6)) ++ (EW D (P j) s)) (st2 := []) (c_X0_setChannel E (upd s (64 + 7 * c + 1) (nI r)) c 2 (nI b) (by omega) (by omega)) rfl cw_X4_99 dX4_tunes_85 [] rfl [1, 2, 3, 4, 5] rfl rfl rfl 0 ?_ ⟨rfl, ⟨Nat.le_of_ble_eq_true rfl, Nat.le_of_ble_eq_true rfl⟩, ⟨rfl, rfl⟩, ⟨Nat.le_of_ble_eq_true rfl, Nat.le_of_ble_eq_true rfl⟩, Nat.le_of_ble_eq_true rfl, rfl, rfl⟩ rfl rfl rfl
    refine j_iconst (v := nI 1) dX4_tunes_88 (by decide) ?_
    exact j_iret dX4_tunes_89 ⟨rfl, rfl⟩ ⟨rfl, rfl⟩
  · skip
    refine j_aload_n dX4_tunes_41 0 rfl ?_
    refine g_X4_19 rfl dX4_tunes_42 0 rfl rfl ?_
    refine j_iload_n dX4_tunes_45 1 rfl ?_
    refine j_iconst (v := nI 2) dX4_tunes_46 (by decide) ?_
    refine j_V (w2 := (TR D O X E F Y Z V) ++ (EW D E s) ++ (HO D Y P nw kn) ++ (EW D (P j) t)) (st2 := [.int (gC s c 2)]) (c_X0_ofChannel E s c 2 (by omega) (by omega)) rfl cw_X4_95 dX4_tunes_47 [] rfl [1, 2, 3, 4, 5] rfl rfl rfl 0 ?_ ⟨rfl, ⟨Nat.le_of_ble_eq_true rfl, Nat.le_of_ble_eq_true rfl⟩, ⟨rfl, rfl⟩, ⟨Nat.le_of_ble_eq_true rfl, Nat.le_of_ble_eq_true rfl⟩, Nat.le_of_ble_eq_true rfl, rfl, rfl⟩ rfl rfl rfl
    refine j_iload_n dX4_tunes_50 3 rfl ?_
    refine j_icmp_ne (tgt := 57) dX4_tunes_51 (by decide) (fun h51 => ?_) (fun h51 => absurd ⟨h38, h51⟩ hd)
    refine j_aload_n dX4_tunes_57 0 rfl ?_
    refine g_X4_29 rfl dX4_tunes_58 0 rfl rfl ?_
    refine j_aload_n dX4_tunes_61 0 rfl ?_
    refine g_X4_19 rfl dX4_tunes_62 0 rfl rfl ?_
    refine j_V (w2 := (TR D O X E F Y Z V) ++ (EW D E s) ++ (HO D Y P j (min (kn + 1) 6)) ++ (EW D (P j) s)) (st2 := []) (c_X1_remember Y P nw kn j t E s hj (by omega) (by omega)) rfl cw_X4_78 dX4_tunes_65 [] rfl [6, 7, 8, 9, 10, 11, 12, 1, 2, 3, 4, 5] rfl rfl rfl 1 ?_ ⟨rfl, ⟨Nat.le_of_ble_eq_true rfl, Nat.le_of_ble_eq_true rfl⟩, ⟨rfl, rfl⟩, ⟨Nat.le_of_ble_eq_true rfl, Nat.le_of_ble_eq_true rfl⟩, Nat.le_of_ble_eq_true rfl, rfl, rfl⟩ rfl rfl rfl
    refine j_aload_n dX4_tunes_68 0 rfl ?_
    refine g_X4_19 rfl dX4_tunes_69 0 rfl rfl ?_
    refine j_iload_n dX4_tunes_72 1 rfl ?_
    refine j_iconst (v := nI 1) dX4_tunes_73 (by decide) ?_
    refine j_iload_n dX4_tunes_74 2 rfl ?_
    refine j_V (w2 := (TR D O X E F Y Z V) ++ (EW D E (upd s (64 + 7 * c + 1) (nI r))) ++ (HO D Y P j (min (kn + 1) 6)) ++ (EW D (P j) s)) (st2 := []) (c_X0_setChannel E s c 1 (nI r) (by omega) (by omega)) rfl cw_X4_99 dX4_tunes_75 [] rfl [1, 2, 3, 4, 5] rfl rfl rfl 0 ?_ ⟨rfl, ⟨Nat.le_of_ble_eq_true rfl, Nat.le_of_ble_eq_true rfl⟩, ⟨rfl, rfl⟩, ⟨Nat.le_of_ble_eq_true rfl, Nat.le_of_ble_eq_true rfl⟩, Nat.le_of_ble_eq_true rfl, rfl, rfl⟩ rfl rfl rfl
    refine j_aload_n dX4_tunes_78 0 rfl ?_
    refine g_X4_19 rfl dX4_tunes_79 0 rfl rfl ?_
    refine j_iload_n dX4_tunes_82 1 rfl ?_
    refine j_iconst (v := nI 2) dX4_tunes_83 (by decide) ?_
    refine j_iload_n dX4_tunes_84 3 rfl ?_
    refine j_V (w2 := (TR D O X E F Y Z V) ++ (EW D E (upd (upd s (64 + 7 * c + 1) (nI r)) (64 + 7 * c + 2) (nI b))) ++ (HO D Y P j (min (kn + 1) 6)) ++ (EW D (P j) s)) (st2 := []) (c_X0_setChannel E (upd s (64 + 7 * c + 1) (nI r)) c 2 (nI b) (by omega) (by omega)) rfl cw_X4_99 dX4_tunes_85 [] rfl [1, 2, 3, 4, 5] rfl rfl rfl 0 ?_ ⟨rfl, ⟨Nat.le_of_ble_eq_true rfl, Nat.le_of_ble_eq_true rfl⟩, ⟨rfl, rfl⟩, ⟨Nat.le_of_ble_eq_true rfl, Nat.le_of_ble_eq_true rfl⟩, Nat.le_of_ble_eq_true rfl, rfl, rfl⟩ rfl rfl rfl
    refine j_iconst (v := nI 1) dX4_tunes_88 (by decide) ?_
    exact j_iret dX4_tunes_89 ⟨rfl, rfl⟩ ⟨rfl, rfl⟩

set_option maxHeartbeats 4000000 in
set_option maxRecDepth 100000 in
theorem c_X4_undo_none (O : Nat) (X E F Y Z V : Nat → Nat) (P : Nat → Nat → Nat) (nw kn : Nat) (s : SS) (hkn : kn = 0) : Ct D yX4_undo cX4_undo 1 (some .int) ({ frames := 3, cells := 0, slots := 0, locals := 102 } : Room) [.ref O] ((TR D O X E F Y Z V) ++ (EW D E s) ++ (HO D Y P nw kn)) (fun v_ u_ => v_ = some (.int (-2)) ∧ u_ = (TR D O X E F Y Z V) ++ (EW D E s) ++ (HO D Y P nw kn)) := by
  refine ct_of (by decide) (Nat.le_of_ble_eq_true rfl) (lv0 := [(0, .ref O)]) rfl (fun Γ => ?_)
  refine j_aload_n dX4_undo_0 0 rfl ?_
  refine g_X4_29 rfl dX4_undo_1 0 rfl rfl ?_
  refine j_aload_n dX4_undo_4 0 rfl ?_
  refine g_X4_19 rfl dX4_undo_5 0 rfl rfl ?_
  refine j_V (w2 := (TR D O X E F Y Z V) ++ (EW D E s) ++ (HO D Y P nw kn)) (st2 := [.int (bI false)]) (c_X1_restore_none Y P nw kn E s hkn) rfl cw_X4_103 dX4_undo_8 [] rfl [6, 7, 1, 2, 3, 4, 5] rfl rfl rfl 1 ?_ ⟨rfl, ⟨Nat.le_of_ble_eq_true rfl, Nat.le_of_ble_eq_true rfl⟩, ⟨rfl, rfl⟩, ⟨Nat.le_of_ble_eq_true rfl, Nat.le_of_ble_eq_true rfl⟩, Nat.le_of_ble_eq_true rfl, rfl, rfl⟩ rfl rfl rfl
  refine j_if_eq_B (tgt := 24) dX4_undo_11 (by decide) (fun h11 => ?_) (fun h11 => absurd h11 (by decide))
  refine j_bipush (v := (-2)) dX4_undo_24 (by decide) ?_
  exact j_iret dX4_undo_26 ⟨rfl, rfl⟩ ⟨rfl, rfl⟩

set_option maxHeartbeats 4000000 in
set_option maxRecDepth 100000 in
theorem c_X4_undo_ok (O : Nat) (X E F Y Z V : Nat → Nat) (P : Nat → Nat → Nat) (nw kn j : Nat) (t s : SS) (hj : j = (nw + 5) % 6) (hnw : nw < 6) (hkn : 1 ≤ kn ∧ kn ≤ 6) : Ct D yX4_undo cX4_undo 1 (some .int) ({ frames := 3, cells := 0, slots := 0, locals := 102 } : Room) [.ref O] ((TR D O X E F Y Z V) ++ (EW D E s) ++ (HO D Y P nw kn) ++ (EW D (P nw) t)) (fun v_ u_ => v_ = some (.int (nI (kn - 1))) ∧ u_ = (TR D O X E F Y Z V) ++ (EW D E t) ++ (HO D Y P j (kn - 1)) ++ (EW D (P nw) t)) := by
  refine ct_of (by decide) (Nat.le_of_ble_eq_true rfl) (lv0 := [(0, .ref O)]) rfl (fun Γ => ?_)
  refine j_aload_n dX4_undo_0 0 rfl ?_
  refine g_X4_29 rfl dX4_undo_1 0 rfl rfl ?_
  refine j_aload_n dX4_undo_4 0 rfl ?_
  refine g_X4_19 rfl dX4_undo_5 0 rfl rfl ?_
  refine j_V (w2 := (TR D O X E F Y Z V) ++ (EW D E t) ++ (HO D Y P j (kn - 1)) ++ (EW D (P nw) t)) (st2 := [.int (bI true)]) (c_X1_restore Y P nw kn j t E s hj (by omega) (by omega)) rfl cw_X4_103 dX4_undo_8 [] rfl [6, 7, 8, 9, 10, 11, 12, 1, 2, 3, 4, 5] rfl rfl rfl 1 ?_ ⟨rfl, ⟨Nat.le_of_ble_eq_true rfl, Nat.le_of_ble_eq_true rfl⟩, ⟨rfl, rfl⟩, ⟨Nat.le_of_ble_eq_true rfl, Nat.le_of_ble_eq_true rfl⟩, Nat.le_of_ble_eq_true rfl, rfl, rfl⟩ rfl rfl rfl
  refine j_if_eq_B (tgt := 24) dX4_undo_11 (by decide) (fun h11 => absurd h11 (by decide)) (fun h11 => ?_)
  refine j_aload_n dX4_undo_14 0 rfl ?_
  refine g_X4_29 rfl dX4_undo_15 0 rfl rfl ?_
  refine g_X4_107 rfl dX4_undo_18 6 rfl rfl ?_
  refine j_goto (tgt := 26) dX4_undo_21 (by decide) ?_
  exact j_iret dX4_undo_26 ⟨rfl, rfl⟩ ⟨rfl, rfl⟩

set_option maxHeartbeats 4000000 in
set_option maxRecDepth 100000 in
theorem c_X4_ticksUntilOver (O : Nat) (X E F Y Z V : Nat → Nat) (t : SS) (hI : Inv t) (c most : Nat) (hc : c < 4) (hm : most ≤ 200) : Ct D yX4_ticksUntilOver cX4_ticksUntilOver 6 (some .int) ({ frames := 5, cells := 0, slots := 0, locals := 120 } : Room) [.ref O, .int (nI c), .int (nI most)] ((TR D O X E F Y Z V) ++ (EW D F t)) (fun v_ u_ => v_ = some (.int (oN (ovF false t c most))) ∧ ∃ t1 : SS, u_ = (TR D O X E F Y Z V) ++ (EW D F t1)) := by
  refine ct_of (by decide) (Nat.le_of_ble_eq_true rfl) (lv0 := [(0, .ref O), (1, .int (nI c)), (2, .int (nI most))]) rfl (fun Γ => ?_)
  refine j_iconst (v := nI 0) dX4_ticksUntilOver_0 (by decide) ?_
  refine j_istore_n (lv2 := [(0, .ref O), (1, .int (nI c)), (2, .int (nI most)), (3, .int (nI 0))]) dX4_ticksUntilOver_1 (by decide) [1, 2, 3, 0] rfl ?_
  have L2 : ∀ (fuel : Nat) (j : Nat), j ≤ most + 1 → ovF false t c most = fsN (ovP false t c) (most + 1 - j) j → most + 1 - j < fuel → J D Γ yX4_ticksUntilOver cX4_ticksUntilOver 6 (some .int) ({ frames := 5, cells := 0, slots := 0, locals := 120 } : Room) (Qf D Γ ({ frames := 5, cells := 0, slots := 0, locals := 120 } : Room) (fun v_ u_ => v_ = some (.int (oN (ovF false t c most))) ∧ ∃ t1 : SS, u_ = (TR D O X E F Y Z V) ++ (EW D F t1))) 0 0 ((TR D O X E F Y Z V) ++ (EW D F (itk false t j))) 2 [(0, .ref O), (1, .int (nI c)), (2, .int (nI most)), (3, .int (nI j))] [] := by
    intro fuel
    induction fuel with
    | zero => intro j hj he hm; exact absurd hm (Nat.not_lt_zero _)
    | succ fuel ih =>
      intro j hj he hm
      have hel := cnt_le (fun i => eng (itk false t j) (c * 6 + i)) 6
      refine j_iload_n dX4_ticksUntilOver_2 3 rfl ?_
      refine j_iload_n dX4_ticksUntilOver_3 2 rfl ?_
      refine j_icmp_gt_N (tgt := 76) dX4_ticksUntilOver_4 (by decide) ⟨by omega, by omega⟩ (fun h4 => ?_) (fun h4 => ?_)
      · skip
        refine j_bipush (v := (-9)) dX4_ticksUntilOver_76 (by decide) ?_
        exact j_iret dX4_ticksUntilOver_78 ⟨rfl, rfl⟩ ⟨by rw [he, show most + 1 - j = 0 by omega]; rfl, _, rfl⟩
      · skip
        refine j_aload_n dX4_ticksUntilOver_7 0 rfl ?_
        refine g_X4_23 rfl dX4_ticksUntilOver_8 0 rfl rfl ?_
        refine j_iload_n dX4_ticksUntilOver_11 1 rfl ?_
        refine j_V (w2 := (TR D O X E F Y Z V) ++ (EW D F (itk false t j))) (st2 := [.int (nI (elo (itk false t j) c))]) (c_X0_engineLettersOf F (itk false t j) c (by omega)) rfl cw_X4_186 dX4_ticksUntilOver_12 [] rfl [1, 2, 3, 4, 5] rfl rfl rfl 0 ?_ ⟨rfl, ⟨Nat.le_of_ble_eq_true rfl, Nat.le_of_ble_eq_true rfl⟩, ⟨rfl, rfl⟩, ⟨Nat.le_of_ble_eq_true rfl, Nat.le_of_ble_eq_true rfl⟩, Nat.le_of_ble_eq_true rfl, rfl, rfl⟩ rfl rfl rfl
        have hel2 : elo (itk false t j) c ≤ 6 := hel
        refine j_if_ne_N (tgt := 20) dX4_ticksUntilOver_15 (by decide) (by omega) (fun h15 => ?_) (fun h15 => ?_)
        · skip
          refine j_aload_n dX4_ticksUntilOver_20 0 rfl ?_
          refine g_X4_23 rfl dX4_ticksUntilOver_21 0 rfl rfl ?_
          refine g_X4_140 rfl dX4_ticksUntilOver_24 1 rfl rfl ?_
          refine j_if_ne (tgt := 34) dX4_ticksUntilOver_27 (by decide) (fun h27 => ?_) (fun h27 => ?_)
          · skip
            refine j_iconst (v := nI 0) dX4_ticksUntilOver_34 (by decide) ?_
            refine j_istore (lv2 := [(0, .ref O), (1, .int (nI c)), (2, .int (nI most)), (3, .int (nI j)), (4, .int (nI 0))]) dX4_ticksUntilOver_35 (by decide) [1, 2, 3, 4, 0] rfl ?_
            refine j_aload_n dX4_ticksUntilOver_37 0 rfl ?_
            refine g_X4_23 rfl dX4_ticksUntilOver_38 0 rfl rfl ?_
            refine j_iconst (v := nI 0) dX4_ticksUntilOver_41 (by decide) ?_
            refine j_V (w2 := (TR D O X E F Y Z V) ++ (EW D F (tkF false (itk false t j)))) (st2 := [.int (oN (tkW (itk false t j)))]) (c_X0_tick F (itk false t j) false (Inv_it hI j)) rfl cw_X4_81 dX4_ticksUntilOver_42 [] rfl [1, 2, 3, 4, 5] rfl rfl rfl 0 ?_ ⟨rfl, ⟨Nat.le_of_ble_eq_true rfl, Nat.le_of_ble_eq_true rfl⟩, ⟨rfl, rfl⟩, ⟨Nat.le_of_ble_eq_true rfl, Nat.le_of_ble_eq_true rfl⟩, Nat.le_of_ble_eq_true rfl, rfl, rfl⟩ rfl rfl rfl
            rcases hw : tkW (itk false t j) with _ | d
            · skip
              refine j_bipush (v := (-9)) dX4_ticksUntilOver_45 (by decide) ?_
              refine j_icmp_ne (tgt := 54) dX4_ticksUntilOver_47 (by decide) (fun h47 => absurd rfl h47) (fun h47 => ?_)
              refine j_iconst (v := nI 1) dX4_ticksUntilOver_50 (by decide) ?_
              refine j_goto (tgt := 55) dX4_ticksUntilOver_51 (by decide) ?_
              refine j_istore (lv2 := [(0, .ref O), (1, .int (nI c)), (2, .int (nI most)), (3, .int (nI j)), (4, .int (nI 0)), (5, .int (nI 1))]) dX4_ticksUntilOver_55 (by decide) [1, 2, 3, 4, 5, 0] rfl ?_
              refine j_iload dX4_ticksUntilOver_57 4 rfl ?_
              refine j_if_eq_N (tgt := 70) dX4_ticksUntilOver_59 (by decide) (by omega) (fun h59 => ?_) (fun h59 => absurd rfl h59)
              refine j_iinc (v := nI (j + 1)) (lv2 := [(0, .ref O), (1, .int (nI c)), (2, .int (nI most)), (3, .int (nI (j + 1))), (4, .int (nI 0)), (5, .int (nI 1))]) dX4_ticksUntilOver_70 3 rfl (nI_1 _) (by decide) [1, 2, 3, 0, 4, 5] rfl ?_
              refine j_goto (tgt := 2) dX4_ticksUntilOver_73 (by decide) ?_
              refine j_lv (lv2 := [(0, .ref O), (1, .int (nI c)), (2, .int (nI most)), (3, .int (nI (j + 1)))]) [0, 1, 2, 3] rfl ?_
              exact ih (j + 1) (by omega) (by rw [he, show most + 1 - j = (most + 1 - (j + 1)) + 1 by omega, fsN_f (decide_eq_false h15)]) (by omega)
            · skip
              have hd4 := who_lt hw
              refine j_bipush (v := (-9)) dX4_ticksUntilOver_45 (by decide) ?_
              refine j_icmp_ne (tgt := 54) dX4_ticksUntilOver_47 (by decide) (fun h47 => ?_) (fun h47 => absurd h47 (nI_m9 (by omega)))
              refine j_iconst (v := nI 0) dX4_ticksUntilOver_54 (by decide) ?_
              refine j_istore (lv2 := [(0, .ref O), (1, .int (nI c)), (2, .int (nI most)), (3, .int (nI j)), (4, .int (nI 0)), (5, .int (nI 0))]) dX4_ticksUntilOver_55 (by decide) [1, 2, 3, 4, 5, 0] rfl ?_
              refine j_iload dX4_ticksUntilOver_57 4 rfl ?_
              refine j_if_eq_N (tgt := 70) dX4_ticksUntilOver_59 (by decide) (by omega) (fun h59 => ?_) (fun h59 => absurd rfl h59)
              refine j_iinc (v := nI (j + 1)) (lv2 := [(0, .ref O), (1, .int (nI c)), (2, .int (nI most)), (3, .int (nI (j + 1))), (4, .int (nI 0)), (5, .int (nI 0))]) dX4_ticksUntilOver_70 3 rfl (nI_1 _) (by decide) [1, 2, 3, 0, 4, 5] rfl ?_
              refine j_goto (tgt := 2) dX4_ticksUntilOver_73 (by decide) ?_
              refine j_lv (lv2 := [(0, .ref O), (1, .int (nI c)), (2, .int (nI most)), (3, .int (nI (j + 1)))]) [0, 1, 2, 3] rfl ?_
              exact ih (j + 1) (by omega) (by rw [he, show most + 1 - j = (most + 1 - (j + 1)) + 1 by omega, fsN_f (decide_eq_false h15)]) (by omega)
          · skip
            refine j_iconst (v := nI 1) dX4_ticksUntilOver_30 (by decide) ?_
            refine j_goto (tgt := 35) dX4_ticksUntilOver_31 (by decide) ?_
            refine j_istore (lv2 := [(0, .ref O), (1, .int (nI c)), (2, .int (nI most)), (3, .int (nI j)), (4, .int (nI 1))]) dX4_ticksUntilOver_35 (by decide) [1, 2, 3, 4, 0] rfl ?_
            refine j_aload_n dX4_ticksUntilOver_37 0 rfl ?_
            refine g_X4_23 rfl dX4_ticksUntilOver_38 0 rfl rfl ?_
            refine j_iconst (v := nI 0) dX4_ticksUntilOver_41 (by decide) ?_
            refine j_V (w2 := (TR D O X E F Y Z V) ++ (EW D F (tkF false (itk false t j)))) (st2 := [.int (oN (tkW (itk false t j)))]) (c_X0_tick F (itk false t j) false (Inv_it hI j)) rfl cw_X4_81 dX4_ticksUntilOver_42 [] rfl [1, 2, 3, 4, 5] rfl rfl rfl 0 ?_ ⟨rfl, ⟨Nat.le_of_ble_eq_true rfl, Nat.le_of_ble_eq_true rfl⟩, ⟨rfl, rfl⟩, ⟨Nat.le_of_ble_eq_true rfl, Nat.le_of_ble_eq_true rfl⟩, Nat.le_of_ble_eq_true rfl, rfl, rfl⟩ rfl rfl rfl
            rcases hw : tkW (itk false t j) with _ | d
            · skip
              refine j_bipush (v := (-9)) dX4_ticksUntilOver_45 (by decide) ?_
              refine j_icmp_ne (tgt := 54) dX4_ticksUntilOver_47 (by decide) (fun h47 => absurd rfl h47) (fun h47 => ?_)
              refine j_iconst (v := nI 1) dX4_ticksUntilOver_50 (by decide) ?_
              refine j_goto (tgt := 55) dX4_ticksUntilOver_51 (by decide) ?_
              refine j_istore (lv2 := [(0, .ref O), (1, .int (nI c)), (2, .int (nI most)), (3, .int (nI j)), (4, .int (nI 1)), (5, .int (nI 1))]) dX4_ticksUntilOver_55 (by decide) [1, 2, 3, 4, 5, 0] rfl ?_
              refine j_iload dX4_ticksUntilOver_57 4 rfl ?_
              refine j_if_eq_N (tgt := 70) dX4_ticksUntilOver_59 (by decide) (by omega) (fun h59 => absurd h59 (by decide)) (fun h59 => ?_)
              refine j_iload dX4_ticksUntilOver_62 5 rfl ?_
              refine j_if_eq_N (tgt := 70) dX4_ticksUntilOver_64 (by decide) (by omega) (fun h64 => absurd h64 (by decide)) (fun h64 => ?_)
              refine j_bipush (v := (-9)) dX4_ticksUntilOver_67 (by decide) ?_
              exact j_iret dX4_ticksUntilOver_69 ⟨rfl, rfl⟩ ⟨by rw [he, ov_idle h27 hw h15]; rfl, _, rfl⟩
            · skip
              have hd4 := who_lt hw
              refine j_bipush (v := (-9)) dX4_ticksUntilOver_45 (by decide) ?_
              refine j_icmp_ne (tgt := 54) dX4_ticksUntilOver_47 (by decide) (fun h47 => ?_) (fun h47 => absurd h47 (nI_m9 (by omega)))
              refine j_iconst (v := nI 0) dX4_ticksUntilOver_54 (by decide) ?_
              refine j_istore (lv2 := [(0, .ref O), (1, .int (nI c)), (2, .int (nI most)), (3, .int (nI j)), (4, .int (nI 1)), (5, .int (nI 0))]) dX4_ticksUntilOver_55 (by decide) [1, 2, 3, 4, 5, 0] rfl ?_
              refine j_iload dX4_ticksUntilOver_57 4 rfl ?_
              refine j_if_eq_N (tgt := 70) dX4_ticksUntilOver_59 (by decide) (by omega) (fun h59 => absurd h59 (by decide)) (fun h59 => ?_)
              refine j_iload dX4_ticksUntilOver_62 5 rfl ?_
              refine j_if_eq_N (tgt := 70) dX4_ticksUntilOver_64 (by decide) (by omega) (fun h64 => ?_) (fun h64 => absurd rfl h64)
              refine j_iinc (v := nI (j + 1)) (lv2 := [(0, .ref O), (1, .int (nI c)), (2, .int (nI most)), (3, .int (nI (j + 1))), (4, .int (nI 1)), (5, .int (nI 0))]) dX4_ticksUntilOver_70 3 rfl (nI_1 _) (by decide) [1, 2, 3, 0, 4, 5] rfl ?_
              refine j_goto (tgt := 2) dX4_ticksUntilOver_73 (by decide) ?_
              refine j_lv (lv2 := [(0, .ref O), (1, .int (nI c)), (2, .int (nI most)), (3, .int (nI (j + 1)))]) [0, 1, 2, 3] rfl ?_
              exact ih (j + 1) (by omega) (by rw [he, show most + 1 - j = (most + 1 - (j + 1)) + 1 by omega, fsN_f (decide_eq_false h15)]) (by omega)
        · skip
          refine j_iload_n dX4_ticksUntilOver_18 3 rfl ?_
          exact j_iret dX4_ticksUntilOver_19 ⟨rfl, rfl⟩ ⟨by rw [he, show most + 1 - j = (most + 1 - (j + 1)) + 1 by omega, fsN_t (decide_eq_true h15)]; rfl, _, rfl⟩
  exact L2 (most + 2) 0 (by omega) rfl (by omega)

set_option maxHeartbeats 4000000 in
set_option maxRecDepth 100000 in
theorem c_X4_over (O : Nat) (X E F Y Z V : Nat → Nat) (s t : SS) (hI : Inv s) (v : Int32) : Ct D yX4_over cX4_over 2 (some .int) ({ frames := 6, cells := 0, slots := 0, locals := 145 } : Room) [.ref O, .int v] ((TR D O X E F Y Z V) ++ (EW D E s) ++ (EW D F t)) (fun v_ u_ => v_ = some (.int (ovA s v)) ∧ ∃ t1 : SS, u_ = (TR D O X E F Y Z V) ++ (EW D E s) ++ (EW D F t1)) := by
  refine ct_of (by decide) (Nat.le_of_ble_eq_true rfl) (lv0 := [(0, .ref O), (1, .int v)]) rfl (fun Γ => ?_)
  refine j_iload_n dX4_over_0 1 rfl ?_
  refine j_S (w2 := (TR D O X E F Y Z V) ++ (EW D E s) ++ (EW D F t)) (st2 := [.int (bI (inR v (nI 0) (nI 3)))]) (c_X4_isChannel v) rfl cw_X4_85 dX4_over_1 [] rfl [] rfl rfl rfl ?_ ⟨rfl, ⟨Nat.le_of_ble_eq_true rfl, Nat.le_of_ble_eq_true rfl⟩, ⟨rfl, rfl⟩, ⟨Nat.le_of_ble_eq_true rfl, Nat.le_of_ble_eq_true rfl⟩, Nat.le_of_ble_eq_true rfl, rfl, rfl⟩
  refine j_if_ne_B (tgt := 9) dX4_over_4 (by decide) (fun h4 => ?_) (fun h4 => ?_)
  · skip
    obtain ⟨c, hc1, hc2, rfl⟩ := inR_nat (by decide) (by decide) h4
    refine j_aload_n dX4_over_9 0 rfl ?_
    refine g_X4_23 rfl dX4_over_10 0 rfl rfl ?_
    refine j_aload_n dX4_over_13 0 rfl ?_
    refine g_X4_19 rfl dX4_over_14 0 rfl rfl ?_
    refine j_V (w2 := (TR D O X E F Y Z V) ++ (EW D E s) ++ (EW D F s)) (st2 := []) (c_X0_copyFrom F E t s) rfl cw_X4_67 dX4_over_17 [] rfl [6, 7, 8, 9, 10, 1, 2, 3, 4, 5] rfl rfl rfl 0 ?_ ⟨rfl, ⟨Nat.le_of_ble_eq_true rfl, Nat.le_of_ble_eq_true rfl⟩, ⟨rfl, rfl⟩, ⟨Nat.le_of_ble_eq_true rfl, Nat.le_of_ble_eq_true rfl⟩, Nat.le_of_ble_eq_true rfl, rfl, rfl⟩ rfl rfl rfl
    refine j_aload_n dX4_over_20 0 rfl ?_
    refine j_iload_n dX4_over_21 1 rfl ?_
    refine j_sipush (v := nI 200) dX4_over_22 (by decide) ?_
    refine j_callV (c_X4_ticksUntilOver O X E F Y Z V s hI c 200 (by omega) (by omega)) rfl cw_X4_156 rfl ⟨Nat.le_of_ble_eq_true rfl, Nat.le_of_ble_eq_true rfl⟩ ⟨rfl, rfl⟩ ⟨Nat.le_of_ble_eq_true rfl, Nat.le_of_ble_eq_true rfl⟩ dX4_over_25 (rest := []) rfl (Nat.le_of_ble_eq_true rfl) [0, 6, 7, 8, 9, 10] rfl rfl 4 0 rfl rfl rfl (fun v_ w_ hf_ => ?_)
    obtain ⟨rfl, t1, rfl⟩ := hf_
    refine ⟨rfl, ?_⟩
    refine j_ws (w2 := (TR D O X E F Y Z V) ++ (EW D E s) ++ (EW D F t1)) (st2 := [.int (oN (ovF false s c 200))]) rfl rfl ?_
    exact j_iret dX4_over_28 ⟨rfl, rfl⟩ ⟨by rw [show ovA s (nI c) = oN (ovF false s c 200) from by unfold ovA; rw [if_pos h4, cl_nI (by omega), ovF_eq]], _, rfl⟩
  · skip
    refine j_iconst (v := (-1)) dX4_over_7 (by decide) ?_
    exact j_iret dX4_over_8 ⟨rfl, rfl⟩ ⟨by rw [show ovA s v = -1 from if_neg (nBool h4)], t, rfl⟩

set_option maxHeartbeats 4000000 in
set_option maxRecDepth 100000 in
theorem c_X4_enough (O : Nat) (X E F Y Z V : Nat → Nat) (s t : SS) (hI : Inv s) (v w : Int32) : Ct D yX4_enough cX4_enough 4 (some .int) ({ frames := 6, cells := 0, slots := 0, locals := 145 } : Room) [.ref O, .int v, .int w] ((TR D O X E F Y Z V) ++ (EW D E s) ++ (EW D F t)) (fun v_ u_ => v_ = some (.int (enA s v w)) ∧ ∃ t1 : SS, u_ = (TR D O X E F Y Z V) ++ (EW D E s) ++ (EW D F t1)) := by
  refine ct_of (by decide) (Nat.le_of_ble_eq_true rfl) (lv0 := [(0, .ref O), (1, .int v), (2, .int w)]) rfl (fun Γ => ?_)
  refine j_iload_n dX4_enough_0 1 rfl ?_
  refine j_S (w2 := (TR D O X E F Y Z V) ++ (EW D E s) ++ (EW D F t)) (st2 := [.int (bI (inR v (nI 0) (nI 3)))]) (c_X4_isChannel v) rfl cw_X4_85 dX4_enough_1 [] rfl [] rfl rfl rfl ?_ ⟨rfl, ⟨Nat.le_of_ble_eq_true rfl, Nat.le_of_ble_eq_true rfl⟩, ⟨rfl, rfl⟩, ⟨Nat.le_of_ble_eq_true rfl, Nat.le_of_ble_eq_true rfl⟩, Nat.le_of_ble_eq_true rfl, rfl, rfl⟩
  refine j_if_eq_B (tgt := 18) dX4_enough_4 (by decide) (fun h4 => ?_) (fun h4 => ?_)
  · skip
    refine j_iconst (v := (-1)) dX4_enough_18 (by decide) ?_
    exact j_iret dX4_enough_19 ⟨rfl, rfl⟩ ⟨by rw [show enA s v w = -1 from if_neg (fun q => nBool h4 q.1)], t, rfl⟩
  · skip
    refine j_iload_n dX4_enough_7 2 rfl ?_
    refine j_iconst (v := nI 0) dX4_enough_8 (by decide) ?_
    refine j_sipush (v := nI 200) dX4_enough_9 (by decide) ?_
    refine j_S (w2 := (TR D O X E F Y Z V) ++ (EW D E s) ++ (EW D F t)) (st2 := [.int (bI (inR w (nI 0) (nI 200)))]) (c_X4_within w (nI 0) (nI 200)) rfl cw_X4_48 dX4_enough_12 [] rfl [] rfl rfl rfl ?_ ⟨rfl, ⟨Nat.le_of_ble_eq_true rfl, Nat.le_of_ble_eq_true rfl⟩, ⟨rfl, rfl⟩, ⟨Nat.le_of_ble_eq_true rfl, Nat.le_of_ble_eq_true rfl⟩, Nat.le_of_ble_eq_true rfl, rfl, rfl⟩
    refine j_if_ne_B (tgt := 20) dX4_enough_15 (by decide) (fun h15 => ?_) (fun h15 => ?_)
    · skip
      have hA : enA s v w = oN (fsN (enP s (cl v) (cl w)) 8 1) := if_pos ⟨h4, h15⟩
      obtain ⟨c, hc1, hc2, rfl⟩ := inR_nat (by decide) (by decide) h4
      obtain ⟨n, hn1, hn2, rfl⟩ := inR_nat (by decide) (by decide) h15
      rw [cl_nI (by omega), cl_nI (by omega)] at hA
      have hc2 : c < 4 := by omega
      refine j_iconst (v := nI 1) dX4_enough_20 (by decide) ?_
      refine j_istore_n (lv2 := [(0, .ref O), (1, .int (nI c)), (2, .int (nI n)), (3, .int (nI 1))]) dX4_enough_21 (by decide) [1, 2, 3, 0] rfl ?_
      have L22 : ∀ (fuel : Nat) (b : Nat) (t : SS), 1 ≤ b ∧ b ≤ 9 → enA s (nI c) (nI n) = oN (fsN (enP s c n) (9 - b) b) → 9 - b < fuel → J D Γ yX4_enough cX4_enough 4 (some .int) ({ frames := 6, cells := 0, slots := 0, locals := 145 } : Room) (Qf D Γ ({ frames := 6, cells := 0, slots := 0, locals := 145 } : Room) (fun v_ u_ => v_ = some (.int (enA s (nI c) (nI n))) ∧ ∃ t1 : SS, u_ = (TR D O X E F Y Z V) ++ (EW D E s) ++ (EW D F t1))) 0 0 ((TR D O X E F Y Z V) ++ (EW D E s) ++ (EW D F t)) 22 [(0, .ref O), (1, .int (nI c)), (2, .int (nI n)), (3, .int (nI b))] [] := by
        intro fuel
        induction fuel with
        | zero => intro b t hb he hm; exact absurd hm (Nat.not_lt_zero _)
        | succ fuel ih =>
          intro b t hb he hm
          refine j_iload_n dX4_enough_22 3 rfl ?_
          refine j_bipush (v := nI 8) dX4_enough_23 (by decide) ?_
          refine j_icmp_gt_N (tgt := 68) dX4_enough_25 (by decide) ⟨by omega, by omega⟩ (fun h25 => ?_) (fun h25 => ?_)
          · skip
            refine j_bipush (v := (-9)) dX4_enough_68 (by decide) ?_
            exact j_iret dX4_enough_70 ⟨rfl, rfl⟩ ⟨by rw [he, show 9 - b = 0 by omega]; rfl, _, rfl⟩
          · skip
            refine j_aload_n dX4_enough_28 0 rfl ?_
            refine g_X4_23 rfl dX4_enough_29 0 rfl rfl ?_
            refine j_aload_n dX4_enough_32 0 rfl ?_
            refine g_X4_19 rfl dX4_enough_33 0 rfl rfl ?_
            refine j_V (w2 := (TR D O X E F Y Z V) ++ (EW D E s) ++ (EW D F s)) (st2 := []) (c_X0_copyFrom F E t s) rfl cw_X4_67 dX4_enough_36 [] rfl [6, 7, 8, 9, 10, 1, 2, 3, 4, 5] rfl rfl rfl 0 ?_ ⟨rfl, ⟨Nat.le_of_ble_eq_true rfl, Nat.le_of_ble_eq_true rfl⟩, ⟨rfl, rfl⟩, ⟨Nat.le_of_ble_eq_true rfl, Nat.le_of_ble_eq_true rfl⟩, Nat.le_of_ble_eq_true rfl, rfl, rfl⟩ rfl rfl rfl
            refine j_aload_n dX4_enough_39 0 rfl ?_
            refine g_X4_23 rfl dX4_enough_40 0 rfl rfl ?_
            refine j_iload_n dX4_enough_43 1 rfl ?_
            refine j_iconst (v := nI 2) dX4_enough_44 (by decide) ?_
            refine j_iload_n dX4_enough_45 3 rfl ?_
            refine j_V (w2 := (TR D O X E F Y Z V) ++ (EW D E s) ++ (EW D F (upd s (64 + 7 * c + 2) (nI b)))) (st2 := []) (c_X0_setChannel F s c 2 (nI b) (by omega) (by omega)) rfl cw_X4_99 dX4_enough_46 [] rfl [6, 7, 8, 9, 10] rfl rfl rfl 0 ?_ ⟨rfl, ⟨Nat.le_of_ble_eq_true rfl, Nat.le_of_ble_eq_true rfl⟩, ⟨rfl, rfl⟩, ⟨Nat.le_of_ble_eq_true rfl, Nat.le_of_ble_eq_true rfl⟩, Nat.le_of_ble_eq_true rfl, rfl, rfl⟩ rfl rfl rfl
            refine j_aload_n dX4_enough_49 0 rfl ?_
            refine j_iload_n dX4_enough_50 1 rfl ?_
            refine j_iload_n dX4_enough_51 2 rfl ?_
            refine j_callV (c_X4_ticksUntilOver O X E F Y Z V (upd s (64 + 7 * c + 2) (nI b)) (Inv_bu hI hc2 (by omega) (by omega)) c n (by omega) (by omega)) rfl cw_X4_156 rfl ⟨Nat.le_of_ble_eq_true rfl, Nat.le_of_ble_eq_true rfl⟩ ⟨rfl, rfl⟩ ⟨Nat.le_of_ble_eq_true rfl, Nat.le_of_ble_eq_true rfl⟩ dX4_enough_52 (rest := []) rfl (Nat.le_of_ble_eq_true rfl) [0, 6, 7, 8, 9, 10] rfl rfl 4 0 rfl rfl rfl (fun v_ w_ hf_ => ?_)
            obtain ⟨rfl, t1, rfl⟩ := hf_
            refine ⟨rfl, ?_⟩
            refine j_ws (w2 := (TR D O X E F Y Z V) ++ (EW D E s) ++ (EW D F t1)) (st2 := [.int (oN (ovF false (upd s (64 + 7 * c + 2) (nI b)) c n))]) rfl rfl ?_
            rcases hw : ovF false (upd s (64 + 7 * c + 2) (nI b)) c n with _ | d
            · skip
              have hp : enP s c n b = false := by unfold enP; rw [← ovF_eq, hw]; rfl
              refine j_bipush (v := (-9)) dX4_enough_55 (by decide) ?_
              refine j_icmp_eq (tgt := 62) dX4_enough_57 (by decide) (fun h57 => ?_) (fun h57 => absurd rfl h57)
              refine j_iinc (v := nI (b + 1)) (lv2 := [(0, .ref O), (1, .int (nI c)), (2, .int (nI n)), (3, .int (nI (b + 1)))]) dX4_enough_62 3 rfl (nI_1 _) (by decide) [1, 2, 3, 0] rfl ?_
              refine j_goto (tgt := 22) dX4_enough_65 (by decide) ?_
              exact ih (b + 1) _ (by omega) (by rw [he, show 9 - b = (9 - (b + 1)) + 1 by omega, fsN_f hp]) (by omega)
            · skip
              have hp : enP s c n b = true := by unfold enP; rw [← ovF_eq, hw]; rfl
              have hd := ovF_le hw
              refine j_bipush (v := (-9)) dX4_enough_55 (by decide) ?_
              refine j_icmp_eq (tgt := 62) dX4_enough_57 (by decide) (fun h57 => absurd h57 (nI_m9 (by omega))) (fun h57 => ?_)
              refine j_iload_n dX4_enough_60 3 rfl ?_
              exact j_iret dX4_enough_61 ⟨rfl, rfl⟩ ⟨by rw [he, show 9 - b = (9 - (b + 1)) + 1 by omega, fsN_t hp]; rfl, _, rfl⟩
      exact L22 9 1 _ (by omega) hA (by omega)
    · skip
      refine j_iconst (v := (-1)) dX4_enough_18 (by decide) ?_
      exact j_iret dX4_enough_19 ⟨rfl, rfl⟩ ⟨by rw [show enA s v w = -1 from if_neg (fun q => nBool h15 q.2)], t, rfl⟩

set_option maxHeartbeats 4000000 in
set_option maxRecDepth 100000 in
theorem c_X4_granted (O : Nat) (X E F Y Z V : Nat → Nat) (s t : SS) (hI : Inv s) (v : Int32) : Ct D yX4_granted cX4_granted 3 (some .int) ({ frames := 5, cells := 0, slots := 0, locals := 120 } : Room) [.ref O, .int v] ((TR D O X E F Y Z V) ++ (EW D E s) ++ (EW D F t)) (fun v_ u_ => v_ = some (.int (gnA s v)) ∧ ∃ t1 : SS, u_ = (TR D O X E F Y Z V) ++ (EW D E s) ++ (EW D F t1)) := by
  refine ct_of (by decide) (Nat.le_of_ble_eq_true rfl) (lv0 := [(0, .ref O), (1, .int v)]) rfl (fun Γ => ?_)
  refine j_iload_n dX4_granted_0 1 rfl ?_
  refine j_iconst (v := nI 1) dX4_granted_1 (by decide) ?_
  refine j_bipush (v := nI 40) dX4_granted_2 (by decide) ?_
  refine j_S (w2 := (TR D O X E F Y Z V) ++ (EW D E s) ++ (EW D F t)) (st2 := [.int (bI (inR v (nI 1) (nI 40)))]) (c_X4_within v (nI 1) (nI 40)) rfl cw_X4_48 dX4_granted_4 [] rfl [] rfl rfl rfl ?_ ⟨rfl, ⟨Nat.le_of_ble_eq_true rfl, Nat.le_of_ble_eq_true rfl⟩, ⟨rfl, rfl⟩, ⟨Nat.le_of_ble_eq_true rfl, Nat.le_of_ble_eq_true rfl⟩, Nat.le_of_ble_eq_true rfl, rfl, rfl⟩
  refine j_if_ne_B (tgt := 12) dX4_granted_7 (by decide) (fun h7 => ?_) (fun h7 => ?_)
  · skip
    have hA : gnA s v = oN (tkW (itk true s (cl v - 1))) := if_pos h7
    obtain ⟨q, hq1, hq2, rfl⟩ := inR_nat (by decide) (by decide) h7
    rw [cl_nI (by omega)] at hA
    refine j_aload_n dX4_granted_12 0 rfl ?_
    refine g_X4_23 rfl dX4_granted_13 0 rfl rfl ?_
    refine j_aload_n dX4_granted_16 0 rfl ?_
    refine g_X4_19 rfl dX4_granted_17 0 rfl rfl ?_
    refine j_V (w2 := (TR D O X E F Y Z V) ++ (EW D E s) ++ (EW D F s)) (st2 := []) (c_X0_copyFrom F E t s) rfl cw_X4_67 dX4_granted_20 [] rfl [6, 7, 8, 9, 10, 1, 2, 3, 4, 5] rfl rfl rfl 0 ?_ ⟨rfl, ⟨Nat.le_of_ble_eq_true rfl, Nat.le_of_ble_eq_true rfl⟩, ⟨rfl, rfl⟩, ⟨Nat.le_of_ble_eq_true rfl, Nat.le_of_ble_eq_true rfl⟩, Nat.le_of_ble_eq_true rfl, rfl, rfl⟩ rfl rfl rfl
    refine j_iconst (v := nI 1) dX4_granted_23 (by decide) ?_
    refine j_istore_n (lv2 := [(0, .ref O), (1, .int (nI q)), (2, .int (nI 1))]) dX4_granted_24 (by decide) [1, 2, 0] rfl ?_
    have L25 : ∀ (fuel : Nat) (i : Nat), i + 1 ≤ q → q - i < fuel → J D Γ yX4_granted cX4_granted 3 (some .int) ({ frames := 5, cells := 0, slots := 0, locals := 120 } : Room) (Qf D Γ ({ frames := 5, cells := 0, slots := 0, locals := 120 } : Room) (fun v_ u_ => v_ = some (.int (gnA s (nI q))) ∧ ∃ t1 : SS, u_ = (TR D O X E F Y Z V) ++ (EW D E s) ++ (EW D F t1))) 0 0 ((TR D O X E F Y Z V) ++ (EW D E s) ++ (EW D F (itk false s i))) 25 [(0, .ref O), (1, .int (nI q)), (2, .int (nI (i + 1)))] [] := by
      intro fuel
      induction fuel with
      | zero => intro i hi hm; exact absurd hm (Nat.not_lt_zero _)
      | succ fuel ih =>
        intro i hi hm
        refine j_iload_n dX4_granted_25 2 rfl ?_
        refine j_iload_n dX4_granted_26 1 rfl ?_
        refine j_icmp_ge_N (tgt := 45) dX4_granted_27 (by decide) ⟨by omega, by omega⟩ (fun h27 => ?_) (fun h27 => ?_)
        · skip
          refine j_aload_n dX4_granted_45 0 rfl ?_
          refine g_X4_23 rfl dX4_granted_46 0 rfl rfl ?_
          refine j_iconst (v := nI 0) dX4_granted_49 (by decide) ?_
          refine j_V (w2 := (TR D O X E F Y Z V) ++ (EW D E s) ++ (EW D F (tkF false (itk false s i)))) (st2 := [.int (oN (tkW (itk false s i)))]) (c_X0_tick F (itk false s i) false (Inv_it hI i)) rfl cw_X4_81 dX4_granted_50 [] rfl [6, 7, 8, 9, 10] rfl rfl rfl 0 ?_ ⟨rfl, ⟨Nat.le_of_ble_eq_true rfl, Nat.le_of_ble_eq_true rfl⟩, ⟨rfl, rfl⟩, ⟨Nat.le_of_ble_eq_true rfl, Nat.le_of_ble_eq_true rfl⟩, Nat.le_of_ble_eq_true rfl, rfl, rfl⟩ rfl rfl rfl
          exact j_iret dX4_granted_53 ⟨rfl, rfl⟩ ⟨by rw [hA, show q - 1 = i by omega, eq_tkW (eq_it (b := true) (d := false) (s := s) eqv.rf i)], _, rfl⟩
        · skip
          refine j_aload_n dX4_granted_30 0 rfl ?_
          refine g_X4_23 rfl dX4_granted_31 0 rfl rfl ?_
          refine j_iconst (v := nI 0) dX4_granted_34 (by decide) ?_
          refine j_V (w2 := (TR D O X E F Y Z V) ++ (EW D E s) ++ (EW D F (tkF false (itk false s i)))) (st2 := [.int (oN (tkW (itk false s i)))]) (c_X0_tick F (itk false s i) false (Inv_it hI i)) rfl cw_X4_81 dX4_granted_35 [] rfl [6, 7, 8, 9, 10] rfl rfl rfl 0 ?_ ⟨rfl, ⟨Nat.le_of_ble_eq_true rfl, Nat.le_of_ble_eq_true rfl⟩, ⟨rfl, rfl⟩, ⟨Nat.le_of_ble_eq_true rfl, Nat.le_of_ble_eq_true rfl⟩, Nat.le_of_ble_eq_true rfl, rfl, rfl⟩ rfl rfl rfl
          refine j_pop dX4_granted_38 rfl ?_
          refine j_iinc (v := nI (i + 1 + 1)) (lv2 := [(0, .ref O), (1, .int (nI q)), (2, .int (nI (i + 1 + 1)))]) dX4_granted_39 2 rfl (nI_1 _) (by decide) [1, 2, 0] rfl ?_
          refine j_goto (tgt := 25) dX4_granted_42 (by decide) ?_
          exact ih (i + 1) (by omega) (by omega)
    exact L25 (q + 1) 0 (by omega) (by omega)
  · skip
    refine j_iconst (v := (-1)) dX4_granted_10 (by decide) ?_
    exact j_iret dX4_granted_11 ⟨rfl, rfl⟩ ⟨by rw [show gnA s v = -1 from if_neg (nBool h7)], t, rfl⟩

set_option maxHeartbeats 4000000 in
set_option maxRecDepth 100000 in
theorem c_X4_ranks (O : Nat) (X E F Y Z V : Nat → Nat) (s t : SS) (hI : Inv s) (tk wh : SS) (m : Nat) (hs : SeOk tk wh m) (v : Int32) : Ct D yX4_ranks cX4_ranks 4 (some .int) ({ frames := 6, cells := 0, slots := 0, locals := 143 } : Room) [.ref O, .int v] ((TR D O X E F Y Z V) ++ (EW D E s) ++ (EW D F t) ++ (ZW D Z tk wh m)) (fun v_ u_ => v_ = some (.int (rkA s tk wh m v)) ∧ ∃ t1 : SS, u_ = (TR D O X E F Y Z V) ++ (EW D E s) ++ (EW D F t1) ++ (ZW D Z tk wh m)) := by
  refine ct_of (by decide) (Nat.le_of_ble_eq_true rfl) (lv0 := [(0, .ref O), (1, .int v)]) rfl (fun Γ => ?_)
  refine j_iload_n dX4_ranks_0 1 rfl ?_
  refine j_S (w2 := (TR D O X E F Y Z V) ++ (EW D E s) ++ (EW D F t) ++ (ZW D Z tk wh m)) (st2 := [.int (bI (inR v (nI 0) (nI 3)))]) (c_X4_isChannel v) rfl cw_X4_85 dX4_ranks_1 [] rfl [] rfl rfl rfl ?_ ⟨rfl, ⟨Nat.le_of_ble_eq_true rfl, Nat.le_of_ble_eq_true rfl⟩, ⟨rfl, rfl⟩, ⟨Nat.le_of_ble_eq_true rfl, Nat.le_of_ble_eq_true rfl⟩, Nat.le_of_ble_eq_true rfl, rfl, rfl⟩
  refine j_if_ne_B (tgt := 9) dX4_ranks_4 (by decide) (fun h4 => ?_) (fun h4 => ?_)
  · skip
    have hA : rkA s tk wh m v = rkB s tk wh m (cl v) 4 := if_pos h4
    obtain ⟨c, hc1, hc2, rfl⟩ := inR_nat (by decide) (by decide) h4
    rw [cl_nI (by omega)] at hA
    have hc2 : c < 4 := by omega
    refine j_iconst (v := nI 0) dX4_ranks_9 (by decide) ?_
    refine j_topi (v := rkB s tk wh m c 0) rfl ?_
    refine j_istore_n (lv2 := [(0, .ref O), (1, .int (nI c)), (2, .int (rkB s tk wh m c 0))]) dX4_ranks_10 (by decide) [1, 2, 0] rfl ?_
    refine j_iconst (v := nI 0) dX4_ranks_11 (by decide) ?_
    refine j_istore_n (lv2 := [(0, .ref O), (1, .int (nI c)), (2, .int (rkB s tk wh m c 0)), (3, .int (nI 0))]) dX4_ranks_12 (by decide) [1, 2, 3, 0] rfl ?_
    have L13 : ∀ (fuel : Nat) (r : Nat) (t : SS), r ≤ 4 → 4 - r < fuel → J D Γ yX4_ranks cX4_ranks 4 (some .int) ({ frames := 6, cells := 0, slots := 0, locals := 143 } : Room) (Qf D Γ ({ frames := 6, cells := 0, slots := 0, locals := 143 } : Room) (fun v_ u_ => v_ = some (.int (rkA s tk wh m (nI c))) ∧ ∃ t1 : SS, u_ = (TR D O X E F Y Z V) ++ (EW D E s) ++ (EW D F t1) ++ (ZW D Z tk wh m))) 0 0 ((TR D O X E F Y Z V) ++ (EW D E s) ++ (EW D F t) ++ (ZW D Z tk wh m)) 13 [(0, .ref O), (1, .int (nI c)), (2, .int (rkB s tk wh m c r)), (3, .int (nI r))] [] := by
      intro fuel
      induction fuel with
      | zero => intro r t hr hm; exact absurd hm (Nat.not_lt_zero _)
      | succ fuel ih =>
        intro r t hr hm
        refine j_iload_n dX4_ranks_13 3 rfl ?_
        refine j_iconst (v := nI 3) dX4_ranks_14 (by decide) ?_
        refine j_icmp_gt_N (tgt := 65) dX4_ranks_15 (by decide) ⟨by omega, by omega⟩ (fun h15 => ?_) (fun h15 => ?_)
        · skip
          refine j_iload_n dX4_ranks_65 2 rfl ?_
          exact j_iret dX4_ranks_66 ⟨rfl, rfl⟩ ⟨by rw [hA, show r = 4 by omega], _, rfl⟩
        · skip
          refine j_aload_n dX4_ranks_18 0 rfl ?_
          refine g_X4_23 rfl dX4_ranks_19 0 rfl rfl ?_
          refine j_aload_n dX4_ranks_22 0 rfl ?_
          refine g_X4_19 rfl dX4_ranks_23 0 rfl rfl ?_
          refine j_V (w2 := (TR D O X E F Y Z V) ++ (EW D E s) ++ (EW D F s) ++ (ZW D Z tk wh m)) (st2 := []) (c_X0_copyFrom F E t s) rfl cw_X4_67 dX4_ranks_26 [] rfl [6, 7, 8, 9, 10, 1, 2, 3, 4, 5] rfl rfl rfl 0 ?_ ⟨rfl, ⟨Nat.le_of_ble_eq_true rfl, Nat.le_of_ble_eq_true rfl⟩, ⟨rfl, rfl⟩, ⟨Nat.le_of_ble_eq_true rfl, Nat.le_of_ble_eq_true rfl⟩, Nat.le_of_ble_eq_true rfl, rfl, rfl⟩ rfl rfl rfl
          refine j_aload_n dX4_ranks_29 0 rfl ?_
          refine g_X4_23 rfl dX4_ranks_30 0 rfl rfl ?_
          refine j_iload_n dX4_ranks_33 1 rfl ?_
          refine j_iconst (v := nI 1) dX4_ranks_34 (by decide) ?_
          refine j_iload_n dX4_ranks_35 3 rfl ?_
          refine j_V (w2 := (TR D O X E F Y Z V) ++ (EW D E s) ++ (EW D F (upd s (64 + 7 * c + 1) (nI r))) ++ (ZW D Z tk wh m)) (st2 := []) (c_X0_setChannel F s c 1 (nI r) (by omega) (by omega)) rfl cw_X4_99 dX4_ranks_36 [] rfl [6, 7, 8, 9, 10] rfl rfl rfl 0 ?_ ⟨rfl, ⟨Nat.le_of_ble_eq_true rfl, Nat.le_of_ble_eq_true rfl⟩, ⟨rfl, rfl⟩, ⟨Nat.le_of_ble_eq_true rfl, Nat.le_of_ble_eq_true rfl⟩, Nat.le_of_ble_eq_true rfl, rfl, rfl⟩ rfl rfl rfl
          refine j_aload_n dX4_ranks_39 0 rfl ?_
          refine g_X4_36 rfl dX4_ranks_40 0 rfl rfl ?_
          refine j_aload_n dX4_ranks_43 0 rfl ?_
          refine g_X4_23 rfl dX4_ranks_44 0 rfl rfl ?_
          refine j_callV (c_X2_comeTrue Z tk wh m F (upd s (64 + 7 * c + 1) (nI r)) hs (Inv_rk hI hc2 (by omega))) rfl cw_X4_171 rfl ⟨Nat.le_of_ble_eq_true rfl, Nat.le_of_ble_eq_true rfl⟩ ⟨rfl, rfl⟩ ⟨Nat.le_of_ble_eq_true rfl, Nat.le_of_ble_eq_true rfl⟩ dX4_ranks_47 (rest := []) rfl (Nat.le_of_ble_eq_true rfl) [11, 12, 13, 6, 7, 8, 9, 10] rfl rfl 2 0 rfl rfl rfl (fun v_ w_ hf_ => ?_)
          obtain ⟨rfl, t1, rfl⟩ := hf_
          refine ⟨rfl, ?_⟩
          refine j_ws (w2 := (TR D O X E F Y Z V) ++ (EW D E s) ++ (EW D F t1) ++ (ZW D Z tk wh m)) (st2 := [.int (bI (caT (upd s (64 + 7 * c + 1) (nI r)) tk wh m (mxT tk m)))]) rfl rfl ?_
          refine j_if_eq_B (tgt := 59) dX4_ranks_50 (by decide) (fun h50 => ?_) (fun h50 => ?_)
          · skip
            refine j_iinc (v := nI (r + 1)) (lv2 := [(0, .ref O), (1, .int (nI c)), (2, .int (rkB s tk wh m c r)), (3, .int (nI (r + 1)))]) dX4_ranks_59 3 rfl (nI_1 _) (by decide) [1, 2, 3, 0] rfl ?_
            refine j_goto (tgt := 13) dX4_ranks_62 (by decide) ?_
            have hh := ih (r + 1) t1 (by omega) (by omega)
            rw [show rkB s tk wh m c (r + 1) = rkB s tk wh m c r from if_neg (by rw [caT_40 hs, h50]; decide)] at hh
            exact hh
          · skip
            refine j_iload_n dX4_ranks_53 2 rfl ?_
            refine j_iconst (v := nI 1) dX4_ranks_54 (by decide) ?_
            refine j_iload_n dX4_ranks_55 3 rfl ?_
            refine j_ishl (v := (nI 1) <<< ((nI r) &&& 31)) dX4_ranks_56 (rfl) ?_
            refine j_ior (v := (rkB s tk wh m c r) ||| ((nI 1) <<< ((nI r) &&& 31))) dX4_ranks_57 (rfl) ?_
            refine j_istore_n (lv2 := [(0, .ref O), (1, .int (nI c)), (2, .int ((rkB s tk wh m c r) ||| ((nI 1) <<< ((nI r) &&& 31)))), (3, .int (nI r))]) dX4_ranks_58 (by decide) [1, 2, 0, 3] rfl ?_
            refine j_iinc (v := nI (r + 1)) (lv2 := [(0, .ref O), (1, .int (nI c)), (2, .int ((rkB s tk wh m c r) ||| ((nI 1) <<< ((nI r) &&& 31)))), (3, .int (nI (r + 1)))]) dX4_ranks_59 3 rfl (nI_1 _) (by decide) [1, 2, 3, 0] rfl ?_
            refine j_goto (tgt := 13) dX4_ranks_62 (by decide) ?_
            have hh := ih (r + 1) t1 (by omega) (by omega)
            rw [show rkB s tk wh m c (r + 1) = rkB s tk wh m c r ||| ((1 : Int32) <<< (nI r &&& 31)) from if_pos (by rw [caT_40 hs, h50])] at hh
            exact hh
    exact L13 5 0 _ (by omega) (by omega)
  · skip
    refine j_iconst (v := (-1)) dX4_ranks_7 (by decide) ?_
    exact j_iret dX4_ranks_8 ⟨rfl, rfl⟩ ⟨by rw [show rkA s tk wh m v = -1 from if_neg (nBool h4)], t, rfl⟩

end TR2
