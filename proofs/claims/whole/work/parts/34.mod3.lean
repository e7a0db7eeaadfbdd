section MD3
variable {D : DX}
set_option maxHeartbeats 4000000 in
set_option maxRecDepth 100000 in
theorem c_X5_ticks_bad (M : Nat → Nat) (q : QT) (v : Int32) (hb : inR v (nI 1) (nI 40) = false) : Ct D yX5_ticks cX5_ticks 4 (some .int) ({ frames := 1, cells := 0, slots := 0, locals := 22 } : Room) [.ref (M 0), .int v] (MO D M q) (fun v_ u_ => v_ = some (.int (-1)) ∧ u_ = MO D M q) := by
  refine ct_of (by decide) (Nat.le_of_ble_eq_true rfl) (lv0 := [(0, .ref (M 0)), (1, .int v)]) rfl (fun Γ => ?_)
  refine j_iload_n dX5_ticks_0 1 rfl ?_
  refine j_iconst (v := nI 1) dX5_ticks_1 (by decide) ?_
  refine j_bipush (v := nI 40) dX5_ticks_2 (by decide) ?_
  refine j_S (w2 := MO D M q) (st2 := [.int (bI (inR v (nI 1) (nI 40)))]) (c_X5_in v (nI 1) (nI 40)) rfl cw_X5_38 dX5_ticks_4 [] rfl [] rfl rfl rfl ?_ ⟨rfl, ⟨Nat.le_of_ble_eq_true rfl, Nat.le_of_ble_eq_true rfl⟩, ⟨rfl, rfl⟩, ⟨Nat.le_of_ble_eq_true rfl, Nat.le_of_ble_eq_true rfl⟩, Nat.le_of_ble_eq_true rfl, rfl, rfl⟩
  refine j_if_ne_B (tgt := 12) dX5_ticks_7 (by decide) (fun h7 => absurd (hb.symm.trans h7) (by decide)) (fun h7 => ?_)
  refine j_iconst (v := (-1)) dX5_ticks_10 (by decide) ?_
  exact j_iret dX5_ticks_11 ⟨rfl, rfl⟩ ⟨rfl, rfl⟩

set_option maxHeartbeats 4000000 in
set_option maxRecDepth 100000 in
theorem c_X5_ticks_ok (M : Nat → Nat) (u : Nat) (r : RT) (s pa sp : SS) (hu : u ≤ 6) (hI : Inv s) (n : Nat) (hn : 1 ≤ n ∧ n ≤ 40) : Ct D yX5_ticks cX5_ticks 4 (some .int) ({ frames := 4, cells := 0, slots := 0, locals := 96 } : Room) [.ref (M 0), .int (nI n)] ((MO D M (u, r)) ++ (AR D (M 1) 455 s) ++ (AR D (M 2) 2730 pa) ++ (AR D (M 5) 455 sp)) (fun v_ u_ => v_ = some (.int (nI (gcn s n))) ∧ u_ = (MO D M (min (u + 1) 6, r)) ++ (AR D (M 1) 455 (itk true s n)) ++ (AR D (M 2) 2730 (rmF pa u s)) ++ (AR D (M 5) 455 s)) := by
  refine ct_of (by decide) (Nat.le_of_ble_eq_true rfl) (lv0 := [(0, .ref (M 0)), (1, .int (nI n))]) rfl (fun Γ => ?_)
  refine j_iload_n dX5_ticks_0 1 rfl ?_
  refine j_iconst (v := nI 1) dX5_ticks_1 (by decide) ?_
  refine j_bipush (v := nI 40) dX5_ticks_2 (by decide) ?_
  refine j_S (w2 := (MO D M (u, r)) ++ (AR D (M 1) 455 s) ++ (AR D (M 2) 2730 pa) ++ (AR D (M 5) 455 sp)) (st2 := [.int (bI (inR (nI n) (nI 1) (nI 40)))]) (c_X5_in (nI n) (nI 1) (nI 40)) rfl cw_X5_38 dX5_ticks_4 [] rfl [] rfl rfl rfl ?_ ⟨rfl, ⟨Nat.le_of_ble_eq_true rfl, Nat.le_of_ble_eq_true rfl⟩, ⟨rfl, rfl⟩, ⟨Nat.le_of_ble_eq_true rfl, Nat.le_of_ble_eq_true rfl⟩, Nat.le_of_ble_eq_true rfl, rfl, rfl⟩
  refine j_if_ne_B (tgt := 12) dX5_ticks_7 (by decide) (fun h7 => ?_) (fun h7 => absurd (inR_in (by omega) (by omega) (by omega)) (nBool h7))
  refine j_aload_n dX5_ticks_12 0 rfl ?_
  refine j_V (w2 := (MO D M (u, r)) ++ (AR D (M 1) 455 s) ++ (AR D (M 2) 2730 pa) ++ (AR D (M 5) 455 s)) (st2 := []) (c_X5_keepsSpare M (u, r) s sp) rfl cw_X5_105 dX5_ticks_13 [] rfl [0, 1, 3] rfl rfl rfl 5 ?_ ⟨rfl, ⟨Nat.le_of_ble_eq_true rfl, Nat.le_of_ble_eq_true rfl⟩, ⟨rfl, rfl⟩, ⟨Nat.le_of_ble_eq_true rfl, Nat.le_of_ble_eq_true rfl⟩, Nat.le_of_ble_eq_true rfl, rfl, rfl⟩ rfl rfl rfl
  refine j_aload_n dX5_ticks_16 0 rfl ?_
  refine j_V (w2 := (MO D M (min (u + 1) 6, r)) ++ (AR D (M 1) 455 s) ++ (AR D (M 2) 2730 (rmF pa u s)) ++ (AR D (M 5) 455 s)) (st2 := []) (c_X5_rem M u r pa s (by omega)) rfl cw_X5_111 dX5_ticks_17 [] rfl [0, 2, 3] rfl rfl rfl 5 ?_ ⟨rfl, ⟨Nat.le_of_ble_eq_true rfl, Nat.le_of_ble_eq_true rfl⟩, ⟨rfl, rfl⟩, ⟨Nat.le_of_ble_eq_true rfl, Nat.le_of_ble_eq_true rfl⟩, Nat.le_of_ble_eq_true rfl, rfl, rfl⟩ rfl rfl rfl
  refine j_iconst (v := nI 0) dX5_ticks_20 (by decide) ?_
  refine j_istore_n (lv2 := [(0, .ref (M 0)), (1, .int (nI n)), (2, .int (nI 0))]) dX5_ticks_21 (by decide) [1, 2, 0] rfl ?_
  refine j_iconst (v := nI 0) dX5_ticks_22 (by decide) ?_
  refine j_istore_n (lv2 := [(0, .ref (M 0)), (1, .int (nI n)), (2, .int (nI 0)), (3, .int (nI 0))]) dX5_ticks_23 (by decide) [1, 2, 3, 0] rfl ?_
  have L24 : ∀ (fuel : Nat) (i : Nat), i ≤ n → n - i < fuel → J D Γ yX5_ticks cX5_ticks 4 (some .int) ({ frames := 4, cells := 0, slots := 0, locals := 96 } : Room) (Qf D Γ ({ frames := 4, cells := 0, slots := 0, locals := 96 } : Room) (fun v_ u_ => v_ = some (.int (nI (gcn s n))) ∧ u_ = (MO D M (min (u + 1) 6, r)) ++ (AR D (M 1) 455 (itk true s n)) ++ (AR D (M 2) 2730 (rmF pa u s)) ++ (AR D (M 5) 455 s))) 0 0 ((MO D M (min (u + 1) 6, r)) ++ (AR D (M 1) 455 (itk true s i)) ++ (AR D (M 2) 2730 (rmF pa u s)) ++ (AR D (M 5) 455 s)) 24 [(0, .ref (M 0)), (1, .int (nI n)), (2, .int (nI (gcn s i))), (3, .int (nI i))] [] := by
    intro fuel
    induction fuel with
    | zero => intro i hi hm; exact absurd hm (Nat.not_lt_zero _)
    | succ fuel ih =>
      intro i hi hm
      refine j_iload_n dX5_ticks_24 3 rfl ?_
      refine j_iload_n dX5_ticks_25 1 rfl ?_
      refine j_icmp_ge_N (tgt := 52) dX5_ticks_26 (by decide) ⟨by omega, by omega⟩ (fun h26 => ?_) (fun h26 => ?_)
      · skip
        refine j_iload_n dX5_ticks_52 2 rfl ?_
        exact j_iret dX5_ticks_53 ⟨rfl, rfl⟩ ⟨by rw [show i = n by omega], by rw [show i = n by omega]⟩
      · skip
        refine j_iload_n dX5_ticks_29 2 rfl ?_
        refine j_aload_n dX5_ticks_30 0 rfl ?_
        refine j_V (w2 := (MO D M (min (u + 1) 6, r)) ++ (AR D (M 1) 455 (tkF true (itk true s i))) ++ (AR D (M 2) 2730 (rmF pa u s)) ++ (AR D (M 5) 455 s)) (st2 := [.int (oN (tkW (itk true s i))), .int (nI (gcn s i))]) (c_X5_ticksOnce M (min (u + 1) 6, r) (itk true s i) (Inv_it hI i)) rfl cw_X5_137 dX5_ticks_31 [.int (nI (gcn s i))] rfl [0, 1] rfl rfl rfl 5 ?_ ⟨rfl, ⟨Nat.le_of_ble_eq_true rfl, Nat.le_of_ble_eq_true rfl⟩, ⟨rfl, rfl⟩, ⟨Nat.le_of_ble_eq_true rfl, Nat.le_of_ble_eq_true rfl⟩, Nat.le_of_ble_eq_true rfl, rfl, rfl⟩ rfl rfl rfl
        rcases hw : tkW (itk true s i) with _ | c
        · skip
          refine j_bipush (v := (-9)) dX5_ticks_34 (by decide) ?_
          refine j_icmp_ne (tgt := 43) dX5_ticks_36 (by decide) (fun h36 => absurd rfl h36) (fun h36 => ?_)
          refine j_iconst (v := nI 0) dX5_ticks_39 (by decide) ?_
          refine j_goto (tgt := 44) dX5_ticks_40 (by decide) ?_
          refine j_iadd (v := nI (gcn s i)) dX5_ticks_44 ((nI_add _ _).trans rfl) ?_
          refine j_istore_n (lv2 := [(0, .ref (M 0)), (1, .int (nI n)), (2, .int (nI (gcn s i))), (3, .int (nI i))]) dX5_ticks_45 (by decide) [1, 2, 0, 3] rfl ?_
          refine j_iinc (v := nI (i + 1)) (lv2 := [(0, .ref (M 0)), (1, .int (nI n)), (2, .int (nI (gcn s i))), (3, .int (nI (i + 1)))]) dX5_ticks_46 3 rfl (nI_1 _) (by decide) [1, 2, 3, 0] rfl ?_
          refine j_goto (tgt := 24) dX5_ticks_49 (by decide) ?_
          have hh := ih (i + 1) (by omega) (by omega)
          rw [gcn_n hw] at hh
          exact hh
        · skip
          have hc4 := who_lt hw
          refine j_bipush (v := (-9)) dX5_ticks_34 (by decide) ?_
          refine j_icmp_ne (tgt := 43) dX5_ticks_36 (by decide) (fun h36 => ?_) (fun h36 => absurd h36 (nI_m9 (by omega)))
          refine j_iconst (v := nI 1) dX5_ticks_43 (by decide) ?_
          refine j_iadd (v := nI (gcn s i + 1)) dX5_ticks_44 (nI_add _ _) ?_
          refine j_istore_n (lv2 := [(0, .ref (M 0)), (1, .int (nI n)), (2, .int (nI (gcn s i + 1))), (3, .int (nI i))]) dX5_ticks_45 (by decide) [1, 2, 0, 3] rfl ?_
          refine j_iinc (v := nI (i + 1)) (lv2 := [(0, .ref (M 0)), (1, .int (nI n)), (2, .int (nI (gcn s i + 1))), (3, .int (nI (i + 1)))]) dX5_ticks_46 3 rfl (nI_1 _) (by decide) [1, 2, 3, 0] rfl ?_
          refine j_goto (tgt := 24) dX5_ticks_49 (by decide) ?_
          have hh := ih (i + 1) (by omega) (by omega)
          rw [gcn_s (by rw [hw]; exact Option.some_ne_none c)] at hh
          exact hh
  exact L24 (n + 1) 0 (by omega) (by omega)

set_option maxHeartbeats 4000000 in
set_option maxRecDepth 100000 in
theorem c_X5_writesAll (M : Nat → Nat) (q : QT) (s : SS) (hI : Inv s) (c : Nat) (hc : c < 4) : Ct D yX5_writesAll cX5_writesAll 3 none ({ frames := 2, cells := 0, slots := 0, locals := 44 } : Room) [.ref (M 0), .int (nI c)] ((MO D M q) ++ (AR D (M 1) 455 s)) (fun v_ u_ => v_ = none ∧ u_ = (MO D M q) ++ (AR D (M 1) 455 (waF s c))) := by
  refine ct_of (by decide) (Nat.le_of_ble_eq_true rfl) (lv0 := [(0, .ref (M 0)), (1, .int (nI c))]) rfl (fun Γ => ?_)
  by_cases hq : s 428 = 0
  · skip
    refine j_iconst (v := nI 0) dX5_writesAll_0 (by decide) ?_
    refine j_istore_n (lv2 := [(0, .ref (M 0)), (1, .int (nI c)), (2, .int (nI 0))]) dX5_writesAll_1 (by decide) [1, 2, 0] rfl ?_
    refine j_iload_n dX5_writesAll_2 2 rfl ?_
    refine j_aload_n dX5_writesAll_3 0 rfl ?_
    refine g_X5_7 rfl dX5_writesAll_4 0 rfl rfl ?_
    refine j_sipush (v := nI 428) dX5_writesAll_7 (by decide) ?_
    refine j_iald (v := nI 0) dX5_writesAll_10 1 428 rfl (rfl) (by omega) (Nat.le_of_ble_eq_true rfl) (hq) ?_
    refine j_icmp_ge_N (tgt := 45) dX5_writesAll_11 (by decide) ⟨by omega, by omega⟩ (fun h11 => ?_) (fun h11 => absurd (Nat.le_refl 0) h11)
    exact j_vret dX5_writesAll_45 ⟨rfl, rfl⟩ ⟨rfl, by rw [waF_0 hq]⟩
  · skip
    have hqu := hI.qu_ hq
    have hq3 := hqu.2.2
    refine j_iconst (v := nI 0) dX5_writesAll_0 (by decide) ?_
    refine j_istore_n (lv2 := [(0, .ref (M 0)), (1, .int (nI c)), (2, .int (nI 0))]) dX5_writesAll_1 (by decide) [1, 2, 0] rfl ?_
    refine j_iload_n dX5_writesAll_2 2 rfl ?_
    refine j_aload_n dX5_writesAll_3 0 rfl ?_
    refine g_X5_7 rfl dX5_writesAll_4 0 rfl rfl ?_
    refine j_sipush (v := nI 428) dX5_writesAll_7 (by decide) ?_
    refine j_iald (v := nI 1) dX5_writesAll_10 1 428 rfl (rfl) (by omega) (Nat.le_of_ble_eq_true rfl) (hqu.1) ?_
    refine j_icmp_ge_N (tgt := 45) dX5_writesAll_11 (by decide) ⟨by omega, by omega⟩ (fun h11 => absurd h11 (by omega)) (fun h11 => ?_)
    refine j_aload_n dX5_writesAll_14 0 rfl ?_
    refine g_X5_7 rfl dX5_writesAll_15 0 rfl rfl ?_
    refine j_sipush (v := nI 429) dX5_writesAll_18 (by decide) ?_
    refine j_iload_n dX5_writesAll_21 2 rfl ?_
    refine j_iadd (v := nI (429 + 0)) dX5_writesAll_22 (nI_add _ _) ?_
    refine j_iald (v := nI (qu s)) dX5_writesAll_23 1 (429 + 0) rfl (rfl) (by omega) (Nat.le_of_ble_eq_true rfl) (hqu.2.1) ?_
    refine j_bipush (v := nI 6) dX5_writesAll_24 (by decide) ?_
    refine j_idiv (v := nI ((qu s) / 6)) dX5_writesAll_26 (by decide) (pk_div (by omega) (by omega) (by omega)) ?_
    refine j_iload_n dX5_writesAll_27 1 rfl ?_
    refine j_icmp_ne_N (tgt := 39) dX5_writesAll_28 (by decide) ⟨by omega, by omega⟩ (fun h28 => ?_) (fun h28 => ?_)
    · skip
      refine j_iinc (v := nI (0 + 1)) (lv2 := [(0, .ref (M 0)), (1, .int (nI c)), (2, .int (nI (0 + 1)))]) dX5_writesAll_39 2 rfl (nI_1 _) (by decide) [1, 2, 0] rfl ?_
      refine j_goto (tgt := 2) dX5_writesAll_42 (by decide) ?_
      refine j_iload_n dX5_writesAll_2 2 rfl ?_
      refine j_aload_n dX5_writesAll_3 0 rfl ?_
      refine g_X5_7 rfl dX5_writesAll_4 0 rfl rfl ?_
      refine j_sipush (v := nI 428) dX5_writesAll_7 (by decide) ?_
      refine j_iald (v := nI 1) dX5_writesAll_10 1 428 rfl (rfl) (by omega) (Nat.le_of_ble_eq_true rfl) (hqu.1) ?_
      refine j_icmp_ge_N (tgt := 45) dX5_writesAll_11 (by decide) ⟨by omega, by omega⟩ (fun h11 => ?_) (fun h11 => absurd (by omega) h11)
      exact j_vret dX5_writesAll_45 ⟨rfl, rfl⟩ ⟨rfl, by rw [waF_n hq h28]⟩
    · skip
      refine j_aload_n dX5_writesAll_31 0 rfl ?_
      refine j_iload_n dX5_writesAll_32 2 rfl ?_
      refine j_V (w2 := (MO D M q) ++ (AR D (M 1) 455 (wbF s (qu s)))) (st2 := []) (c_X5_writes M q s (qu s) hqu.2.2 hqu.1 hqu.2.1) rfl cw_X5_127 dX5_writesAll_33 [] rfl [0, 1] rfl rfl rfl 5 ?_ ⟨rfl, ⟨Nat.le_of_ble_eq_true rfl, Nat.le_of_ble_eq_true rfl⟩, ⟨rfl, rfl⟩, ⟨Nat.le_of_ble_eq_true rfl, Nat.le_of_ble_eq_true rfl⟩, Nat.le_of_ble_eq_true rfl, rfl, rfl⟩ rfl rfl rfl
      refine j_goto (tgt := 2) dX5_writesAll_36 (by decide) ?_
      refine j_iload_n dX5_writesAll_2 2 rfl ?_
      refine j_aload_n dX5_writesAll_3 0 rfl ?_
      refine g_X5_7 rfl dX5_writesAll_4 0 rfl rfl ?_
      refine j_sipush (v := nI 428) dX5_writesAll_7 (by decide) ?_
      refine j_iald (v := nI 0) dX5_writesAll_10 1 428 rfl (rfl) (by omega) (Nat.le_of_ble_eq_true rfl) (up_eq) ?_
      refine j_icmp_ge_N (tgt := 45) dX5_writesAll_11 (by decide) ⟨by omega, by omega⟩ (fun h11 => ?_) (fun h11 => absurd (by omega) h11)
      exact j_vret dX5_writesAll_45 ⟨rfl, rfl⟩ ⟨rfl, by rw [waF_y hq h28]⟩

set_option maxHeartbeats 4000000 in
set_option maxRecDepth 100000 in
theorem c_X5_switches_bad (M : Nat → Nat) (q : QT) (v : Int32) (hb : inR v (nI 0) (nI 3) = false) : Ct D yX5_switches cX5_switches 3 (some .int) ({ frames := 2, cells := 0, slots := 0, locals := 42 } : Room) [.ref (M 0), .int v] (MO D M q) (fun v_ u_ => v_ = some (.int (-1)) ∧ u_ = MO D M q) := by
  refine ct_of (by decide) (Nat.le_of_ble_eq_true rfl) (lv0 := [(0, .ref (M 0)), (1, .int v)]) rfl (fun Γ => ?_)
  refine j_iload_n dX5_switches_0 1 rfl ?_
  refine j_S (w2 := MO D M q) (st2 := [.int (bI (inR v (nI 0) (nI 3)))]) (c_X5_isChannel v) rfl cw_X5_141 dX5_switches_1 [] rfl [] rfl rfl rfl ?_ ⟨rfl, ⟨Nat.le_of_ble_eq_true rfl, Nat.le_of_ble_eq_true rfl⟩, ⟨rfl, rfl⟩, ⟨Nat.le_of_ble_eq_true rfl, Nat.le_of_ble_eq_true rfl⟩, Nat.le_of_ble_eq_true rfl, rfl, rfl⟩
  refine j_if_ne_B (tgt := 9) dX5_switches_4 (by decide) (fun h4 => absurd (hb.symm.trans h4) (by decide)) (fun h4 => ?_)
  refine j_iconst (v := (-1)) dX5_switches_7 (by decide) ?_
  exact j_iret dX5_switches_8 ⟨rfl, rfl⟩ ⟨rfl, rfl⟩

set_option maxHeartbeats 4000000 in
set_option maxRecDepth 100000 in
theorem c_X5_switches_ok (M : Nat → Nat) (u : Nat) (r : RT) (s pa sp : SS) (hu : u ≤ 6) (hI : Inv s) (c : Nat) (hc : c < 4) : Ct D yX5_switches cX5_switches 3 (some .int) ({ frames := 2, cells := 0, slots := 0, locals := 42 } : Room) [.ref (M 0), .int (nI c)] ((MO D M (u, r)) ++ (AR D (M 1) 455 s) ++ (AR D (M 2) 2730 pa) ++ (AR D (M 5) 455 sp)) (fun v_ u_ => v_ = some (.int (nI 1 - gC s c 0)) ∧ u_ = (MO D M (min (u + 1) 6, r)) ++ (AR D (M 1) 455 (upd s (64 + 7 * c + 0) (nI 1 - gC s c 0))) ++ (AR D (M 2) 2730 (rmF pa u s)) ++ (AR D (M 5) 455 s)) := by
  refine ct_of (by decide) (Nat.le_of_ble_eq_true rfl) (lv0 := [(0, .ref (M 0)), (1, .int (nI c))]) rfl (fun Γ => ?_)
  refine j_iload_n dX5_switches_0 1 rfl ?_
  refine j_S (w2 := (MO D M (u, r)) ++ (AR D (M 1) 455 s) ++ (AR D (M 2) 2730 pa) ++ (AR D (M 5) 455 sp)) (st2 := [.int (bI (inR (nI c) (nI 0) (nI 3)))]) (c_X5_isChannel (nI c)) rfl cw_X5_141 dX5_switches_1 [] rfl [] rfl rfl rfl ?_ ⟨rfl, ⟨Nat.le_of_ble_eq_true rfl, Nat.le_of_ble_eq_true rfl⟩, ⟨rfl, rfl⟩, ⟨Nat.le_of_ble_eq_true rfl, Nat.le_of_ble_eq_true rfl⟩, Nat.le_of_ble_eq_true rfl, rfl, rfl⟩
  refine j_if_ne_B (tgt := 9) dX5_switches_4 (by decide) (fun h4 => ?_) (fun h4 => absurd (inR_in (by omega) (by omega) (by omega)) (nBool h4))
  refine j_aload_n dX5_switches_9 0 rfl ?_
  refine j_V (w2 := (MO D M (u, r)) ++ (AR D (M 1) 455 s) ++ (AR D (M 2) 2730 pa) ++ (AR D (M 5) 455 s)) (st2 := []) (c_X5_keepsSpare M (u, r) s sp) rfl cw_X5_105 dX5_switches_10 [] rfl [0, 1, 3] rfl rfl rfl 5 ?_ ⟨rfl, ⟨Nat.le_of_ble_eq_true rfl, Nat.le_of_ble_eq_true rfl⟩, ⟨rfl, rfl⟩, ⟨Nat.le_of_ble_eq_true rfl, Nat.le_of_ble_eq_true rfl⟩, Nat.le_of_ble_eq_true rfl, rfl, rfl⟩ rfl rfl rfl
  refine j_aload_n dX5_switches_13 0 rfl ?_
  refine j_V (w2 := (MO D M (min (u + 1) 6, r)) ++ (AR D (M 1) 455 s) ++ (AR D (M 2) 2730 (rmF pa u s)) ++ (AR D (M 5) 455 s)) (st2 := []) (c_X5_rem M u r pa s (by omega)) rfl cw_X5_111 dX5_switches_14 [] rfl [0, 2, 3] rfl rfl rfl 5 ?_ ⟨rfl, ⟨Nat.le_of_ble_eq_true rfl, Nat.le_of_ble_eq_true rfl⟩, ⟨rfl, rfl⟩, ⟨Nat.le_of_ble_eq_true rfl, Nat.le_of_ble_eq_true rfl⟩, Nat.le_of_ble_eq_true rfl, rfl, rfl⟩ rfl rfl rfl
  refine j_iload_n dX5_switches_17 1 rfl ?_
  refine j_S (w2 := (MO D M (min (u + 1) 6, r)) ++ (AR D (M 1) 455 s) ++ (AR D (M 2) 2730 (rmF pa u s)) ++ (AR D (M 5) 455 s)) (st2 := [.int (nI (64 + 7 * c))]) (c_X5_channelAt c) rfl cw_X5_75 dX5_switches_18 [] rfl [] rfl rfl rfl ?_ ⟨rfl, ⟨Nat.le_of_ble_eq_true rfl, Nat.le_of_ble_eq_true rfl⟩, ⟨rfl, rfl⟩, ⟨Nat.le_of_ble_eq_true rfl, Nat.le_of_ble_eq_true rfl⟩, Nat.le_of_ble_eq_true rfl, rfl, rfl⟩
  refine j_istore_n (lv2 := [(0, .ref (M 0)), (1, .int (nI c)), (2, .int (nI (64 + 7 * c)))]) dX5_switches_21 (by decide) [1, 2, 0] rfl ?_
  refine j_aload_n dX5_switches_22 0 rfl ?_
  refine g_X5_7 rfl dX5_switches_23 0 rfl rfl ?_
  refine j_iload_n dX5_switches_26 2 rfl ?_
  refine j_iconst (v := nI 0) dX5_switches_27 (by decide) ?_
  refine j_iadd (v := nI (64 + 7 * c + 0)) dX5_switches_28 (nI_add _ _) ?_
  refine j_iconst (v := nI 1) dX5_switches_29 (by decide) ?_
  refine j_aload_n dX5_switches_30 0 rfl ?_
  refine g_X5_7 rfl dX5_switches_31 0 rfl rfl ?_
  refine j_iload_n dX5_switches_34 2 rfl ?_
  refine j_iconst (v := nI 0) dX5_switches_35 (by decide) ?_
  refine j_iadd (v := nI (64 + 7 * c + 0)) dX5_switches_36 (nI_add _ _) ?_
  refine j_iald (v := gC s c 0) dX5_switches_37 1 (64 + 7 * c + 0) rfl (rfl) (by omega) (Nat.le_of_ble_eq_true rfl) (rfl) ?_
  refine j_isub (v := (nI 1) - (gC s c 0)) dX5_switches_38 (rfl) ?_
  refine j_iast (w2 := (MO D M (min (u + 1) 6, r)) ++ (AR D (M 1) 455 (upd s (64 + 7 * c + 0) (nI 1 - gC s c 0))) ++ (AR D (M 2) 2730 (rmF pa u s)) ++ (AR D (M 5) 455 s)) dX5_switches_39 1 (64 + 7 * c + 0) rfl (rfl) (by omega) (Nat.le_of_ble_eq_true rfl) (rfl) ?_
  refine j_aload_n dX5_switches_40 0 rfl ?_
  refine g_X5_7 rfl dX5_switches_41 0 rfl rfl ?_
  refine j_iload_n dX5_switches_44 2 rfl ?_
  refine j_iconst (v := nI 0) dX5_switches_45 (by decide) ?_
  refine j_iadd (v := nI (64 + 7 * c + 0)) dX5_switches_46 (nI_add _ _) ?_
  refine j_iald (v := nI 1 - gC s c 0) dX5_switches_47 1 (64 + 7 * c + 0) rfl (rfl) (by omega) (Nat.le_of_ble_eq_true rfl) (up_eq) ?_
  exact j_iret dX5_switches_48 ⟨rfl, rfl⟩ ⟨rfl, rfl⟩

set_option maxHeartbeats 4000000 in
set_option maxRecDepth 100000 in
theorem c_X5_tunes_bad (M : Nat → Nat) (q : QT) (v w z : Int32) (hb : ¬ (inR v (nI 0) (nI 3) = true ∧ inR w (nI 0) (nI 3) = true ∧ inR z (nI 1) (nI 8) = true)) : Ct D yX5_tunes cX5_tunes 5 (some .int) ({ frames := 2, cells := 0, slots := 0, locals := 42 } : Room) [.ref (M 0), .int v, .int w, .int z] (MO D M q) (fun v_ u_ => v_ = some (.int (-1)) ∧ u_ = MO D M q) := by
  refine ct_of (by decide) (Nat.le_of_ble_eq_true rfl) (lv0 := [(0, .ref (M 0)), (1, .int v), (2, .int w), (3, .int z)]) rfl (fun Γ => ?_)
  refine j_iload_n dX5_tunes_0 1 rfl ?_
  refine j_S (w2 := MO D M q) (st2 := [.int (bI (inR v (nI 0) (nI 3)))]) (c_X5_isChannel v) rfl cw_X5_141 dX5_tunes_1 [] rfl [] rfl rfl rfl ?_ ⟨rfl, ⟨Nat.le_of_ble_eq_true rfl, Nat.le_of_ble_eq_true rfl⟩, ⟨rfl, rfl⟩, ⟨Nat.le_of_ble_eq_true rfl, Nat.le_of_ble_eq_true rfl⟩, Nat.le_of_ble_eq_true rfl, rfl, rfl⟩
  refine j_if_eq_B (tgt := 26) dX5_tunes_4 (by decide) (fun h4 => ?_) (fun h4 => ?_)
  · skip
    refine j_iconst (v := (-1)) dX5_tunes_26 (by decide) ?_
    exact j_iret dX5_tunes_27 ⟨rfl, rfl⟩ ⟨rfl, rfl⟩
  · skip
    refine j_iload_n dX5_tunes_7 2 rfl ?_
    refine j_iconst (v := nI 0) dX5_tunes_8 (by decide) ?_
    refine j_iconst (v := nI 3) dX5_tunes_9 (by decide) ?_
    refine j_S (w2 := MO D M q) (st2 := [.int (bI (inR w (nI 0) (nI 3)))]) (c_X5_in w (nI 0) (nI 3)) rfl cw_X5_38 dX5_tunes_10 [] rfl [] rfl rfl rfl ?_ ⟨rfl, ⟨Nat.le_of_ble_eq_true rfl, Nat.le_of_ble_eq_true rfl⟩, ⟨rfl, rfl⟩, ⟨Nat.le_of_ble_eq_true rfl, Nat.le_of_ble_eq_true rfl⟩, Nat.le_of_ble_eq_true rfl, rfl, rfl⟩
    refine j_if_eq_B (tgt := 26) dX5_tunes_13 (by decide) (fun h13 => ?_) (fun h13 => ?_)
    · skip
      refine j_iconst (v := (-1)) dX5_tunes_26 (by decide) ?_
      exact j_iret dX5_tunes_27 ⟨rfl, rfl⟩ ⟨rfl, rfl⟩
    · skip
      refine j_iload_n dX5_tunes_16 3 rfl ?_
      refine j_iconst (v := nI 1) dX5_tunes_17 (by decide) ?_
      refine j_bipush (v := nI 8) dX5_tunes_18 (by decide) ?_
      refine j_S (w2 := MO D M q) (st2 := [.int (bI (inR z (nI 1) (nI 8)))]) (c_X5_in z (nI 1) (nI 8)) rfl cw_X5_38 dX5_tunes_20 [] rfl [] rfl rfl rfl ?_ ⟨rfl, ⟨Nat.le_of_ble_eq_true rfl, Nat.le_of_ble_eq_true rfl⟩, ⟨rfl, rfl⟩, ⟨Nat.le_of_ble_eq_true rfl, Nat.le_of_ble_eq_true rfl⟩, Nat.le_of_ble_eq_true rfl, rfl, rfl⟩
      refine j_if_ne_B (tgt := 28) dX5_tunes_23 (by decide) (fun h23 => absurd ⟨h4, h13, h23⟩ hb) (fun h23 => ?_)
      refine j_iconst (v := (-1)) dX5_tunes_26 (by decide) ?_
      exact j_iret dX5_tunes_27 ⟨rfl, rfl⟩ ⟨rfl, rfl⟩

set_option maxHeartbeats 4000000 in
set_option maxRecDepth 100000 in
theorem c_X5_tunes_same (M : Nat → Nat) (q : QT) (s : SS) (c r b : Nat) (hc : c < 4) (hr : r < 4) (hb : 1 ≤ b ∧ b ≤ 8) (h1 : gC s c 1 = nI r) (h2 : gC s c 2 = nI b) : Ct D yX5_tunes cX5_tunes 5 (some .int) ({ frames := 2, cells := 0, slots := 0, locals := 42 } : Room) [.ref (M 0), .int (nI c), .int (nI r), .int (nI b)] ((MO D M q) ++ (AR D (M 1) 455 s)) (fun v_ u_ => v_ = some (.int (-2)) ∧ u_ = (MO D M q) ++ (AR D (M 1) 455 s)) := by
  refine ct_of (by decide) (Nat.le_of_ble_eq_true rfl) (lv0 := [(0, .ref (M 0)), (1, .int (nI c)), (2, .int (nI r)), (3, .int (nI b))]) rfl (fun Γ => ?_)
  refine j_iload_n dX5_tunes_0 1 rfl ?_
  refine j_S (w2 := (MO D M q) ++ (AR D (M 1) 455 s)) (st2 := [.int (bI (inR (nI c) (nI 0) (nI 3)))]) (c_X5_isChannel (nI c)) rfl cw_X5_141 dX5_tunes_1 [] rfl [] rfl rfl rfl ?_ ⟨rfl, ⟨Nat.le_of_ble_eq_true rfl, Nat.le_of_ble_eq_true rfl⟩, ⟨rfl, rfl⟩, ⟨Nat.le_of_ble_eq_true rfl, Nat.le_of_ble_eq_true rfl⟩, Nat.le_of_ble_eq_true rfl, rfl, rfl⟩
  refine j_if_eq_B (tgt := 26) dX5_tunes_4 (by decide) (fun h4 => absurd (inR_in (by omega) (by omega) (by omega)) (nBool h4)) (fun h4 => ?_)
  refine j_iload_n dX5_tunes_7 2 rfl ?_
  refine j_iconst (v := nI 0) dX5_tunes_8 (by decide) ?_
  refine j_iconst (v := nI 3) dX5_tunes_9 (by decide) ?_
  refine j_S (w2 := (MO D M q) ++ (AR D (M 1) 455 s)) (st2 := [.int (bI (inR (nI r) (nI 0) (nI 3)))]) (c_X5_in (nI r) (nI 0) (nI 3)) rfl cw_X5_38 dX5_tunes_10 [] rfl [] rfl rfl rfl ?_ ⟨rfl, ⟨Nat.le_of_ble_eq_true rfl, Nat.le_of_ble_eq_true rfl⟩, ⟨rfl, rfl⟩, ⟨Nat.le_of_ble_eq_true rfl, Nat.le_of_ble_eq_true rfl⟩, Nat.le_of_ble_eq_true rfl, rfl, rfl⟩
  refine j_if_eq_B (tgt := 26) dX5_tunes_13 (by decide) (fun h13 => absurd (inR_in (by omega) (by omega) (by omega)) (nBool h13)) (fun h13 => ?_)
  refine j_iload_n dX5_tunes_16 3 rfl ?_
  refine j_iconst (v := nI 1) dX5_tunes_17 (by decide) ?_
  refine j_bipush (v := nI 8) dX5_tunes_18 (by decide) ?_
  refine j_S (w2 := (MO D M q) ++ (AR D (M 1) 455 s)) (st2 := [.int (bI (inR (nI b) (nI 1) (nI 8)))]) (c_X5_in (nI b) (nI 1) (nI 8)) rfl cw_X5_38 dX5_tunes_20 [] rfl [] rfl rfl rfl ?_ ⟨rfl, ⟨Nat.le_of_ble_eq_true rfl, Nat.le_of_ble_eq_true rfl⟩, ⟨rfl, rfl⟩, ⟨Nat.le_of_ble_eq_true rfl, Nat.le_of_ble_eq_true rfl⟩, Nat.le_of_ble_eq_true rfl, rfl, rfl⟩
  refine j_if_ne_B (tgt := 28) dX5_tunes_23 (by decide) (fun h23 => ?_) (fun h23 => absurd (inR_in (by omega) (by omega) (by omega)) (nBool h23))
  refine j_iload_n dX5_tunes_28 1 rfl ?_
  refine j_S (w2 := (MO D M q) ++ (AR D (M 1) 455 s)) (st2 := [.int (nI (64 + 7 * c))]) (c_X5_channelAt c) rfl cw_X5_75 dX5_tunes_29 [] rfl [] rfl rfl rfl ?_ ⟨rfl, ⟨Nat.le_of_ble_eq_true rfl, Nat.le_of_ble_eq_true rfl⟩, ⟨rfl, rfl⟩, ⟨Nat.le_of_ble_eq_true rfl, Nat.le_of_ble_eq_true rfl⟩, Nat.le_of_ble_eq_true rfl, rfl, rfl⟩
  refine j_istore (lv2 := [(0, .ref (M 0)), (1, .int (nI c)), (2, .int (nI r)), (3, .int (nI b)), (4, .int (nI (64 + 7 * c)))]) dX5_tunes_32 (by decide) [1, 2, 3, 4, 0] rfl ?_
  refine j_aload_n dX5_tunes_34 0 rfl ?_
  refine g_X5_7 rfl dX5_tunes_35 0 rfl rfl ?_
  refine j_iload dX5_tunes_38 4 rfl ?_
  refine j_iconst (v := nI 1) dX5_tunes_40 (by decide) ?_
  refine j_iadd (v := nI (64 + 7 * c + 1)) dX5_tunes_41 (nI_add _ _) ?_
  refine j_iald (v := gC s c 1) dX5_tunes_42 1 (64 + 7 * c + 1) rfl (rfl) (by omega) (Nat.le_of_ble_eq_true rfl) (rfl) ?_
  refine j_iload_n dX5_tunes_43 2 rfl ?_
  refine j_icmp_ne (tgt := 63) dX5_tunes_44 (by decide) (fun h44 => absurd h1 h44) (fun h44 => ?_)
  refine j_aload_n dX5_tunes_47 0 rfl ?_
  refine g_X5_7 rfl dX5_tunes_48 0 rfl rfl ?_
  refine j_iload dX5_tunes_51 4 rfl ?_
  refine j_iconst (v := nI 2) dX5_tunes_53 (by decide) ?_
  refine j_iadd (v := nI (64 + 7 * c + 2)) dX5_tunes_54 (nI_add _ _) ?_
  refine j_iald (v := gC s c 2) dX5_tunes_55 1 (64 + 7 * c + 2) rfl (rfl) (by omega) (Nat.le_of_ble_eq_true rfl) (rfl) ?_
  refine j_iload_n dX5_tunes_56 3 rfl ?_
  refine j_icmp_ne (tgt := 63) dX5_tunes_57 (by decide) (fun h57 => absurd h2 h57) (fun h57 => ?_)
  refine j_bipush (v := (-2)) dX5_tunes_60 (by decide) ?_
  exact j_iret dX5_tunes_62 ⟨rfl, rfl⟩ ⟨rfl, rfl⟩

set_option maxHeartbeats 4000000 in
set_option maxRecDepth 100000 in
theorem c_X5_tunes_ok (M : Nat → Nat) (u : Nat) (r : RT) (s pa sp : SS) (hu : u ≤ 6) (hI : Inv s) (c k b : Nat) (hc : c < 4) (hr : k < 4) (hb : 1 ≤ b ∧ b ≤ 8) (hd : ¬ (gC s c 1 = nI k ∧ gC s c 2 = nI b)) : Ct D yX5_tunes cX5_tunes 5 (some .int) ({ frames := 2, cells := 0, slots := 0, locals := 42 } : Room) [.ref (M 0), .int (nI c), .int (nI k), .int (nI b)] ((MO D M (u, r)) ++ (AR D (M 1) 455 s) ++ (AR D (M 2) 2730 pa) ++ (AR D (M 5) 455 sp)) (fun v_ u_ => v_ = some (.int (nI 1)) ∧ u_ = (MO D M (min (u + 1) 6, r)) ++ (AR D (M 1) 455 (upd (upd s (64 + 7 * c + 1) (nI k)) (64 + 7 * c + 2) (nI b))) ++ (AR D (M 2) 2730 (rmF pa u s)) ++ (AR D (M 5) 455 s)) := by
  refine ct_of (by decide) (Nat.le_of_ble_eq_true rfl) (lv0 := [(0, .ref (M 0)), (1, .int (nI c)), (2, .int (nI k)), (3, .int (nI b))]) rfl (fun Γ => ?_)
  refine j_iload_n dX5_tunes_0 1 rfl ?_
  refine j_S (w2 := (MO D M (u, r)) ++ (AR D (M 1) 455 s) ++ (AR D (M 2) 2730 pa) ++ (AR D (M 5) 455 sp)) (st2 := [.int (bI (inR (nI c) (nI 0) (nI 3)))]) (c_X5_isChannel (nI c)) rfl cw_X5_141 dX5_tunes_1 [] rfl [] rfl rfl rfl ?_ ⟨rfl, ⟨Nat.le_of_ble_eq_true rfl, Nat.le_of_ble_eq_true rfl⟩, ⟨rfl, rfl⟩, ⟨Nat.le_of_ble_eq_true rfl, Nat.le_of_ble_eq_true rfl⟩, Nat.le_of_ble_eq_true rfl, rfl, rfl⟩
  refine j_if_eq_B (tgt := 26) dX5_tunes_4 (by decide) (fun h4 => absurd (inR_in (by omega) (by omega) (by omega)) (nBool h4)) (fun h4 => ?_)
  refine j_iload_n dX5_tunes_7 2 rfl ?_
  refine j_iconst (v := nI 0) dX5_tunes_8 (by decide) ?_
  refine j_iconst (v := nI 3) dX5_tunes_9 (by decide) ?_
  refine j_S (w2 := (MO D M (u, r)) ++ (AR D (M 1) 455 s) ++ (AR D (M 2) 2730 pa) ++ (AR D (M 5) 455 sp)) (st2 := [.int (bI (inR (nI k) (nI 0) (nI 3)))]) (c_X5_in (nI k) (nI 0) (nI 3)) rfl cw_X5_38 dX5_tunes_10 [] rfl [] rfl rfl rfl ?_ ⟨rfl, ⟨Nat.le_of_ble_eq_true rfl, Nat.le_of_ble_eq_true rfl⟩, ⟨rfl, rfl⟩, ⟨Nat.le_of_ble_eq_true rfl, Nat.le_of_ble_eq_true rfl⟩, Nat.le_of_ble_eq_true rfl, rfl, rfl⟩
  refine j_if_eq_B (tgt := 26) dX5_tunes_13 (by decide) (fun h13 => absurd (inR_in (by omega) (by omega) (by omega)) (nBool h13)) (fun h13 => ?_)
  refine j_iload_n dX5_tunes_16 3 rfl ?_
  refine j_iconst (v := nI 1) dX5_tunes_17 (by decide) ?_
  refine j_bipush (v := nI 8) dX5_tunes_18 (by decide) ?_
  refine j_S (w2 := (MO D M (u, r)) ++ (AR D (M 1) 455 s) ++ (AR D (M 2) 2730 pa) ++ (AR D (M 5) 455 sp)) (st2 := [.int (bI (inR (nI b) (nI 1) (nI 8)))]) (c_X5_in (nI b) (nI 1) (nI 8)) rfl cw_X5_38 dX5_tunes_20 [] rfl [] rfl rfl rfl ?_ ⟨rfl, ⟨Nat.le_of_ble_eq_true rfl, Nat.le_of_ble_eq_true rfl⟩, ⟨rfl, rfl⟩, ⟨Nat.le_of_ble_eq_true rfl, Nat.le_of_ble_eq_true rfl⟩, Nat.le_of_ble_eq_true rfl, rfl, rfl⟩
  refine j_if_ne_B (tgt := 28) dX5_tunes_23 (by decide) (fun h23 => ?_) (fun h23 => absurd (inR_in (by omega) (by omega) (by omega)) (nBool h23))
  refine j_iload_n dX5_tunes_28 1 rfl ?_
  refine j_S (w2 := (MO D M (u, r)) ++ (AR D (M 1) 455 s) ++ (AR D (M 2) 2730 pa) ++ (AR D (M 5) 455 sp)) (st2 := [.int (nI (64 + 7 * c))]) (c_X5_channelAt c) rfl cw_X5_75 dX5_tunes_29 [] rfl [] rfl rfl rfl ?_ ⟨rfl, ⟨Nat.le_of_ble_eq_true rfl, Nat.le_of_ble_eq_true rfl⟩, ⟨rfl, rfl⟩, ⟨Nat.le_of_ble_eq_true rfl, Nat.le_of_ble_eq_true rfl⟩, Nat.le_of_ble_eq_true rfl, rfl, rfl⟩
  refine j_istore (lv2 := [(0, .ref (M 0)), (1, .int (nI c)), (2, .int (nI k)), (3, .int (nI b)), (4, .int (nI (64 + 7 * c)))]) dX5_tunes_32 (by decide) [1, 2, 3, 4, 0] rfl ?_
  refine j_aload_n dX5_tunes_34 0 rfl ?_
  refine g_X5_7 rfl dX5_tunes_35 0 rfl rfl ?_
  refine j_iload dX5_tunes_38 4 rfl ?_
  refine j_iconst (v := nI 1) dX5_tunes_40 (by decide) ?_
  refine j_iadd (v := nI (64 + 7 * c + 1)) dX5_tunes_41 (nI_add _ _) ?_
  refine j_iald (v := gC s c 1) dX5_tunes_42 1 (64 + 7 * c + 1) rfl (rfl) (by omega) (Nat.le_of_ble_eq_true rfl) (rfl) ?_
  refine j_iload_n dX5_tunes_43 2 rfl ?_
  refine j_icmp_ne (tgt := 63) dX5_tunes_44 (by decide) (fun h44 => ?_) (fun h44 => ?_)
  · skip
    refine j_aload_n dX5_tunes_63 0 rfl ?_
    refine j_V (w2 := (MO D M (u, r)) ++ (AR D (M 1) 455 s) ++ (AR D (M 2) 2730 pa) ++ (AR D (M 5) 455 s)) (st2 := []) (c_X5_keepsSpare M (u, r) s sp) rfl cw_X5_105 dX5_tunes_64 [] rfl [0, 1, 3] rfl rfl rfl 5 ?_ ⟨rfl, ⟨Nat.le_of_ble_eq_true rfl, Nat.le_of_ble_eq_true rfl⟩, ⟨rfl, rfl⟩, ⟨Nat.le_of_ble_eq_true rfl, Nat.le_of_ble_eq_true rfl⟩, Nat.le_of_ble_eq_true rfl, rfl, rfl⟩ rfl rfl rfl
    refine j_aload_n dX5_tunes_67 0 rfl ?_
    refine j_V (w2 := (MO D M (min (u + 1) 6, r)) ++ (AR D (M 1) 455 s) ++ (AR D (M 2) 2730 (rmF pa u s)) ++ (AR D (M 5) 455 s)) (st2 := []) (c_X5_rem M u r pa s (by omega)) rfl cw_X5_111 dX5_tunes_68 [] rfl [0, 2, 3] rfl rfl rfl 5 ?_ ⟨rfl, ⟨Nat.le_of_ble_eq_true rfl, Nat.le_of_ble_eq_true rfl⟩, ⟨rfl, rfl⟩, ⟨Nat.le_of_ble_eq_true rfl, Nat.le_of_ble_eq_true rfl⟩, Nat.le_of_ble_eq_true rfl, rfl, rfl⟩ rfl rfl rfl
    refine j_aload_n dX5_tunes_71 0 rfl ?_
    refine g_X5_7 rfl dX5_tunes_72 0 rfl rfl ?_
    refine j_iload dX5_tunes_75 4 rfl ?_
    refine j_iconst (v := nI 1) dX5_tunes_77 (by decide) ?_
    refine j_iadd (v := nI (64 + 7 * c + 1)) dX5_tunes_78 (nI_add _ _) ?_
    refine j_iload_n dX5_tunes_79 2 rfl ?_
    refine j_iast (w2 := (MO D M (min (u + 1) 6, r)) ++ (AR D (M 1) 455 (upd s (64 + 7 * c + 1) (nI k))) ++ (AR D (M 2) 2730 (rmF pa u s)) ++ (AR D (M 5) 455 s)) dX5_tunes_80 1 (64 + 7 * c + 1) rfl (rfl) (by omega) (Nat.le_of_ble_eq_true rfl) (rfl) ?_
    refine j_aload_n dX5_tunes_81 0 rfl ?_
    refine g_X5_7 rfl dX5_tunes_82 0 rfl rfl ?_
    refine j_iload dX5_tunes_85 4 rfl ?_
    refine j_iconst (v := nI 2) dX5_tunes_87 (by decide) ?_
    refine j_iadd (v := nI (64 + 7 * c + 2)) dX5_tunes_88 (nI_add _ _) ?_
    refine j_iload_n dX5_tunes_89 3 rfl ?_
    refine j_iast (w2 := (MO D M (min (u + 1) 6, r)) ++ (AR D (M 1) 455 (upd (upd s (64 + 7 * c + 1) (nI k)) (64 + 7 * c + 2) (nI b))) ++ (AR D (M 2) 2730 (rmF pa u s)) ++ (AR D (M 5) 455 s)) dX5_tunes_90 1 (64 + 7 * c + 2) rfl (rfl) (by omega) (Nat.le_of_ble_eq_true rfl) (rfl) ?_
    refine j_iconst (v := nI 1) dX5_tunes_91 (by decide) ?_
    exact j_iret dX5_tunes_92 ⟨rfl, rfl⟩ ⟨rfl, rfl⟩
  · skip
    refine j_aload_n dX5_tunes_47 0 rfl ?_
    refine g_X5_7 rfl dX5_tunes_48 0 rfl rfl ?_
    refine j_iload dX5_tunes_51 4 rfl ?_
    refine j_iconst (v := nI 2) dX5_tunes_53 (by decide) ?_
    refine j_iadd (v := nI (64 + 7 * c + 2)) dX5_tunes_54 (nI_add _ _) ?_
    refine j_iald (v := gC s c 2) dX5_tunes_55 1 (64 + 7 * c + 2) rfl (rfl) (by omega) (Nat.le_of_ble_eq_true rfl) (rfl) ?_
    refine j_iload_n dX5_tunes_56 3 rfl ?_
    refine j_icmp_ne (tgt := 63) dX5_tunes_57 (by decide) (fun h57 => ?_) (fun h57 => absurd ⟨h44, h57⟩ hd)
    refine j_aload_n dX5_tunes_63 0 rfl ?_
    refine j_V (w2 := (MO D M (u, r)) ++ (AR D (M 1) 455 s) ++ (AR D (M 2) 2730 pa) ++ (AR D (M 5) 455 s)) (st2 := []) (c_X5_keepsSpare M (u, r) s sp) rfl cw_X5_105 dX5_tunes_64 [] rfl [0, 1, 3] rfl rfl rfl 5 ?_ ⟨rfl, ⟨Nat.le_of_ble_eq_true rfl, Nat.le_of_ble_eq_true rfl⟩, ⟨rfl, rfl⟩, ⟨Nat.le_of_ble_eq_true rfl, Nat.le_of_ble_eq_true rfl⟩, Nat.le_of_ble_eq_true rfl, rfl, rfl⟩ rfl rfl rfl
    refine j_aload_n dX5_tunes_67 0 rfl ?_
    refine j_V (w2 := (MO D M (min (u + 1) 6, r)) ++ (AR D (M 1) 455 s) ++ (AR D (M 2) 2730 (rmF pa u s)) ++ (AR D (M 5) 455 s)) (st2 := []) (c_X5_rem M u r pa s (by omega)) rfl cw_X5_111 dX5_tunes_68 [] rfl [0, 2, 3] rfl rfl rfl 5 ?_ ⟨rfl, ⟨Nat.le_of_ble_eq_true rfl, Nat.le_of_ble_eq_true rfl⟩, ⟨rfl, rfl⟩, ⟨Nat.le_of_ble_eq_true rfl, Nat.le_of_ble_eq_true rfl⟩, Nat.le_of_ble_eq_true rfl, rfl, rfl⟩ rfl rfl rfl
    refine j_aload_n dX5_tunes_71 0 rfl ?_
    refine g_X5_7 rfl dX5_tunes_72 0 rfl rfl ?_
    refine j_iload dX5_tunes_75 4 rfl ?_
    refine j_iconst (v := nI 1) dX5_tunes_77 (by decide) ?_
    refine j_iadd (v := nI (64 + 7 * c + 1)) dX5_tunes_78 (nI_add _ _) ?_
    refine j_iload_n dX5_tunes_79 2 rfl ?_
    refine j_iast (w2 := (MO D M (min (u + 1) 6, r)) ++ (AR D (M 1) 455 (upd s (64 + 7 * c + 1) (nI k))) ++ (AR D (M 2) 2730 (rmF pa u s)) ++ (AR D (M 5) 455 s)) dX5_tunes_80 1 (64 + 7 * c + 1) rfl (rfl) (by omega) (Nat.le_of_ble_eq_true rfl) (rfl) ?_
    refine j_aload_n dX5_tunes_81 0 rfl ?_
    refine g_X5_7 rfl dX5_tunes_82 0 rfl rfl ?_
    refine j_iload dX5_tunes_85 4 rfl ?_
    refine j_iconst (v := nI 2) dX5_tunes_87 (by decide) ?_
    refine j_iadd (v := nI (64 + 7 * c + 2)) dX5_tunes_88 (nI_add _ _) ?_
    refine j_iload_n dX5_tunes_89 3 rfl ?_
    refine j_iast (w2 := (MO D M (min (u + 1) 6, r)) ++ (AR D (M 1) 455 (upd (upd s (64 + 7 * c + 1) (nI k)) (64 + 7 * c + 2) (nI b))) ++ (AR D (M 2) 2730 (rmF pa u s)) ++ (AR D (M 5) 455 s)) dX5_tunes_90 1 (64 + 7 * c + 2) rfl (rfl) (by omega) (Nat.le_of_ble_eq_true rfl) (rfl) ?_
    refine j_iconst (v := nI 1) dX5_tunes_91 (by decide) ?_
    exact j_iret dX5_tunes_92 ⟨rfl, rfl⟩ ⟨rfl, rfl⟩

set_option maxHeartbeats 4000000 in
set_option maxRecDepth 100000 in
theorem c_X5_undo_none (M : Nat → Nat) (r : RT) : Ct D yX5_undo cX5_undo 2 (some .int) ({ frames := 0, cells := 0, slots := 0, locals := 0 } : Room) [.ref (M 0)] (MO D M (0, r)) (fun v_ u_ => v_ = some (.int (-2)) ∧ u_ = MO D M (0, r)) := by
  refine ct_of (by decide) (Nat.le_of_ble_eq_true rfl) (lv0 := [(0, .ref (M 0))]) rfl (fun Γ => ?_)
  refine j_aload_n dX5_undo_0 0 rfl ?_
  refine g_X5_98 rfl dX5_undo_1 0 rfl rfl ?_
  refine j_if_ne_N (tgt := 10) dX5_undo_4 (by decide) (by omega) (fun h4 => absurd rfl h4) (fun h4 => ?_)
  refine j_bipush (v := (-2)) dX5_undo_7 (by decide) ?_
  exact j_iret dX5_undo_9 ⟨rfl, rfl⟩ ⟨rfl, rfl⟩

set_option maxHeartbeats 4000000 in
set_option maxRecDepth 100000 in
theorem c_X5_undo_ok (M : Nat → Nat) (u : Nat) (r : RT) (s pa g : SS) (hu : u < 6) (hg : ∀ j, j < 455 → pa (455 * u + j) = g j) : Ct D yX5_undo cX5_undo 2 (some .int) ({ frames := 0, cells := 0, slots := 0, locals := 0 } : Room) [.ref (M 0)] ((MO D M (u + 1, r)) ++ (AR D (M 1) 455 s) ++ (AR D (M 2) 2730 pa)) (fun v_ u_ => v_ = some (.int (nI u)) ∧ u_ = (MO D M (u, r)) ++ (AR D (M 1) 455 g) ++ (AR D (M 2) 2730 pa)) := by
  refine ct_of (by decide) (Nat.le_of_ble_eq_true rfl) (lv0 := [(0, .ref (M 0))]) rfl (fun Γ => ?_)
  refine j_aload_n dX5_undo_0 0 rfl ?_
  refine g_X5_98 rfl dX5_undo_1 0 rfl rfl ?_
  refine j_if_ne_N (tgt := 10) dX5_undo_4 (by decide) (by omega) (fun h4 => ?_) (fun h4 => absurd h4 (by omega))
  refine j_aload_n dX5_undo_10 0 rfl ?_
  refine j_dup dX5_undo_11 rfl ?_
  refine g_X5_98 rfl dX5_undo_12 0 rfl rfl ?_
  refine j_iconst (v := nI 1) dX5_undo_15 (by decide) ?_
  refine j_isub (v := nI u) dX5_undo_16 (pk_sub (show 1 ≤ u + 1 by omega)) ?_
  refine p_X5_98 (w2 := (MO D M (u, r)) ++ (AR D (M 1) 455 s) ++ (AR D (M 2) 2730 pa)) rfl dX5_undo_17 0 rfl (Nat.le_of_ble_eq_true rfl) (rfl) ?_
  refine j_iconst (v := nI 0) dX5_undo_20 (by decide) ?_
  refine j_istore_n (lv2 := [(0, .ref (M 0)), (1, .int (nI 0))]) dX5_undo_21 (by decide) [1, 0] rfl ?_
  have L22 : ∀ (fuel : Nat) (i : Nat), i ≤ 455 → 455 - i < fuel → J D Γ yX5_undo cX5_undo 2 (some .int) ({ frames := 0, cells := 0, slots := 0, locals := 0 } : Room) (Qf D Γ ({ frames := 0, cells := 0, slots := 0, locals := 0 } : Room) (fun v_ u_ => v_ = some (.int (nI u)) ∧ u_ = (MO D M (u, r)) ++ (AR D (M 1) 455 g) ++ (AR D (M 2) 2730 pa))) 0 0 ((MO D M (u, r)) ++ (AR D (M 1) 455 (cpN g s i)) ++ (AR D (M 2) 2730 pa)) 22 [(0, .ref (M 0)), (1, .int (nI i))] [] := by
    intro fuel
    induction fuel with
    | zero => intro i hi hm; exact absurd hm (Nat.not_lt_zero _)
    | succ fuel ih =>
      intro i hi hm
      refine j_iload_n dX5_undo_22 1 rfl ?_
      refine j_sipush (v := nI 455) dX5_undo_23 (by decide) ?_
      refine j_icmp_ge_N (tgt := 56) dX5_undo_26 (by decide) ⟨by omega, by omega⟩ (fun h26 => ?_) (fun h26 => ?_)
      · skip
        obtain rfl : i = 455 := by omega
        refine j_cong (w2 := (MO D M (u, r)) ++ (AR D (M 1) 455 g) ++ (AR D (M 2) 2730 pa)) 1 rfl (fun j hj => if_pos hj) rfl ?_
        refine j_aload_n dX5_undo_56 0 rfl ?_
        refine g_X5_98 rfl dX5_undo_57 0 rfl rfl ?_
        exact j_iret dX5_undo_60 ⟨rfl, rfl⟩ ⟨rfl, rfl⟩
      · skip
        refine j_aload_n dX5_undo_29 0 rfl ?_
        refine g_X5_7 rfl dX5_undo_30 0 rfl rfl ?_
        refine j_iload_n dX5_undo_33 1 rfl ?_
        refine j_aload_n dX5_undo_34 0 rfl ?_
        refine g_X5_13 rfl dX5_undo_35 0 rfl rfl ?_
        refine j_sipush (v := nI 455) dX5_undo_38 (by decide) ?_
        refine j_aload_n dX5_undo_41 0 rfl ?_
        refine g_X5_98 rfl dX5_undo_42 0 rfl rfl ?_
        refine j_imul (v := nI (455 * u)) dX5_undo_45 (pk_mul _ _) ?_
        refine j_iload_n dX5_undo_46 1 rfl ?_
        refine j_iadd (v := nI (455 * u + i)) dX5_undo_47 (nI_add _ _) ?_
        refine j_iald (v := g i) dX5_undo_48 2 (455 * u + i) rfl (rfl) (by omega) (Nat.le_of_ble_eq_true rfl) (hg i (by omega)) ?_
        refine j_iast (w2 := (MO D M (u, r)) ++ (AR D (M 1) 455 (cpN g s (i + 1))) ++ (AR D (M 2) 2730 pa)) dX5_undo_49 1 i rfl (rfl) (by omega) (Nat.le_of_ble_eq_true rfl) (by rw [← cpN_s]; rfl) ?_
        refine j_iinc (v := nI (i + 1)) (lv2 := [(0, .ref (M 0)), (1, .int (nI (i + 1)))]) dX5_undo_50 1 rfl (nI_1 _) (by decide) [1, 0] rfl ?_
        refine j_goto (tgt := 22) dX5_undo_53 (by decide) ?_
        exact ih (i + 1) (by omega) (by omega)
  exact L22 456 0 (by omega) (by omega)

set_option maxHeartbeats 4000000 in
set_option maxRecDepth 100000 in
theorem c_X5_cancels_bad (M : Nat → Nat) (q : QT) (v : Int32) (hb : inR v (nI 0) (nI 3) = false) : Ct D yX5_cancels cX5_cancels 6 (some .int) ({ frames := 2, cells := 0, slots := 0, locals := 42 } : Room) [.ref (M 0), .int v] (MO D M q) (fun v_ u_ => v_ = some (.int (-1)) ∧ u_ = MO D M q) := by
  refine ct_of (by decide) (Nat.le_of_ble_eq_true rfl) (lv0 := [(0, .ref (M 0)), (1, .int v)]) rfl (fun Γ => ?_)
  refine j_iload_n dX5_cancels_0 1 rfl ?_
  refine j_S (w2 := MO D M q) (st2 := [.int (bI (inR v (nI 0) (nI 3)))]) (c_X5_isChannel v) rfl cw_X5_141 dX5_cancels_1 [] rfl [] rfl rfl rfl ?_ ⟨rfl, ⟨Nat.le_of_ble_eq_true rfl, Nat.le_of_ble_eq_true rfl⟩, ⟨rfl, rfl⟩, ⟨Nat.le_of_ble_eq_true rfl, Nat.le_of_ble_eq_true rfl⟩, Nat.le_of_ble_eq_true rfl, rfl, rfl⟩
  refine j_if_ne_B (tgt := 9) dX5_cancels_4 (by decide) (fun h4 => absurd (hb.symm.trans h4) (by decide)) (fun h4 => ?_)
  refine j_iconst (v := (-1)) dX5_cancels_7 (by decide) ?_
  exact j_iret dX5_cancels_8 ⟨rfl, rfl⟩ ⟨rfl, rfl⟩

set_option maxHeartbeats 4000000 in
set_option maxRecDepth 100000 in
theorem c_X5_cancels_none (M : Nat → Nat) (q : QT) (s : SS) (hI : Inv s) (c : Nat) (hc : c < 4) (ht : tc s (pl s c) = false) : Ct D yX5_cancels cX5_cancels 6 (some .int) ({ frames := 2, cells := 0, slots := 0, locals := 43 } : Room) [.ref (M 0), .int (nI c)] ((MO D M q) ++ (AR D (M 1) 455 s)) (fun v_ u_ => v_ = some (.int (-2)) ∧ u_ = (MO D M q) ++ (AR D (M 1) 455 s)) := by
  refine ct_of (by decide) (Nat.le_of_ble_eq_true rfl) (lv0 := [(0, .ref (M 0)), (1, .int (nI c))]) rfl (fun Γ => ?_)
  refine j_iload_n dX5_cancels_0 1 rfl ?_
  refine j_S (w2 := (MO D M q) ++ (AR D (M 1) 455 s)) (st2 := [.int (bI (inR (nI c) (nI 0) (nI 3)))]) (c_X5_isChannel (nI c)) rfl cw_X5_141 dX5_cancels_1 [] rfl [] rfl rfl rfl ?_ ⟨rfl, ⟨Nat.le_of_ble_eq_true rfl, Nat.le_of_ble_eq_true rfl⟩, ⟨rfl, rfl⟩, ⟨Nat.le_of_ble_eq_true rfl, Nat.le_of_ble_eq_true rfl⟩, Nat.le_of_ble_eq_true rfl, rfl, rfl⟩
  refine j_if_ne_B (tgt := 9) dX5_cancels_4 (by decide) (fun h4 => ?_) (fun h4 => absurd (inR_in (by omega) (by omega) (by omega)) (nBool h4))
  refine j_aload_n dX5_cancels_9 0 rfl ?_
  refine j_iload_n dX5_cancels_10 1 rfl ?_
  refine j_V (w2 := (MO D M q) ++ (AR D (M 1) 455 s)) (st2 := [.int (prM s c)]) (c_X5_present M q s hI c (by omega)) rfl cw_X5_114 dX5_cancels_11 [] rfl [0, 1] rfl rfl rfl 5 ?_ ⟨rfl, ⟨Nat.le_of_ble_eq_true rfl, Nat.le_of_ble_eq_true rfl⟩, ⟨rfl, rfl⟩, ⟨Nat.le_of_ble_eq_true rfl, Nat.le_of_ble_eq_true rfl⟩, Nat.le_of_ble_eq_true rfl, rfl, rfl⟩ rfl rfl rfl
  refine j_topi (v := (-9)) (prM_f ht) ?_
  refine j_bipush (v := (-9)) dX5_cancels_14 (by decide) ?_
  refine j_icmp_ne (tgt := 22) dX5_cancels_16 (by decide) (fun h16 => absurd rfl h16) (fun h16 => ?_)
  refine j_bipush (v := (-2)) dX5_cancels_19 (by decide) ?_
  exact j_iret dX5_cancels_21 ⟨rfl, rfl⟩ ⟨rfl, rfl⟩

end MD3
