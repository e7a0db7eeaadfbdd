section EN2
variable {D : DX}
set_option maxHeartbeats 4000000 in
set_option maxRecDepth 100000 in
theorem c_J9_floorMod_7cf53 (x : Int32) : Ct D yJ9_floorMod_7cf53 cJ9_floorMod_7cf53 3 (some .int) ({ frames := 0, cells := 0, slots := 0, locals := 0 } : Room) [.int x, .int (nI 64)] (([] : va_W)) (fun v_ u_ => v_ = some (.int (nI (am x))) ∧ u_ = ([] : va_W)) := by
  refine ct_ofF (by decide +kernel) (Nat.le_of_ble_eq_true rfl) (lv0 := [(0, .int x), (1, .int (nI 64))]) rfl (fun Γ => ?_)
  refine j_iload_n dJ9_floorMod_7cf53_0 0 rfl ?_
  refine j_iload_n dJ9_floorMod_7cf53_1 1 rfl ?_
  refine j_irem (v := x - x / (nI 64) * (nI 64)) dJ9_floorMod_7cf53_2 (by decide) (rfl) ?_
  refine j_istore_n (lv2 := [(0, .int x), (1, .int (nI 64)), (2, .int (x - x / (nI 64) * (nI 64)))]) dJ9_floorMod_7cf53_3 (by decide) [1, 2, 0] rfl ?_
  refine j_iload_n dJ9_floorMod_7cf53_4 0 rfl ?_
  refine j_iload_n dJ9_floorMod_7cf53_5 1 rfl ?_
  refine j_ixor (v := x ^^^ (nI 64)) dJ9_floorMod_7cf53_6 (rfl) ?_
  refine j_if_ge (tgt := 18) dJ9_floorMod_7cf53_7 (by decide) (fun h7 => ?_) (fun h7 => ?_)
  · skip
    refine j_iload_n dJ9_floorMod_7cf53_18 2 rfl ?_
    exact j_iret dJ9_floorMod_7cf53_19 ⟨rfl, rfl⟩ ⟨by rw [fm_p (fun q => absurd h7 (Int32.not_le.mpr ((xor64 x).mpr q)))], rfl⟩
  · skip
    refine j_iload_n dJ9_floorMod_7cf53_10 2 rfl ?_
    refine j_if_eq (tgt := 18) dJ9_floorMod_7cf53_11 (by decide) (fun h11 => ?_) (fun h11 => ?_)
    · skip
      refine j_iload_n dJ9_floorMod_7cf53_18 2 rfl ?_
      exact j_iret dJ9_floorMod_7cf53_19 ⟨rfl, rfl⟩ ⟨by rw [fm_z h11], rfl⟩
    · skip
      refine j_iload_n dJ9_floorMod_7cf53_14 2 rfl ?_
      refine j_iload_n dJ9_floorMod_7cf53_15 1 rfl ?_
      refine j_iadd (v := (x - x / (nI 64) * (nI 64)) + (nI 64)) dJ9_floorMod_7cf53_16 (rfl) ?_
      exact j_iret dJ9_floorMod_7cf53_17 ⟨rfl, rfl⟩ ⟨by rw [fm_n ((xor64 x).mp (Int32.not_le.mp h7)) h11], rfl⟩

set_option maxHeartbeats 4000000 in
set_option maxRecDepth 100000 in
theorem c_J9_min_7cf53 (a b : Nat) (ha : a < 2 ^ 31) (hb : b < 2 ^ 31) : Ct D yJ9_min_7cf53 cJ9_min_7cf53 2 (some .int) ({ frames := 0, cells := 0, slots := 0, locals := 0 } : Room) [.int (nI a), .int (nI b)] (([] : va_W)) (fun v_ u_ => v_ = some (.int (nI (min a b))) ∧ u_ = ([] : va_W)) := by
  refine ct_ofF (by decide +kernel) (Nat.le_of_ble_eq_true rfl) (lv0 := [(0, .int (nI a)), (1, .int (nI b))]) rfl (fun Γ => ?_)
  refine j_iload_n dJ9_min_7cf53_0 0 rfl ?_
  refine j_iload_n dJ9_min_7cf53_1 1 rfl ?_
  refine j_icmp_gt_N (tgt := 9) dJ9_min_7cf53_2 (by decide) ⟨by omega, by omega⟩ (fun h2 => ?_) (fun h2 => ?_)
  · skip
    refine j_iload_n dJ9_min_7cf53_9 1 rfl ?_
    exact j_iret dJ9_min_7cf53_10 ⟨rfl, rfl⟩ ⟨congrArg (fun z => some (Value.int (nI z))) (by rw [Nat.min_def]; split <;> omega), rfl⟩
  · skip
    refine j_iload_n dJ9_min_7cf53_5 0 rfl ?_
    refine j_goto (tgt := 10) dJ9_min_7cf53_6 (by decide) ?_
    exact j_iret dJ9_min_7cf53_10 ⟨rfl, rfl⟩ ⟨congrArg (fun z => some (Value.int (nI z))) (by rw [Nat.min_def]; split <;> omega), rfl⟩

set_option maxHeartbeats 4000000 in
set_option maxRecDepth 100000 in
theorem c_J9_max_7cf53 (a b : Nat) (ha : a < 2 ^ 31) (hb : b < 2 ^ 31) : Ct D yJ9_max_7cf53 cJ9_max_7cf53 2 (some .int) ({ frames := 0, cells := 0, slots := 0, locals := 0 } : Room) [.int (nI a), .int (nI b)] (([] : va_W)) (fun v_ u_ => v_ = some (.int (nI (max a b))) ∧ u_ = ([] : va_W)) := by
  refine ct_ofF (by decide +kernel) (Nat.le_of_ble_eq_true rfl) (lv0 := [(0, .int (nI a)), (1, .int (nI b))]) rfl (fun Γ => ?_)
  refine j_iload_n dJ9_max_7cf53_0 0 rfl ?_
  refine j_iload_n dJ9_max_7cf53_1 1 rfl ?_
  refine j_icmp_lt_N (tgt := 9) dJ9_max_7cf53_2 (by decide) ⟨by omega, by omega⟩ (fun h2 => ?_) (fun h2 => ?_)
  · skip
    refine j_iload_n dJ9_max_7cf53_9 1 rfl ?_
    exact j_iret dJ9_max_7cf53_10 ⟨rfl, rfl⟩ ⟨congrArg (fun z => some (Value.int (nI z))) (by rw [Nat.max_def]; split <;> omega), rfl⟩
  · skip
    refine j_iload_n dJ9_max_7cf53_5 0 rfl ?_
    refine j_goto (tgt := 10) dJ9_max_7cf53_6 (by decide) ?_
    exact j_iret dJ9_max_7cf53_10 ⟨rfl, rfl⟩ ⟨congrArg (fun z => some (Value.int (nI z))) (by rw [Nat.max_def]; split <;> omega), rfl⟩

set_option maxHeartbeats 4000000 in
set_option maxRecDepth 100000 in
theorem c_X0_addressOf (E : Nat → Nat) (s : SS) (p k way : Nat) (hp : p < 24) (hn : gL s p 2 = nI (nn s p)) (h1 : 1 ≤ nn s p) (h2 : nn s p < 17) (hk : k < 2 ^ 31) (hw : way < 2) : Ct D yX0_addressOf cX0_addressOf 8 (some .int) ({ frames := 1, cells := 0, slots := 0, locals := 22 } : Room) [.ref (E 0), .int (nI p), .int (nI k), .int (nI way)] (EW D E s) (fun v_ u_ => v_ = some (.int (nI (ad s p k way))) ∧ u_ = EW D E s) := by
  refine ct_of (by decide) (Nat.le_of_ble_eq_true rfl) (lv0 := [(0, .ref (E 0)), (1, .int (nI p)), (2, .int (nI k)), (3, .int (nI way))]) rfl (fun Γ => ?_)
  refine j_aload_n dX0_addressOf_0 0 rfl ?_
  refine j_iload_n dX0_addressOf_1 1 rfl ?_
  refine j_iconst (v := nI 2) dX0_addressOf_2 (by decide) ?_
  refine j_V (w2 := EW D E s) (st2 := [.int (gL s p 2)]) (c_X0_ofLetter E s p 2 (by omega) (by omega)) rfl cw_X0_40 dX0_addressOf_3 [] rfl [0, 1, 2, 3, 4] rfl rfl rfl 0 ?_ ⟨rfl, ⟨Nat.le_of_ble_eq_true rfl, Nat.le_of_ble_eq_true rfl⟩, ⟨rfl, rfl⟩, ⟨Nat.le_of_ble_eq_true rfl, Nat.le_of_ble_eq_true rfl⟩, Nat.le_of_ble_eq_true rfl, rfl, rfl⟩ rfl rfl rfl
  refine j_topi (v := nI (nn s p)) (hn) ?_
  refine j_istore (lv2 := [(0, .ref (E 0)), (1, .int (nI p)), (2, .int (nI k)), (3, .int (nI way)), (4, .int (nI (nn s p)))]) dX0_addressOf_6 (by decide) [1, 2, 3, 4, 0] rfl ?_
  refine j_iload dX0_addressOf_8 4 rfl ?_
  refine j_if_gt_N (tgt := 15) dX0_addressOf_10 (by decide) (by omega) (fun h10 => ?_) (fun h10 => absurd (show 0 < nn s p by omega) h10)
  refine j_aload_n dX0_addressOf_15 0 rfl ?_
  refine j_iload_n dX0_addressOf_16 1 rfl ?_
  refine j_iconst (v := nI 0) dX0_addressOf_17 (by decide) ?_
  refine j_iload_n dX0_addressOf_18 3 rfl ?_
  refine j_iadd (v := nI (0 + way)) dX0_addressOf_19 (nI_add _ _) ?_
  refine j_V (w2 := EW D E s) (st2 := [.int (gL s p (0 + way))]) (c_X0_ofLetter E s p (0 + way) (by omega) (by omega)) rfl cw_X0_40 dX0_addressOf_20 [] rfl [0, 1, 2, 3, 4] rfl rfl rfl 0 ?_ ⟨rfl, ⟨Nat.le_of_ble_eq_true rfl, Nat.le_of_ble_eq_true rfl⟩, ⟨rfl, rfl⟩, ⟨Nat.le_of_ble_eq_true rfl, Nat.le_of_ble_eq_true rfl⟩, Nat.le_of_ble_eq_true rfl, rfl, rfl⟩ rfl rfl rfl
  refine j_topi (v := gL s p way) (by rw [Nat.zero_add]) ?_
  refine j_istore (lv2 := [(0, .ref (E 0)), (1, .int (nI p)), (2, .int (nI k)), (3, .int (nI way)), (4, .int (nI (nn s p))), (5, .int (gL s p way))]) dX0_addressOf_23 (by decide) [1, 2, 3, 4, 5, 0] rfl ?_
  refine j_iload_n dX0_addressOf_25 2 rfl ?_
  refine j_iload dX0_addressOf_26 4 rfl ?_
  refine j_idiv (v := nI (k / (nn s p))) dX0_addressOf_28 (nI_ne0 (by omega) (by omega)) (pk_div (by omega) (by omega) (by omega)) ?_
  refine j_aload_n dX0_addressOf_29 0 rfl ?_
  refine j_iload_n dX0_addressOf_30 1 rfl ?_
  refine j_bipush (v := nI 6) dX0_addressOf_31 (by decide) ?_
  refine j_iload_n dX0_addressOf_33 3 rfl ?_
  refine j_iadd (v := nI (6 + way)) dX0_addressOf_34 (nI_add _ _) ?_
  refine j_V (w2 := EW D E s) (st2 := [.int (gL s p (6 + way)), .int (nI (k / (nn s p)))]) (c_X0_ofLetter E s p (6 + way) (by omega) (by omega)) rfl cw_X0_40 dX0_addressOf_35 [.int (nI (k / (nn s p)))] rfl [0, 1, 2, 3, 4] rfl rfl rfl 0 ?_ ⟨rfl, ⟨Nat.le_of_ble_eq_true rfl, Nat.le_of_ble_eq_true rfl⟩, ⟨rfl, rfl⟩, ⟨Nat.le_of_ble_eq_true rfl, Nat.le_of_ble_eq_true rfl⟩, Nat.le_of_ble_eq_true rfl, rfl, rfl⟩ rfl rfl rfl
  refine j_imul (v := (nI (k / (nn s p))) * (gL s p (6 + way))) dX0_addressOf_38 (rfl) ?_
  refine j_istore (lv2 := [(0, .ref (E 0)), (1, .int (nI p)), (2, .int (nI k)), (3, .int (nI way)), (4, .int (nI (nn s p))), (5, .int (gL s p way)), (6, .int ((nI (k / (nn s p))) * (gL s p (6 + way))))]) dX0_addressOf_39 (by decide) [1, 2, 3, 4, 5, 6, 0] rfl ?_
  refine j_iload_n dX0_addressOf_41 2 rfl ?_
  refine j_iload dX0_addressOf_42 4 rfl ?_
  refine j_irem (v := nI (k % (nn s p))) dX0_addressOf_44 (nI_ne0 (by omega) (by omega)) (pk_rem (by omega) (by omega) (by omega)) ?_
  refine j_aload_n dX0_addressOf_45 0 rfl ?_
  refine j_iload_n dX0_addressOf_46 1 rfl ?_
  refine j_iconst (v := nI 3) dX0_addressOf_47 (by decide) ?_
  refine j_iload_n dX0_addressOf_48 3 rfl ?_
  refine j_iadd (v := nI (3 + way)) dX0_addressOf_49 (nI_add _ _) ?_
  refine j_V (w2 := EW D E s) (st2 := [.int (gL s p (3 + way)), .int (nI (k % (nn s p)))]) (c_X0_ofLetter E s p (3 + way) (by omega) (by omega)) rfl cw_X0_40 dX0_addressOf_50 [.int (nI (k % (nn s p)))] rfl [0, 1, 2, 3, 4] rfl rfl rfl 0 ?_ ⟨rfl, ⟨Nat.le_of_ble_eq_true rfl, Nat.le_of_ble_eq_true rfl⟩, ⟨rfl, rfl⟩, ⟨Nat.le_of_ble_eq_true rfl, Nat.le_of_ble_eq_true rfl⟩, Nat.le_of_ble_eq_true rfl, rfl, rfl⟩ rfl rfl rfl
  refine j_imul (v := (nI (k % (nn s p))) * (gL s p (3 + way))) dX0_addressOf_53 (rfl) ?_
  refine j_istore (lv2 := [(0, .ref (E 0)), (1, .int (nI p)), (2, .int (nI k)), (3, .int (nI way)), (4, .int (nI (nn s p))), (5, .int (gL s p way)), (6, .int ((nI (k / (nn s p))) * (gL s p (6 + way)))), (7, .int ((nI (k % (nn s p))) * (gL s p (3 + way))))]) dX0_addressOf_54 (by decide) [1, 2, 3, 4, 5, 6, 7, 0] rfl ?_
  refine j_iload dX0_addressOf_56 5 rfl ?_
  refine j_iload dX0_addressOf_58 6 rfl ?_
  refine j_iadd (v := (gL s p way) + ((nI (k / (nn s p))) * (gL s p (6 + way)))) dX0_addressOf_60 (rfl) ?_
  refine j_iload dX0_addressOf_61 7 rfl ?_
  refine j_iadd (v := ((gL s p way) + ((nI (k / (nn s p))) * (gL s p (6 + way)))) + ((nI (k % (nn s p))) * (gL s p (3 + way)))) dX0_addressOf_63 (rfl) ?_
  refine j_bipush (v := nI 64) dX0_addressOf_64 (by decide) ?_
  refine j_S (w2 := EW D E s) (st2 := [.int (nI (am (((gL s p way) + ((nI (k / (nn s p))) * (gL s p (6 + way)))) + ((nI (k % (nn s p))) * (gL s p (3 + way))))))]) (c_J9_floorMod_7cf53 (((gL s p way) + ((nI (k / (nn s p))) * (gL s p (6 + way)))) + ((nI (k % (nn s p))) * (gL s p (3 + way))))) rfl cw_X0_44 dX0_addressOf_66 [] rfl [] rfl rfl rfl ?_ ⟨rfl, ⟨Nat.le_of_ble_eq_true rfl, Nat.le_of_ble_eq_true rfl⟩, ⟨rfl, rfl⟩, ⟨Nat.le_of_ble_eq_true rfl, Nat.le_of_ble_eq_true rfl⟩, Nat.le_of_ble_eq_true rfl, rfl, rfl⟩
  exact j_iret dX0_addressOf_69 ⟨rfl, rfl⟩ ⟨rfl, rfl⟩

set_option maxHeartbeats 4000000 in
set_option maxRecDepth 100000 in
theorem c_X0_presentOf (E : Nat → Nat) (s : SS) (hI : Inv s) (c : Nat) (hc : c < 4) : Ct D yX0_presentOf cX0_presentOf 3 (some .int) ({ frames := 1, cells := 0, slots := 0, locals := 22 } : Room) [.ref (E 0), .int (nI c)] (EW D E s) (fun v_ u_ => v_ = some (.int (oN (prs s c))) ∧ u_ = EW D E s) := by
  have hpl := hI.pl_ hc
  refine ct_of (by decide) (Nat.le_of_ble_eq_true rfl) (lv0 := [(0, .ref (E 0)), (1, .int (nI c))]) rfl (fun Γ => ?_)
  refine j_iload_n dX0_presentOf_0 1 rfl ?_
  refine j_aload_n dX0_presentOf_1 0 rfl ?_
  refine j_iload_n dX0_presentOf_2 1 rfl ?_
  refine j_iconst (v := nI 4) dX0_presentOf_3 (by decide) ?_
  refine j_V (w2 := EW D E s) (st2 := [.int (gC s c 4), .int (nI c)]) (c_X0_ofChannel E s c 4 (by omega) (by omega)) rfl cw_X0_73 dX0_presentOf_4 [.int (nI c)] rfl [0, 1, 2, 3, 4] rfl rfl rfl 0 ?_ ⟨rfl, ⟨Nat.le_of_ble_eq_true rfl, Nat.le_of_ble_eq_true rfl⟩, ⟨rfl, rfl⟩, ⟨Nat.le_of_ble_eq_true rfl, Nat.le_of_ble_eq_true rfl⟩, Nat.le_of_ble_eq_true rfl, rfl, rfl⟩ rfl rfl rfl
  refine j_topi (v := nI (hd s c)) ((hI.hd_ hc).1) ?_
  refine j_S (w2 := EW D E s) (st2 := [.int (nI (c * 6 + (hd s c)))]) (c_X0_placeOf c (hd s c)) rfl cw_X0_64 dX0_presentOf_7 [] rfl [] rfl rfl rfl ?_ ⟨rfl, ⟨Nat.le_of_ble_eq_true rfl, Nat.le_of_ble_eq_true rfl⟩, ⟨rfl, rfl⟩, ⟨Nat.le_of_ble_eq_true rfl, Nat.le_of_ble_eq_true rfl⟩, Nat.le_of_ble_eq_true rfl, rfl, rfl⟩
  refine j_topi (v := nI (pl s c)) (rfl) ?_
  refine j_istore_n (lv2 := [(0, .ref (E 0)), (1, .int (nI c)), (2, .int (nI (pl s c)))]) dX0_presentOf_10 (by decide) [1, 2, 0] rfl ?_
  refine j_aload_n dX0_presentOf_11 0 rfl ?_
  refine j_iload_n dX0_presentOf_12 2 rfl ?_
  refine j_V (w2 := EW D E s) (st2 := [.int (bI (tc s (pl s c)))]) (c_X0_isToCarry E s (pl s c) (by omega)) rfl cw_X0_57 dX0_presentOf_13 [] rfl [0, 1, 2, 3, 4] rfl rfl rfl 0 ?_ ⟨rfl, ⟨Nat.le_of_ble_eq_true rfl, Nat.le_of_ble_eq_true rfl⟩, ⟨rfl, rfl⟩, ⟨Nat.le_of_ble_eq_true rfl, Nat.le_of_ble_eq_true rfl⟩, Nat.le_of_ble_eq_true rfl, rfl, rfl⟩ rfl rfl rfl
  refine j_if_eq_B (tgt := 23) dX0_presentOf_16 (by decide) (fun h16 => ?_) (fun h16 => ?_)
  · skip
    refine j_bipush (v := (-9)) dX0_presentOf_23 (by decide) ?_
    exact j_iret dX0_presentOf_25 ⟨rfl, rfl⟩ ⟨by rw [prs_f h16]; rfl, rfl⟩
  · skip
    refine j_iload_n dX0_presentOf_19 2 rfl ?_
    refine j_goto (tgt := 25) dX0_presentOf_20 (by decide) ?_
    exact j_iret dX0_presentOf_25 ⟨rfl, rfl⟩ ⟨by rw [prs_t h16]; rfl, rfl⟩

set_option maxHeartbeats 4000000 in
set_option maxRecDepth 100000 in
theorem c_X0_isReady (E : Nat → Nat) (s : SS) (hI : Inv s) (c : Nat) (hc : c < 4) : Ct D yX0_isReady cX0_isReady 3 (some .boolean) ({ frames := 2, cells := 0, slots := 0, locals := 44 } : Room) [.ref (E 0), .int (nI c)] (EW D E s) (fun v_ u_ => v_ = some (.int (bI (rdy s c))) ∧ u_ = EW D E s) := by
  have hpl := hI.pl_ hc
  refine ct_of (by decide) (Nat.le_of_ble_eq_true rfl) (lv0 := [(0, .ref (E 0)), (1, .int (nI c))]) rfl (fun Γ => ?_)
  refine j_aload_n dX0_isReady_0 0 rfl ?_
  refine j_iload_n dX0_isReady_1 1 rfl ?_
  refine j_V (w2 := EW D E s) (st2 := [.int (oN (prs s c))]) (c_X0_presentOf E s hI c (by omega)) rfl cw_X0_76 dX0_isReady_2 [] rfl [0, 1, 2, 3, 4] rfl rfl rfl 0 ?_ ⟨rfl, ⟨Nat.le_of_ble_eq_true rfl, Nat.le_of_ble_eq_true rfl⟩, ⟨rfl, rfl⟩, ⟨Nat.le_of_ble_eq_true rfl, Nat.le_of_ble_eq_true rfl⟩, Nat.le_of_ble_eq_true rfl, rfl, rfl⟩ rfl rfl rfl
  refine j_istore_n (lv2 := [(0, .ref (E 0)), (1, .int (nI c)), (2, .int (oN (prs s c)))]) dX0_isReady_5 (by decide) [1, 2, 0] rfl ?_
  rcases hpr : prs s c with _ | p
  · skip
    refine j_iload_n dX0_isReady_6 2 rfl ?_
    refine j_bipush (v := (-9)) dX0_isReady_7 (by decide) ?_
    refine j_icmp_eq (tgt := 21) dX0_isReady_9 (by decide) (fun h9 => ?_) (fun h9 => absurd rfl h9)
    refine j_iconst (v := nI 0) dX0_isReady_21 (by decide) ?_
    exact j_zret dX0_isReady_22 (rfl) ⟨rfl, rfl⟩ ⟨rv_f (rdy_f1 (prs_none hpr)), rfl⟩
  · skip
    obtain ⟨rfl, htc⟩ := prs_some hpr
    refine j_iload_n dX0_isReady_6 2 rfl ?_
    refine j_bipush (v := (-9)) dX0_isReady_7 (by decide) ?_
    refine j_icmp_eq (tgt := 21) dX0_isReady_9 (by decide) (fun h9 => absurd h9 (nI_m9 (by omega))) (fun h9 => ?_)
    refine j_aload_n dX0_isReady_12 0 rfl ?_
    refine j_iload_n dX0_isReady_13 1 rfl ?_
    refine j_iconst (v := nI 0) dX0_isReady_14 (by decide) ?_
    refine j_V (w2 := EW D E s) (st2 := [.int (gC s c 0)]) (c_X0_ofChannel E s c 0 (by omega) (by omega)) rfl cw_X0_73 dX0_isReady_15 [] rfl [0, 1, 2, 3, 4] rfl rfl rfl 0 ?_ ⟨rfl, ⟨Nat.le_of_ble_eq_true rfl, Nat.le_of_ble_eq_true rfl⟩, ⟨rfl, rfl⟩, ⟨Nat.le_of_ble_eq_true rfl, Nat.le_of_ble_eq_true rfl⟩, Nat.le_of_ble_eq_true rfl, rfl, rfl⟩ rfl rfl rfl
    refine j_if_ne (tgt := 23) dX0_isReady_18 (by decide) (fun h18 => ?_) (fun h18 => ?_)
    · skip
      refine j_aload_n dX0_isReady_23 0 rfl ?_
      refine g_X0_24 rfl dX0_isReady_24 0 rfl rfl ?_
      refine j_iconst (v := nI 4) dX0_isReady_27 (by decide) ?_
      refine j_icmp_lt (tgt := 47) dX0_isReady_28 (by decide) (fun h28 => ?_) (fun h28 => absurd hI.q4 h28)
      refine j_iconst (v := nI 1) dX0_isReady_47 (by decide) ?_
      refine j_goto (tgt := 52) dX0_isReady_48 (by decide) ?_
      exact j_zret dX0_isReady_52 (rfl) ⟨rfl, rfl⟩ ⟨rv_t (rdy_t htc hI hc h18), rfl⟩
    · skip
      refine j_iconst (v := nI 0) dX0_isReady_21 (by decide) ?_
      exact j_zret dX0_isReady_22 (rfl) ⟨rfl, rfl⟩ ⟨rv_f (rdy_f2 h18), rfl⟩

set_option maxHeartbeats 4000000 in
set_option maxRecDepth 100000 in
theorem c_X0_nextToGrant (E : Nat → Nat) (s : SS) (hI : Inv s) : Ct D yX0_nextToGrant cX0_nextToGrant 4 (some .int) ({ frames := 3, cells := 0, slots := 0, locals := 66 } : Room) [.ref (E 0)] (EW D E s) (fun v_ u_ => v_ = some (.int (oN (who s))) ∧ u_ = EW D E s) := by
  have hl := hI.lst_.2
  refine ct_of (by decide) (Nat.le_of_ble_eq_true rfl) (lv0 := [(0, .ref (E 0))]) rfl (fun Γ => ?_)
  refine j_bipush (v := (-9)) dX0_nextToGrant_0 (by decide) ?_
  refine j_istore_n (lv2 := [(0, .ref (E 0)), (1, .int (-9))]) dX0_nextToGrant_2 (by decide) [1, 0] rfl ?_
  refine j_iconst (v := nI 1) dX0_nextToGrant_3 (by decide) ?_
  refine j_istore_n (lv2 := [(0, .ref (E 0)), (1, .int (-9)), (2, .int (nI 1))]) dX0_nextToGrant_4 (by decide) [1, 2, 0] rfl ?_
  have L5 : ∀ (fuel : Nat) (i : Nat), i ≤ 4 → 4 - i < fuel → J D Γ yX0_nextToGrant cX0_nextToGrant 4 (some .int) ({ frames := 3, cells := 0, slots := 0, locals := 66 } : Room) (Qf D Γ ({ frames := 3, cells := 0, slots := 0, locals := 66 } : Room) (fun v_ u_ => v_ = some (.int (oN (who s))) ∧ u_ = EW D E s)) 0 0 (EW D E s) 5 [(0, .ref (E 0)), (1, .int (oN (whoN s i))), (2, .int (nI (i + 1)))] [] := by
    intro fuel
    induction fuel with
    | zero => intro i hi hm; exact absurd hm (Nat.not_lt_zero _)
    | succ fuel ih =>
      intro i hi hm
      have hc4 : (lst s + (i + 1)) % 4 < 4 := Nat.mod_lt _ (by decide)
      refine j_iload_n dX0_nextToGrant_5 2 rfl ?_
      refine j_iconst (v := nI 4) dX0_nextToGrant_6 (by decide) ?_
      refine j_icmp_gt_N (tgt := 56) dX0_nextToGrant_7 (by decide) ⟨by omega, by omega⟩ (fun h7 => ?_) (fun h7 => ?_)
      · skip
        refine j_iload_n dX0_nextToGrant_56 1 rfl ?_
        exact j_iret dX0_nextToGrant_57 ⟨rfl, rfl⟩ ⟨by have e : i = 4   := (by omega); subst e; rfl, rfl⟩
      · skip
        refine j_aload_n dX0_nextToGrant_10 0 rfl ?_
        refine g_X0_28 rfl dX0_nextToGrant_11 0 rfl rfl ?_
        refine j_topi (v := nI (lst s)) (hI.lst_.1) ?_
        refine j_iload_n dX0_nextToGrant_14 2 rfl ?_
        refine j_iadd (v := nI (lst s + (i + 1))) dX0_nextToGrant_15 (nI_add _ _) ?_
        refine j_iconst (v := nI 4) dX0_nextToGrant_16 (by decide) ?_
        refine j_irem (v := nI ((lst s + (i + 1)) % 4)) dX0_nextToGrant_17 (by decide) (pk_rem (by omega) (by omega) (by omega)) ?_
        refine j_istore_n (lv2 := [(0, .ref (E 0)), (1, .int (oN (whoN s i))), (2, .int (nI (i + 1))), (3, .int (nI ((lst s + (i + 1)) % 4)))]) dX0_nextToGrant_18 (by decide) [1, 2, 3, 0] rfl ?_
        refine j_aload_n dX0_nextToGrant_19 0 rfl ?_
        refine j_iload_n dX0_nextToGrant_20 3 rfl ?_
        refine j_V (w2 := EW D E s) (st2 := [.int (bI (rdy s ((lst s + (i + 1)) % 4)))]) (c_X0_isReady E s hI ((lst s + (i + 1)) % 4) (by omega)) rfl cw_X0_117 dX0_nextToGrant_21 [] rfl [0, 1, 2, 3, 4] rfl rfl rfl 0 ?_ ⟨rfl, ⟨Nat.le_of_ble_eq_true rfl, Nat.le_of_ble_eq_true rfl⟩, ⟨rfl, rfl⟩, ⟨Nat.le_of_ble_eq_true rfl, Nat.le_of_ble_eq_true rfl⟩, Nat.le_of_ble_eq_true rfl, rfl, rfl⟩ rfl rfl rfl
        refine j_if_eq_B (tgt := 50) dX0_nextToGrant_24 (by decide) (fun h24 => ?_) (fun h24 => ?_)
        · skip
          refine j_iinc (v := nI (i + 1 + 1)) (lv2 := [(0, .ref (E 0)), (1, .int (oN (whoN s i))), (2, .int (nI (i + 1 + 1))), (3, .int (nI ((lst s + (i + 1)) % 4)))]) dX0_nextToGrant_50 2 rfl (nI_1 _) (by decide) [1, 2, 0, 3] rfl ?_
          refine j_goto (tgt := 5) dX0_nextToGrant_53 (by decide) ?_
          refine j_lv (lv2 := [(0, .ref (E 0)), (1, .int (oN (whoN s i))), (2, .int (nI (i + 1 + 1)))]) [0, 1, 2] rfl ?_
          have hh := ih (i + 1) (by omega) (by omega)
          rw [show whoN s (i + 1) = whoN s i from wst_n h24] at hh
          exact hh
        · skip
          rcases hb : whoN s i with _ | d
          · skip
            refine j_iload_n dX0_nextToGrant_27 1 rfl ?_
            refine j_bipush (v := (-9)) dX0_nextToGrant_28 (by decide) ?_
            refine j_icmp_eq (tgt := 48) dX0_nextToGrant_30 (by decide) (fun h30 => ?_) (fun h30 => absurd rfl h30)
            refine j_iload_n dX0_nextToGrant_48 3 rfl ?_
            refine j_istore_n (lv2 := [(0, .ref (E 0)), (1, .int (nI ((lst s + (i + 1)) % 4))), (2, .int (nI (i + 1))), (3, .int (nI ((lst s + (i + 1)) % 4)))]) dX0_nextToGrant_49 (by decide) [1, 0, 2, 3] rfl ?_
            refine j_iinc (v := nI (i + 1 + 1)) (lv2 := [(0, .ref (E 0)), (1, .int (nI ((lst s + (i + 1)) % 4))), (2, .int (nI (i + 1 + 1))), (3, .int (nI ((lst s + (i + 1)) % 4)))]) dX0_nextToGrant_50 2 rfl (nI_1 _) (by decide) [1, 2, 0, 3] rfl ?_
            refine j_goto (tgt := 5) dX0_nextToGrant_53 (by decide) ?_
            refine j_lv (lv2 := [(0, .ref (E 0)), (1, .int (nI ((lst s + (i + 1)) % 4))), (2, .int (nI (i + 1 + 1)))]) [0, 1, 2] rfl ?_
            have hh := ih (i + 1) (by omega) (by omega)
            rw [show whoN s (i + 1) = some ((lst s + (i + 1)) % 4) from (by show wst s (whoN s i) _ = some ((lst s + (i + 1)) % 4); rw [hb]; exact wst_0 h24)] at hh
            exact hh
          · skip
            have hd4 := whoN_lt s i d hb
            refine j_iload_n dX0_nextToGrant_27 1 rfl ?_
            refine j_bipush (v := (-9)) dX0_nextToGrant_28 (by decide) ?_
            refine j_icmp_eq (tgt := 48) dX0_nextToGrant_30 (by decide) (fun h30 => absurd h30 (nI_m9 (by omega))) (fun h30 => ?_)
            refine j_aload_n dX0_nextToGrant_33 0 rfl ?_
            refine j_iload_n dX0_nextToGrant_34 3 rfl ?_
            refine j_iconst (v := nI 1) dX0_nextToGrant_35 (by decide) ?_
            refine j_V (w2 := EW D E s) (st2 := [.int (gC s ((lst s + (i + 1)) % 4) 1)]) (c_X0_ofChannel E s ((lst s + (i + 1)) % 4) 1 (by omega) (by omega)) rfl cw_X0_73 dX0_nextToGrant_36 [] rfl [0, 1, 2, 3, 4] rfl rfl rfl 0 ?_ ⟨rfl, ⟨Nat.le_of_ble_eq_true rfl, Nat.le_of_ble_eq_true rfl⟩, ⟨rfl, rfl⟩, ⟨Nat.le_of_ble_eq_true rfl, Nat.le_of_ble_eq_true rfl⟩, Nat.le_of_ble_eq_true rfl, rfl, rfl⟩ rfl rfl rfl
            refine j_aload_n dX0_nextToGrant_39 0 rfl ?_
            refine j_iload_n dX0_nextToGrant_40 1 rfl ?_
            refine j_iconst (v := nI 1) dX0_nextToGrant_41 (by decide) ?_
            refine j_V (w2 := EW D E s) (st2 := [.int (gC s d 1), .int (gC s ((lst s + (i + 1)) % 4) 1)]) (c_X0_ofChannel E s d 1 (by omega) (by omega)) rfl cw_X0_73 dX0_nextToGrant_42 [.int (gC s ((lst s + (i + 1)) % 4) 1)] rfl [0, 1, 2, 3, 4] rfl rfl rfl 0 ?_ ⟨rfl, ⟨Nat.le_of_ble_eq_true rfl, Nat.le_of_ble_eq_true rfl⟩, ⟨rfl, rfl⟩, ⟨Nat.le_of_ble_eq_true rfl, Nat.le_of_ble_eq_true rfl⟩, Nat.le_of_ble_eq_true rfl, rfl, rfl⟩ rfl rfl rfl
            refine j_icmp_le (tgt := 50) dX0_nextToGrant_45 (by decide) (fun h45 => ?_) (fun h45 => ?_)
            · skip
              refine j_iinc (v := nI (i + 1 + 1)) (lv2 := [(0, .ref (E 0)), (1, .int (nI d)), (2, .int (nI (i + 1 + 1))), (3, .int (nI ((lst s + (i + 1)) % 4)))]) dX0_nextToGrant_50 2 rfl (nI_1 _) (by decide) [1, 2, 0, 3] rfl ?_
              refine j_goto (tgt := 5) dX0_nextToGrant_53 (by decide) ?_
              refine j_lv (lv2 := [(0, .ref (E 0)), (1, .int (nI d)), (2, .int (nI (i + 1 + 1)))]) [0, 1, 2] rfl ?_
              have hh := ih (i + 1) (by omega) (by omega)
              rw [show whoN s (i + 1) = some d from (by show wst s (whoN s i) _ = some d; rw [hb]; exact wst_no (Int32.not_lt.mpr h45))] at hh
              exact hh
            · skip
              refine j_iload_n dX0_nextToGrant_48 3 rfl ?_
              refine j_istore_n (lv2 := [(0, .ref (E 0)), (1, .int (nI ((lst s + (i + 1)) % 4))), (2, .int (nI (i + 1))), (3, .int (nI ((lst s + (i + 1)) % 4)))]) dX0_nextToGrant_49 (by decide) [1, 0, 2, 3] rfl ?_
              refine j_iinc (v := nI (i + 1 + 1)) (lv2 := [(0, .ref (E 0)), (1, .int (nI ((lst s + (i + 1)) % 4))), (2, .int (nI (i + 1 + 1))), (3, .int (nI ((lst s + (i + 1)) % 4)))]) dX0_nextToGrant_50 2 rfl (nI_1 _) (by decide) [1, 2, 0, 3] rfl ?_
              refine j_goto (tgt := 5) dX0_nextToGrant_53 (by decide) ?_
              refine j_lv (lv2 := [(0, .ref (E 0)), (1, .int (nI ((lst s + (i + 1)) % 4))), (2, .int (nI (i + 1 + 1)))]) [0, 1, 2] rfl ?_
              have hh := ih (i + 1) (by omega) (by omega)
              rw [show whoN s (i + 1) = some ((lst s + (i + 1)) % 4) from (by show wst s (whoN s i) _ = some ((lst s + (i + 1)) % 4); rw [hb]; exact wst_y h24 (Int32.not_le.mp h45))] at hh
              exact hh
  exact L5 5 0 (by omega) (by omega)

set_option maxHeartbeats 4000000 in
set_option maxRecDepth 100000 in
theorem c_X0_engineLettersOf (E : Nat → Nat) (s : SS) (c : Nat) (hc : c < 4) : Ct D yX0_engineLettersOf cX0_engineLettersOf 4 (some .int) ({ frames := 2, cells := 0, slots := 0, locals := 43 } : Room) [.ref (E 0), .int (nI c)] (EW D E s) (fun v_ u_ => v_ = some (.int (nI (elo s c))) ∧ u_ = EW D E s) := by
  refine ct_of (by decide) (Nat.le_of_ble_eq_true rfl) (lv0 := [(0, .ref (E 0)), (1, .int (nI c))]) rfl (fun Γ => ?_)
  refine j_iconst (v := nI 0) dX0_engineLettersOf_0 (by decide) ?_
  refine j_istore_n (lv2 := [(0, .ref (E 0)), (1, .int (nI c)), (2, .int (nI 0))]) dX0_engineLettersOf_1 (by decide) [1, 2, 0] rfl ?_
  refine j_iconst (v := nI 0) dX0_engineLettersOf_2 (by decide) ?_
  refine j_istore_n (lv2 := [(0, .ref (E 0)), (1, .int (nI c)), (2, .int (nI 0)), (3, .int (nI 0))]) dX0_engineLettersOf_3 (by decide) [1, 2, 3, 0] rfl ?_
  have L4 : ∀ (fuel : Nat) (j : Nat), j ≤ 6 → 6 - j < fuel → J D Γ yX0_engineLettersOf cX0_engineLettersOf 4 (some .int) ({ frames := 2, cells := 0, slots := 0, locals := 43 } : Room) (Qf D Γ ({ frames := 2, cells := 0, slots := 0, locals := 43 } : Room) (fun v_ u_ => v_ = some (.int (nI (elo s c))) ∧ u_ = EW D E s)) 0 0 (EW D E s) 4 [(0, .ref (E 0)), (1, .int (nI c)), (2, .int (nI (cnt (fun j => eng s (c * 6 + j)) j))), (3, .int (nI j))] [] := by
    intro fuel
    induction fuel with
    | zero => intro j hj hm; exact absurd hm (Nat.not_lt_zero _)
    | succ fuel ih =>
      intro j hj hm
      have hcn := cnt_le (fun j => eng s (c * 6 + j)) j
      refine j_iload_n dX0_engineLettersOf_4 3 rfl ?_
      refine j_bipush (v := nI 6) dX0_engineLettersOf_5 (by decide) ?_
      refine j_icmp_ge_N (tgt := 31) dX0_engineLettersOf_7 (by decide) ⟨by omega, by omega⟩ (fun h7 => ?_) (fun h7 => ?_)
      · skip
        refine j_iload_n dX0_engineLettersOf_31 2 rfl ?_
        exact j_iret dX0_engineLettersOf_32 ⟨rfl, rfl⟩ ⟨congrArg (fun z => some (Value.int (nI z))) (by have e : j = 6   := (by omega); subst e; rfl), rfl⟩
      · skip
        refine j_aload_n dX0_engineLettersOf_10 0 rfl ?_
        refine j_iload_n dX0_engineLettersOf_11 1 rfl ?_
        refine j_iload_n dX0_engineLettersOf_12 3 rfl ?_
        refine j_S (w2 := EW D E s) (st2 := [.int (nI (c * 6 + j)), .ref (E 0)]) (c_X0_placeOf c j) rfl cw_X0_64 dX0_engineLettersOf_13 [.ref (E 0)] rfl [] rfl rfl rfl ?_ ⟨rfl, ⟨Nat.le_of_ble_eq_true rfl, Nat.le_of_ble_eq_true rfl⟩, ⟨rfl, rfl⟩, ⟨Nat.le_of_ble_eq_true rfl, Nat.le_of_ble_eq_true rfl⟩, Nat.le_of_ble_eq_true rfl, rfl, rfl⟩
        refine j_V (w2 := EW D E s) (st2 := [.int (bI (eng s (c * 6 + j)))]) (c_X0_isEngines E s (c * 6 + j) (by omega)) rfl cw_X0_67 dX0_engineLettersOf_16 [] rfl [0, 1, 2, 3, 4] rfl rfl rfl 0 ?_ ⟨rfl, ⟨Nat.le_of_ble_eq_true rfl, Nat.le_of_ble_eq_true rfl⟩, ⟨rfl, rfl⟩, ⟨Nat.le_of_ble_eq_true rfl, Nat.le_of_ble_eq_true rfl⟩, Nat.le_of_ble_eq_true rfl, rfl, rfl⟩ rfl rfl rfl
        refine j_if_eq_B (tgt := 25) dX0_engineLettersOf_19 (by decide) (fun h19 => ?_) (fun h19 => ?_)
        · skip
          refine j_iinc (v := nI (j + 1)) (lv2 := [(0, .ref (E 0)), (1, .int (nI c)), (2, .int (nI (cnt (fun j => eng s (c * 6 + j)) j))), (3, .int (nI (j + 1)))]) dX0_engineLettersOf_25 3 rfl (nI_1 _) (by decide) [1, 2, 3, 0] rfl ?_
          refine j_goto (tgt := 4) dX0_engineLettersOf_28 (by decide) ?_
          have hh := ih (j + 1) (by omega) (by omega)
          rw [cnt_f (f := (fun j => eng s (c * 6 + j))) h19] at hh
          exact hh
        · skip
          refine j_iinc (v := nI (cnt (fun j => eng s (c * 6 + j)) j + 1)) (lv2 := [(0, .ref (E 0)), (1, .int (nI c)), (2, .int (nI (cnt (fun j => eng s (c * 6 + j)) j + 1))), (3, .int (nI j))]) dX0_engineLettersOf_22 2 rfl (nI_1 _) (by decide) [1, 2, 0, 3] rfl ?_
          refine j_iinc (v := nI (j + 1)) (lv2 := [(0, .ref (E 0)), (1, .int (nI c)), (2, .int (nI (cnt (fun j => eng s (c * 6 + j)) j + 1))), (3, .int (nI (j + 1)))]) dX0_engineLettersOf_25 3 rfl (nI_1 _) (by decide) [1, 2, 3, 0] rfl ?_
          refine j_goto (tgt := 4) dX0_engineLettersOf_28 (by decide) ?_
          have hh := ih (j + 1) (by omega) (by omega)
          rw [cnt_t (f := (fun j => eng s (c * 6 + j))) h19] at hh
          exact hh
  exact L4 7 0 (by omega) (by omega)

set_option maxHeartbeats 4000000 in
set_option maxRecDepth 100000 in
theorem c_X0_engineLetters (E : Nat → Nat) (s : SS) : Ct D yX0_engineLetters cX0_engineLetters 3 (some .int) ({ frames := 3, cells := 0, slots := 0, locals := 66 } : Room) [.ref (E 0)] (EW D E s) (fun v_ u_ => v_ = some (.int (nI (els s 4))) ∧ u_ = EW D E s) := by
  refine ct_of (by decide) (Nat.le_of_ble_eq_true rfl) (lv0 := [(0, .ref (E 0))]) rfl (fun Γ => ?_)
  refine j_iconst (v := nI 0) dX0_engineLetters_0 (by decide) ?_
  refine j_istore_n (lv2 := [(0, .ref (E 0)), (1, .int (nI 0))]) dX0_engineLetters_1 (by decide) [1, 0] rfl ?_
  refine j_iconst (v := nI 0) dX0_engineLetters_2 (by decide) ?_
  refine j_istore_n (lv2 := [(0, .ref (E 0)), (1, .int (nI 0)), (2, .int (nI 0))]) dX0_engineLetters_3 (by decide) [1, 2, 0] rfl ?_
  have L4 : ∀ (fuel : Nat) (i : Nat), i ≤ 4 → 4 - i < fuel → J D Γ yX0_engineLetters cX0_engineLetters 3 (some .int) ({ frames := 3, cells := 0, slots := 0, locals := 66 } : Room) (Qf D Γ ({ frames := 3, cells := 0, slots := 0, locals := 66 } : Room) (fun v_ u_ => v_ = some (.int (nI (els s 4))) ∧ u_ = EW D E s)) 0 0 (EW D E s) 4 [(0, .ref (E 0)), (1, .int (nI (els s i))), (2, .int (nI i))] [] := by
    intro fuel
    induction fuel with
    | zero => intro i hi hm; exact absurd hm (Nat.not_lt_zero _)
    | succ fuel ih =>
      intro i hi hm
      refine j_iload_n dX0_engineLetters_4 2 rfl ?_
      refine j_iconst (v := nI 4) dX0_engineLetters_5 (by decide) ?_
      refine j_icmp_ge_N (tgt := 23) dX0_engineLetters_6 (by decide) ⟨by omega, by omega⟩ (fun h6 => ?_) (fun h6 => ?_)
      · skip
        refine j_iload_n dX0_engineLetters_23 1 rfl ?_
        exact j_iret dX0_engineLetters_24 ⟨rfl, rfl⟩ ⟨congrArg (fun z => some (Value.int (nI z))) (by have e : i = 4   := (by omega); subst e; rfl), rfl⟩
      · skip
        refine j_iload_n dX0_engineLetters_9 1 rfl ?_
        refine j_aload_n dX0_engineLetters_10 0 rfl ?_
        refine j_iload_n dX0_engineLetters_11 2 rfl ?_
        refine j_V (w2 := EW D E s) (st2 := [.int (nI (elo s i)), .int (nI (els s i))]) (c_X0_engineLettersOf E s i (by omega)) rfl cw_X0_70 dX0_engineLetters_12 [.int (nI (els s i))] rfl [0, 1, 2, 3, 4] rfl rfl rfl 0 ?_ ⟨rfl, ⟨Nat.le_of_ble_eq_true rfl, Nat.le_of_ble_eq_true rfl⟩, ⟨rfl, rfl⟩, ⟨Nat.le_of_ble_eq_true rfl, Nat.le_of_ble_eq_true rfl⟩, Nat.le_of_ble_eq_true rfl, rfl, rfl⟩ rfl rfl rfl
        refine j_iadd (v := nI (els s i + (elo s i))) dX0_engineLetters_15 (nI_add _ _) ?_
        refine j_istore_n (lv2 := [(0, .ref (E 0)), (1, .int (nI (els s i + (elo s i)))), (2, .int (nI i))]) dX0_engineLetters_16 (by decide) [1, 0, 2] rfl ?_
        refine j_iinc (v := nI (i + 1)) (lv2 := [(0, .ref (E 0)), (1, .int (nI (els s i + (elo s i)))), (2, .int (nI (i + 1)))]) dX0_engineLetters_17 2 rfl (nI_1 _) (by decide) [1, 2, 0] rfl ?_
        refine j_goto (tgt := 4) dX0_engineLetters_20 (by decide) ?_
        exact ih (i + 1) (by omega) (by omega)
  exact L4 5 0 (by omega) (by omega)

set_option maxHeartbeats 4000000 in
set_option maxRecDepth 100000 in
theorem c_X0_copyFrom (E F : Nat → Nat) (s t : SS) : Ct D yX0_copyFrom cX0_copyFrom 2 none ({ frames := 1, cells := 0, slots := 0, locals := 60 } : Room) [.ref (E 0), .ref (F 0)] ((EW D E s) ++ (EW D F t)) (fun v_ u_ => v_ = none ∧ u_ = (EW D E t) ++ (EW D F t)) := by
  refine ct_of (by decide) (Nat.le_of_ble_eq_true rfl) (lv0 := [(0, .ref (E 0)), (1, .ref (F 0))]) rfl (fun Γ => ?_)
  refine j_aload_n dX0_copyFrom_0 1 rfl ?_
  refine g_X0_9 rfl dX0_copyFrom_1 5 rfl rfl ?_
  refine j_iconst (v := nI 0) dX0_copyFrom_4 (by decide) ?_
  refine j_aload_n dX0_copyFrom_5 0 rfl ?_
  refine g_X0_9 rfl dX0_copyFrom_6 0 rfl rfl ?_
  refine j_iconst (v := nI 0) dX0_copyFrom_9 (by decide) ?_
  refine j_aload_n dX0_copyFrom_10 0 rfl ?_
  refine g_X0_9 rfl dX0_copyFrom_11 0 rfl rfl ?_
  refine j_alen (v := nI 64) dX0_copyFrom_14 1 0 rfl rfl rfl ?_
  refine j_copy (w2 := (EX D E (vM t) (vC s) (vL s) (vQ s) (s 428) (s 453) (s 454)) ++ (EW D F t)) m_ml_X0_34 dX0_copyFrom_15 6 1 0 0 64 rfl rfl rfl rfl rfl (by decide) (by decide) (by decide) (Nat.le_of_ble_eq_true rfl) (Nat.le_of_ble_eq_true rfl) ⟨Nat.le_of_ble_eq_true rfl, Nat.le_of_ble_eq_true rfl⟩ (by rw [cpyM]; rfl) ?_
  refine j_aload_n dX0_copyFrom_18 1 rfl ?_
  refine g_X0_15 rfl dX0_copyFrom_19 5 rfl rfl ?_
  refine j_iconst (v := nI 0) dX0_copyFrom_22 (by decide) ?_
  refine j_aload_n dX0_copyFrom_23 0 rfl ?_
  refine g_X0_15 rfl dX0_copyFrom_24 0 rfl rfl ?_
  refine j_iconst (v := nI 0) dX0_copyFrom_27 (by decide) ?_
  refine j_aload_n dX0_copyFrom_28 0 rfl ?_
  refine g_X0_15 rfl dX0_copyFrom_29 0 rfl rfl ?_
  refine j_alen (v := nI 28) dX0_copyFrom_32 2 0 rfl rfl rfl ?_
  refine j_copy (w2 := (EX D E (vM t) (vC t) (vL s) (vQ s) (s 428) (s 453) (s 454)) ++ (EW D F t)) m_ml_X0_34 dX0_copyFrom_33 7 2 0 0 28 rfl rfl rfl rfl rfl (by decide) (by decide) (by decide) (Nat.le_of_ble_eq_true rfl) (Nat.le_of_ble_eq_true rfl) ⟨Nat.le_of_ble_eq_true rfl, Nat.le_of_ble_eq_true rfl⟩ (by rw [cpyC]; rfl) ?_
  refine j_aload_n dX0_copyFrom_36 1 rfl ?_
  refine g_X0_18 rfl dX0_copyFrom_37 5 rfl rfl ?_
  refine j_iconst (v := nI 0) dX0_copyFrom_40 (by decide) ?_
  refine j_aload_n dX0_copyFrom_41 0 rfl ?_
  refine g_X0_18 rfl dX0_copyFrom_42 0 rfl rfl ?_
  refine j_iconst (v := nI 0) dX0_copyFrom_45 (by decide) ?_
  refine j_aload_n dX0_copyFrom_46 0 rfl ?_
  refine g_X0_18 rfl dX0_copyFrom_47 0 rfl rfl ?_
  refine j_alen (v := nI 312) dX0_copyFrom_50 3 0 rfl rfl rfl ?_
  refine j_copy (w2 := (EX D E (vM t) (vC t) (vL t) (vQ s) (s 428) (s 453) (s 454)) ++ (EW D F t)) m_ml_X0_34 dX0_copyFrom_51 8 3 0 0 312 rfl rfl rfl rfl rfl (by decide) (by decide) (by decide) (Nat.le_of_ble_eq_true rfl) (Nat.le_of_ble_eq_true rfl) ⟨Nat.le_of_ble_eq_true rfl, Nat.le_of_ble_eq_true rfl⟩ (by rw [cpyL]; rfl) ?_
  refine j_aload_n dX0_copyFrom_54 1 rfl ?_
  refine g_X0_21 rfl dX0_copyFrom_55 5 rfl rfl ?_
  refine j_iconst (v := nI 0) dX0_copyFrom_58 (by decide) ?_
  refine j_aload_n dX0_copyFrom_59 0 rfl ?_
  refine g_X0_21 rfl dX0_copyFrom_60 0 rfl rfl ?_
  refine j_iconst (v := nI 0) dX0_copyFrom_63 (by decide) ?_
  refine j_aload_n dX0_copyFrom_64 0 rfl ?_
  refine g_X0_21 rfl dX0_copyFrom_65 0 rfl rfl ?_
  refine j_alen (v := nI 24) dX0_copyFrom_68 4 0 rfl rfl rfl ?_
  refine j_copy (w2 := (EX D E (vM t) (vC t) (vL t) (vQ t) (s 428) (s 453) (s 454)) ++ (EW D F t)) m_ml_X0_34 dX0_copyFrom_69 9 4 0 0 24 rfl rfl rfl rfl rfl (by decide) (by decide) (by decide) (Nat.le_of_ble_eq_true rfl) (Nat.le_of_ble_eq_true rfl) ⟨Nat.le_of_ble_eq_true rfl, Nat.le_of_ble_eq_true rfl⟩ (by rw [cpyQ]; rfl) ?_
  refine j_aload_n dX0_copyFrom_72 0 rfl ?_
  refine j_aload_n dX0_copyFrom_73 1 rfl ?_
  refine g_X0_24 rfl dX0_copyFrom_74 5 rfl rfl ?_
  refine p_X0_24 (w2 := (EX D E (vM t) (vC t) (vL t) (vQ t) (t 428) (s 453) (s 454)) ++ (EW D F t)) rfl dX0_copyFrom_77 0 rfl (Nat.le_of_ble_eq_true rfl) (rfl) ?_
  refine j_aload_n dX0_copyFrom_80 0 rfl ?_
  refine j_aload_n dX0_copyFrom_81 1 rfl ?_
  refine g_X0_28 rfl dX0_copyFrom_82 5 rfl rfl ?_
  refine p_X0_28 (w2 := (EX D E (vM t) (vC t) (vL t) (vQ t) (t 428) (t 453) (s 454)) ++ (EW D F t)) rfl dX0_copyFrom_85 0 rfl (Nat.le_of_ble_eq_true rfl) (rfl) ?_
  refine j_aload_n dX0_copyFrom_88 0 rfl ?_
  refine j_aload_n dX0_copyFrom_89 1 rfl ?_
  refine g_X0_31 rfl dX0_copyFrom_90 5 rfl rfl ?_
  refine p_X0_31 (w2 := (EX D E (vM t) (vC t) (vL t) (vQ t) (t 428) (t 453) (t 454)) ++ (EW D F t)) rfl dX0_copyFrom_93 0 rfl (Nat.le_of_ble_eq_true rfl) (rfl) ?_
  exact j_vret dX0_copyFrom_96 ⟨rfl, rfl⟩ ⟨rfl, rfl⟩

end EN2
