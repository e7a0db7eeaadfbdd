section EN1
variable {D : DX}
set_option maxHeartbeats 4000000 in
set_option maxRecDepth 100000 in
theorem c_X0_placeOf (c j : Nat) : Ct D yX0_placeOf cX0_placeOf 2 (some .int) ({ frames := 0, cells := 0, slots := 0, locals := 0 } : Room) [.int (nI c), .int (nI j)] (([] : va_W)) (fun v_ u_ => v_ = some (.int (nI (c * 6 + j))) ∧ u_ = ([] : va_W)) := by
  refine ct_of (by decide) (Nat.le_of_ble_eq_true rfl) (lv0 := [(0, .int (nI c)), (1, .int (nI j))]) rfl (fun Γ => ?_)
  refine j_iload_n dX0_placeOf_0 0 rfl ?_
  refine j_bipush (v := nI 6) dX0_placeOf_1 (by decide) ?_
  refine j_imul (v := nI (c * 6)) dX0_placeOf_3 (pk_mul _ _) ?_
  refine j_iload_n dX0_placeOf_4 1 rfl ?_
  refine j_iadd (v := nI (c * 6 + j)) dX0_placeOf_5 (nI_add _ _) ?_
  exact j_iret dX0_placeOf_6 ⟨rfl, rfl⟩ ⟨rfl, rfl⟩

set_option maxHeartbeats 4000000 in
set_option maxRecDepth 100000 in
theorem c_X0_slotBehind (j : Nat) (hj : j < 6) : Ct D yX0_slotBehind cX0_slotBehind 1 (some .int) ({ frames := 0, cells := 0, slots := 0, locals := 0 } : Room) [.int (nI j)] (([] : va_W)) (fun v_ u_ => v_ = some (.int (nI ((j + 1) % 6))) ∧ u_ = ([] : va_W)) := by
  refine ct_of (by decide) (Nat.le_of_ble_eq_true rfl) (lv0 := [(0, .int (nI j))]) rfl (fun Γ => ?_)
  refine j_iload_n dX0_slotBehind_0 0 rfl ?_
  refine j_iconst (v := nI 5) dX0_slotBehind_1 (by decide) ?_
  refine j_icmp_lt_N (tgt := 9) dX0_slotBehind_2 (by decide) ⟨by omega, by omega⟩ (fun h2 => ?_) (fun h2 => ?_)
  · skip
    refine j_iload_n dX0_slotBehind_9 0 rfl ?_
    refine j_iconst (v := nI 1) dX0_slotBehind_10 (by decide) ?_
    refine j_iadd (v := nI (j + 1)) dX0_slotBehind_11 (nI_add _ _) ?_
    exact j_iret dX0_slotBehind_12 ⟨rfl, rfl⟩ ⟨congrArg (fun z => some (Value.int (nI z))) (by omega), rfl⟩
  · skip
    refine j_iconst (v := nI 0) dX0_slotBehind_5 (by decide) ?_
    refine j_goto (tgt := 12) dX0_slotBehind_6 (by decide) ?_
    exact j_iret dX0_slotBehind_12 ⟨rfl, rfl⟩ ⟨congrArg (fun z => some (Value.int (nI z))) (by omega), rfl⟩

set_option maxHeartbeats 4000000 in
set_option maxRecDepth 100000 in
theorem c_X0_ofChannel (E : Nat → Nat) (s : SS) (c j : Nat) (hc : c < 4) (hj : j < 7) : Ct D yX0_ofChannel cX0_ofChannel 3 (some .int) ({ frames := 0, cells := 0, slots := 0, locals := 0 } : Room) [.ref (E 0), .int (nI c), .int (nI j)] (EW D E s) (fun v_ u_ => v_ = some (.int (gC s c j)) ∧ u_ = EW D E s) := by
  refine ct_of (by decide) (Nat.le_of_ble_eq_true rfl) (lv0 := [(0, .ref (E 0)), (1, .int (nI c)), (2, .int (nI j))]) rfl (fun Γ => ?_)
  refine j_aload_n dX0_ofChannel_0 0 rfl ?_
  refine g_X0_15 rfl dX0_ofChannel_1 0 rfl rfl ?_
  refine j_iload_n dX0_ofChannel_4 1 rfl ?_
  refine j_bipush (v := nI 7) dX0_ofChannel_5 (by decide) ?_
  refine j_imul (v := nI (c * 7)) dX0_ofChannel_7 (pk_mul _ _) ?_
  refine j_iload_n dX0_ofChannel_8 2 rfl ?_
  refine j_iadd (v := nI (c * 7 + j)) dX0_ofChannel_9 (nI_add _ _) ?_
  refine j_iald (v := gC s c j) dX0_ofChannel_10 2 (c * 7 + j) rfl (rfl) (by omega) (Nat.le_of_ble_eq_true rfl) (vC_at hc hj) ?_
  exact j_iret dX0_ofChannel_11 ⟨rfl, rfl⟩ ⟨rfl, rfl⟩

set_option maxHeartbeats 4000000 in
set_option maxRecDepth 100000 in
theorem c_X0_setChannel (E : Nat → Nat) (s : SS) (c j : Nat) (x : Int32) (hc : c < 4) (hj : j < 7) : Ct D yX0_setChannel cX0_setChannel 4 none ({ frames := 0, cells := 0, slots := 0, locals := 0 } : Room) [.ref (E 0), .int (nI c), .int (nI j), .int x] (EW D E s) (fun v_ u_ => v_ = none ∧ u_ = EW D E (upd s (64 + 7 * c + j) x)) := by
  refine ct_of (by decide) (Nat.le_of_ble_eq_true rfl) (lv0 := [(0, .ref (E 0)), (1, .int (nI c)), (2, .int (nI j)), (3, .int x)]) rfl (fun Γ => ?_)
  refine j_aload_n dX0_setChannel_0 0 rfl ?_
  refine g_X0_15 rfl dX0_setChannel_1 0 rfl rfl ?_
  refine j_iload_n dX0_setChannel_4 1 rfl ?_
  refine j_bipush (v := nI 7) dX0_setChannel_5 (by decide) ?_
  refine j_imul (v := nI (c * 7)) dX0_setChannel_7 (pk_mul _ _) ?_
  refine j_iload_n dX0_setChannel_8 2 rfl ?_
  refine j_iadd (v := nI (c * 7 + j)) dX0_setChannel_9 (nI_add _ _) ?_
  refine j_iload_n dX0_setChannel_10 3 rfl ?_
  refine j_iast (w2 := EW D E (upd s (64 + 7 * c + j) x)) dX0_setChannel_11 2 (c * 7 + j) rfl (rfl) (by omega) (Nat.le_of_ble_eq_true rfl) (EW_C hc hj) ?_
  exact j_vret dX0_setChannel_12 ⟨rfl, rfl⟩ ⟨rfl, rfl⟩

set_option maxHeartbeats 4000000 in
set_option maxRecDepth 100000 in
theorem c_X0_addOneTo (E : Nat → Nat) (s : SS) (c j : Nat) (hc : c < 4) (hj : j < 7) : Ct D yX0_addOneTo cX0_addOneTo 3 none ({ frames := 0, cells := 0, slots := 0, locals := 0 } : Room) [.ref (E 0), .int (nI c), .int (nI j)] (EW D E s) (fun v_ u_ => v_ = none ∧ u_ = EW D E (upd s (64 + 7 * c + j) (gC s c j + 1))) := by
  refine ct_of (by decide) (Nat.le_of_ble_eq_true rfl) (lv0 := [(0, .ref (E 0)), (1, .int (nI c)), (2, .int (nI j))]) rfl (fun Γ => ?_)
  refine j_aload_n dX0_addOneTo_0 0 rfl ?_
  refine g_X0_15 rfl dX0_addOneTo_1 0 rfl rfl ?_
  refine j_iload_n dX0_addOneTo_4 1 rfl ?_
  refine j_bipush (v := nI 7) dX0_addOneTo_5 (by decide) ?_
  refine j_imul (v := nI (c * 7)) dX0_addOneTo_7 (pk_mul _ _) ?_
  refine j_iload_n dX0_addOneTo_8 2 rfl ?_
  refine j_iadd (v := nI (c * 7 + j)) dX0_addOneTo_9 (nI_add _ _) ?_
  refine j_dup2 dX0_addOneTo_10 rfl rfl ?_
  refine j_iald (v := gC s c j) dX0_addOneTo_11 2 (c * 7 + j) rfl (rfl) (by omega) (Nat.le_of_ble_eq_true rfl) (vC_at hc hj) ?_
  refine j_iconst (v := nI 1) dX0_addOneTo_12 (by decide) ?_
  refine j_iadd (v := gC s c j + 1) dX0_addOneTo_13 (rfl) ?_
  refine j_iast (w2 := EW D E (upd s (64 + 7 * c + j) (gC s c j + 1))) dX0_addOneTo_14 2 (c * 7 + j) rfl (rfl) (by omega) (Nat.le_of_ble_eq_true rfl) (EW_C hc hj) ?_
  exact j_vret dX0_addOneTo_15 ⟨rfl, rfl⟩ ⟨rfl, rfl⟩

set_option maxHeartbeats 4000000 in
set_option maxRecDepth 100000 in
theorem c_X0_ofLetter (E : Nat → Nat) (s : SS) (p j : Nat) (hp : p < 24) (hj : j < 13) : Ct D yX0_ofLetter cX0_ofLetter 3 (some .int) ({ frames := 0, cells := 0, slots := 0, locals := 0 } : Room) [.ref (E 0), .int (nI p), .int (nI j)] (EW D E s) (fun v_ u_ => v_ = some (.int (gL s p j)) ∧ u_ = EW D E s) := by
  refine ct_of (by decide) (Nat.le_of_ble_eq_true rfl) (lv0 := [(0, .ref (E 0)), (1, .int (nI p)), (2, .int (nI j))]) rfl (fun Γ => ?_)
  refine j_aload_n dX0_ofLetter_0 0 rfl ?_
  refine g_X0_18 rfl dX0_ofLetter_1 0 rfl rfl ?_
  refine j_iload_n dX0_ofLetter_4 1 rfl ?_
  refine j_bipush (v := nI 13) dX0_ofLetter_5 (by decide) ?_
  refine j_imul (v := nI (p * 13)) dX0_ofLetter_7 (pk_mul _ _) ?_
  refine j_iload_n dX0_ofLetter_8 2 rfl ?_
  refine j_iadd (v := nI (p * 13 + j)) dX0_ofLetter_9 (nI_add _ _) ?_
  refine j_iald (v := gL s p j) dX0_ofLetter_10 3 (p * 13 + j) rfl (rfl) (by omega) (Nat.le_of_ble_eq_true rfl) (vL_at hp hj) ?_
  exact j_iret dX0_ofLetter_11 ⟨rfl, rfl⟩ ⟨rfl, rfl⟩

set_option maxHeartbeats 4000000 in
set_option maxRecDepth 100000 in
theorem c_X0_setLetter (E : Nat → Nat) (s : SS) (p j : Nat) (x : Int32) (hp : p < 24) (hj : j < 13) : Ct D yX0_setLetter cX0_setLetter 4 none ({ frames := 0, cells := 0, slots := 0, locals := 0 } : Room) [.ref (E 0), .int (nI p), .int (nI j), .int x] (EW D E s) (fun v_ u_ => v_ = none ∧ u_ = EW D E (upd s (93 + 14 * p + j) x)) := by
  refine ct_of (by decide) (Nat.le_of_ble_eq_true rfl) (lv0 := [(0, .ref (E 0)), (1, .int (nI p)), (2, .int (nI j)), (3, .int x)]) rfl (fun Γ => ?_)
  refine j_aload_n dX0_setLetter_0 0 rfl ?_
  refine g_X0_18 rfl dX0_setLetter_1 0 rfl rfl ?_
  refine j_iload_n dX0_setLetter_4 1 rfl ?_
  refine j_bipush (v := nI 13) dX0_setLetter_5 (by decide) ?_
  refine j_imul (v := nI (p * 13)) dX0_setLetter_7 (pk_mul _ _) ?_
  refine j_iload_n dX0_setLetter_8 2 rfl ?_
  refine j_iadd (v := nI (p * 13 + j)) dX0_setLetter_9 (nI_add _ _) ?_
  refine j_iload_n dX0_setLetter_10 3 rfl ?_
  refine j_iast (w2 := EW D E (upd s (93 + 14 * p + j) x)) dX0_setLetter_11 3 (p * 13 + j) rfl (rfl) (by omega) (Nat.le_of_ble_eq_true rfl) (EW_L hp hj) ?_
  exact j_vret dX0_setLetter_12 ⟨rfl, rfl⟩ ⟨rfl, rfl⟩

set_option maxHeartbeats 4000000 in
set_option maxRecDepth 100000 in
theorem c_X0_hasLetter (E : Nat → Nat) (s : SS) (p : Nat) (hp : p < 24) : Ct D yX0_hasLetter cX0_hasLetter 2 (some .boolean) ({ frames := 1, cells := 0, slots := 0, locals := 22 } : Room) [.ref (E 0), .int (nI p)] (EW D E s) (fun v_ u_ => v_ = some (.int (bI (has s p))) ∧ u_ = EW D E s) := by
  refine ct_of (by decide) (Nat.le_of_ble_eq_true rfl) (lv0 := [(0, .ref (E 0)), (1, .int (nI p))]) rfl (fun Γ => ?_)
  refine j_aload_n dX0_hasLetter_0 0 rfl ?_
  refine j_iload_n dX0_hasLetter_1 1 rfl ?_
  refine j_iconst (v := nI 2) dX0_hasLetter_2 (by decide) ?_
  refine j_V (w2 := EW D E s) (st2 := [.int (gL s p 2)]) (c_X0_ofLetter E s p 2 (by omega) (by omega)) rfl cw_X0_40 dX0_hasLetter_3 [] rfl [0, 1, 2, 3, 4] rfl rfl rfl 0 ?_ ⟨rfl, ⟨Nat.le_of_ble_eq_true rfl, Nat.le_of_ble_eq_true rfl⟩, ⟨rfl, rfl⟩, ⟨Nat.le_of_ble_eq_true rfl, Nat.le_of_ble_eq_true rfl⟩, Nat.le_of_ble_eq_true rfl, rfl, rfl⟩ rfl rfl rfl
  refine j_if_le (tgt := 13) dX0_hasLetter_6 (by decide) (fun h6 => ?_) (fun h6 => ?_)
  · skip
    refine j_iconst (v := nI 0) dX0_hasLetter_13 (by decide) ?_
    exact j_zret dX0_hasLetter_14 (rfl) ⟨rfl, rfl⟩ ⟨rv_f (has_f h6), rfl⟩
  · skip
    refine j_iconst (v := nI 1) dX0_hasLetter_9 (by decide) ?_
    refine j_goto (tgt := 14) dX0_hasLetter_10 (by decide) ?_
    exact j_zret dX0_hasLetter_14 (rfl) ⟨rfl, rfl⟩ ⟨rv_t (has_t h6), rfl⟩

set_option maxHeartbeats 4000000 in
set_option maxRecDepth 100000 in
theorem c_X0_isEngines (E : Nat → Nat) (s : SS) (p : Nat) (hp : p < 24) : Ct D yX0_isEngines cX0_isEngines 2 (some .boolean) ({ frames := 1, cells := 0, slots := 0, locals := 22 } : Room) [.ref (E 0), .int (nI p)] (EW D E s) (fun v_ u_ => v_ = some (.int (bI (eng s p))) ∧ u_ = EW D E s) := by
  refine ct_of (by decide) (Nat.le_of_ble_eq_true rfl) (lv0 := [(0, .ref (E 0)), (1, .int (nI p))]) rfl (fun Γ => ?_)
  refine j_aload_n dX0_isEngines_0 0 rfl ?_
  refine j_iload_n dX0_isEngines_1 1 rfl ?_
  refine j_bipush (v := nI 9) dX0_isEngines_2 (by decide) ?_
  refine j_V (w2 := EW D E s) (st2 := [.int (gL s p 9)]) (c_X0_ofLetter E s p 9 (by omega) (by omega)) rfl cw_X0_40 dX0_isEngines_4 [] rfl [0, 1, 2, 3, 4] rfl rfl rfl 0 ?_ ⟨rfl, ⟨Nat.le_of_ble_eq_true rfl, Nat.le_of_ble_eq_true rfl⟩, ⟨rfl, rfl⟩, ⟨Nat.le_of_ble_eq_true rfl, Nat.le_of_ble_eq_true rfl⟩, Nat.le_of_ble_eq_true rfl, rfl, rfl⟩ rfl rfl rfl
  refine j_iconst (v := nI 1) dX0_isEngines_7 (by decide) ?_
  refine j_icmp_ne (tgt := 15) dX0_isEngines_8 (by decide) (fun h8 => ?_) (fun h8 => ?_)
  · skip
    refine j_iconst (v := nI 0) dX0_isEngines_15 (by decide) ?_
    exact j_zret dX0_isEngines_16 (rfl) ⟨rfl, rfl⟩ ⟨rv_f (eng_f h8), rfl⟩
  · skip
    refine j_iconst (v := nI 1) dX0_isEngines_11 (by decide) ?_
    refine j_goto (tgt := 16) dX0_isEngines_12 (by decide) ?_
    exact j_zret dX0_isEngines_16 (rfl) ⟨rfl, rfl⟩ ⟨rv_t (eng_t h8), rfl⟩

set_option maxHeartbeats 4000000 in
set_option maxRecDepth 100000 in
theorem c_X0_isToCarry (E : Nat → Nat) (s : SS) (p : Nat) (hp : p < 24) : Ct D yX0_isToCarry cX0_isToCarry 3 (some .boolean) ({ frames := 0, cells := 0, slots := 0, locals := 0 } : Room) [.ref (E 0), .int (nI p)] (EW D E s) (fun v_ u_ => v_ = some (.int (bI (tc s p))) ∧ u_ = EW D E s) := by
  refine ct_of (by decide) (Nat.le_of_ble_eq_true rfl) (lv0 := [(0, .ref (E 0)), (1, .int (nI p))]) rfl (fun Γ => ?_)
  refine j_iload_n dX0_isToCarry_0 1 rfl ?_
  refine j_bipush (v := nI 13) dX0_isToCarry_1 (by decide) ?_
  refine j_imul (v := nI (p * 13)) dX0_isToCarry_3 (pk_mul _ _) ?_
  refine j_istore_n (lv2 := [(0, .ref (E 0)), (1, .int (nI p)), (2, .int (nI (p * 13)))]) dX0_isToCarry_4 (by decide) [1, 2, 0] rfl ?_
  refine j_aload_n dX0_isToCarry_5 0 rfl ?_
  refine g_X0_18 rfl dX0_isToCarry_6 0 rfl rfl ?_
  refine j_iload_n dX0_isToCarry_9 2 rfl ?_
  refine j_bipush (v := nI 9) dX0_isToCarry_10 (by decide) ?_
  refine j_iadd (v := nI (p * 13 + 9)) dX0_isToCarry_12 (nI_add _ _) ?_
  refine j_iald (v := gL s p 9) dX0_isToCarry_13 3 (p * 13 + 9) rfl (rfl) (by omega) (Nat.le_of_ble_eq_true rfl) (vL_at hp (by decide)) ?_
  refine j_iconst (v := nI 1) dX0_isToCarry_14 (by decide) ?_
  refine j_icmp_ne (tgt := 34) dX0_isToCarry_15 (by decide) (fun h15 => ?_) (fun h15 => ?_)
  · skip
    refine j_iconst (v := nI 0) dX0_isToCarry_34 (by decide) ?_
    exact j_zret dX0_isToCarry_35 (rfl) ⟨rfl, rfl⟩ ⟨rv_f (tc_f1 h15), rfl⟩
  · skip
    refine j_aload_n dX0_isToCarry_18 0 rfl ?_
    refine g_X0_18 rfl dX0_isToCarry_19 0 rfl rfl ?_
    refine j_iload_n dX0_isToCarry_22 2 rfl ?_
    refine j_bipush (v := nI 12) dX0_isToCarry_23 (by decide) ?_
    refine j_iadd (v := nI (p * 13 + 12)) dX0_isToCarry_25 (nI_add _ _) ?_
    refine j_iald (v := gL s p 12) dX0_isToCarry_26 3 (p * 13 + 12) rfl (rfl) (by omega) (Nat.le_of_ble_eq_true rfl) (vL_at hp (by decide)) ?_
    refine j_if_ne (tgt := 34) dX0_isToCarry_27 (by decide) (fun h27 => ?_) (fun h27 => ?_)
    · skip
      refine j_iconst (v := nI 0) dX0_isToCarry_34 (by decide) ?_
      exact j_zret dX0_isToCarry_35 (rfl) ⟨rfl, rfl⟩ ⟨rv_f (tc_f2 h27), rfl⟩
    · skip
      refine j_iconst (v := nI 1) dX0_isToCarry_30 (by decide) ?_
      refine j_goto (tgt := 35) dX0_isToCarry_31 (by decide) ?_
      exact j_zret dX0_isToCarry_35 (rfl) ⟨rfl, rfl⟩ ⟨rv_t (tc_t h15 h27), rfl⟩

set_option maxHeartbeats 4000000 in
set_option maxRecDepth 100000 in
theorem c_X0_unitsOf (E : Nat → Nat) (s : SS) (p : Nat) (hp : p < 24) : Ct D yX0_unitsOf cX0_unitsOf 2 (some .int) ({ frames := 1, cells := 0, slots := 0, locals := 22 } : Room) [.ref (E 0), .int (nI p)] (EW D E s) (fun v_ u_ => v_ = some (.int (gL s p 2 * gL s p 5)) ∧ u_ = EW D E s) := by
  refine ct_of (by decide) (Nat.le_of_ble_eq_true rfl) (lv0 := [(0, .ref (E 0)), (1, .int (nI p))]) rfl (fun Γ => ?_)
  refine j_aload_n dX0_unitsOf_0 0 rfl ?_
  refine j_iload_n dX0_unitsOf_1 1 rfl ?_
  refine j_iconst (v := nI 2) dX0_unitsOf_2 (by decide) ?_
  refine j_V (w2 := EW D E s) (st2 := [.int (gL s p 2)]) (c_X0_ofLetter E s p 2 (by omega) (by omega)) rfl cw_X0_40 dX0_unitsOf_3 [] rfl [0, 1, 2, 3, 4] rfl rfl rfl 0 ?_ ⟨rfl, ⟨Nat.le_of_ble_eq_true rfl, Nat.le_of_ble_eq_true rfl⟩, ⟨rfl, rfl⟩, ⟨Nat.le_of_ble_eq_true rfl, Nat.le_of_ble_eq_true rfl⟩, Nat.le_of_ble_eq_true rfl, rfl, rfl⟩ rfl rfl rfl
  refine j_aload_n dX0_unitsOf_6 0 rfl ?_
  refine j_iload_n dX0_unitsOf_7 1 rfl ?_
  refine j_iconst (v := nI 5) dX0_unitsOf_8 (by decide) ?_
  refine j_V (w2 := EW D E s) (st2 := [.int (gL s p 5), .int (gL s p 2)]) (c_X0_ofLetter E s p 5 (by omega) (by omega)) rfl cw_X0_40 dX0_unitsOf_9 [.int (gL s p 2)] rfl [0, 1, 2, 3, 4] rfl rfl rfl 0 ?_ ⟨rfl, ⟨Nat.le_of_ble_eq_true rfl, Nat.le_of_ble_eq_true rfl⟩, ⟨rfl, rfl⟩, ⟨Nat.le_of_ble_eq_true rfl, Nat.le_of_ble_eq_true rfl⟩, Nat.le_of_ble_eq_true rfl, rfl, rfl⟩ rfl rfl rfl
  refine j_imul (v := (gL s p 2) * (gL s p 5)) dX0_unitsOf_12 (rfl) ?_
  exact j_iret dX0_unitsOf_13 ⟨rfl, rfl⟩ ⟨rfl, rfl⟩

end EN1
