theorem rdy_f3 {s : SS} {c : Nat} (h : ¬ gC s c 0 = 1) : rdy s c = false := by simp [rdy, h]
theorem rdy_t3 {s : SS} {c : Nat} (h : tc s (pl s c) = true) (h2 : gC s c 0 = 1) : rdy s c = true := by simp [rdy, h, h2]
theorem tk1_q {s : SS} : tk1 s 428 = 0 := by
  unfold tk1
  split
  · assumption
  · exact up_eq
section MD1
variable {D : DX}
set_option maxHeartbeats 4000000 in
set_option maxRecDepth 100000 in
theorem c_X5_in (v lo hi : Int32) : Ct D yX5_in cX5_in 3 (some .boolean) ({ frames := 0, cells := 0, slots := 0, locals := 0 } : Room) [.int v, .int lo, .int hi] (([] : va_W)) (fun v_ u_ => v_ = some (.int (bI (inR v lo hi))) ∧ u_ = ([] : va_W)) := by
  refine ct_of (by decide) (Nat.le_of_ble_eq_true rfl) (lv0 := [(0, .int v), (1, .int lo), (2, .int hi)]) rfl (fun Γ => ?_)
  refine j_iload_n dX5_in_0 0 rfl ?_
  refine j_iload_n dX5_in_1 1 rfl ?_
  refine j_icmp_lt (tgt := 14) dX5_in_2 (by decide) (fun h2 => ?_) (fun h2 => ?_)
  · skip
    refine j_iconst (v := nI 0) dX5_in_14 (by decide) ?_
    exact j_zret dX5_in_15 (rfl) ⟨rfl, rfl⟩ ⟨rv_f (inR_f1 h2), rfl⟩
  · skip
    refine j_iload_n dX5_in_5 0 rfl ?_
    refine j_iload_n dX5_in_6 2 rfl ?_
    refine j_icmp_gt (tgt := 14) dX5_in_7 (by decide) (fun h7 => ?_) (fun h7 => ?_)
    · skip
      refine j_iconst (v := nI 0) dX5_in_14 (by decide) ?_
      exact j_zret dX5_in_15 (rfl) ⟨rfl, rfl⟩ ⟨rv_f (inR_f2 h7), rfl⟩
    · skip
      refine j_iconst (v := nI 1) dX5_in_10 (by decide) ?_
      refine j_goto (tgt := 15) dX5_in_11 (by decide) ?_
      exact j_zret dX5_in_15 (rfl) ⟨rfl, rfl⟩ ⟨rv_t (inR_t h2 h7), rfl⟩

set_option maxHeartbeats 4000000 in
set_option maxRecDepth 100000 in
theorem c_X5_isChannel (v : Int32) : Ct D yX5_isChannel cX5_isChannel 1 (some .boolean) ({ frames := 1, cells := 0, slots := 0, locals := 22 } : Room) [.int v] (([] : va_W)) (fun v_ u_ => v_ = some (.int (bI (inR v (nI 0) (nI 3)))) ∧ u_ = ([] : va_W)) := by
  refine ct_of (by decide) (Nat.le_of_ble_eq_true rfl) (lv0 := [(0, .int v)]) rfl (fun Γ => ?_)
  refine j_iload_n dX5_isChannel_0 0 rfl ?_
  refine j_iconst (v := nI 0) dX5_isChannel_1 (by decide) ?_
  refine j_iconst (v := nI 3) dX5_isChannel_2 (by decide) ?_
  refine j_S (w2 := ([] : va_W)) (st2 := [.int (bI (inR v (nI 0) (nI 3)))]) (c_X5_in v (nI 0) (nI 3)) rfl cw_X5_38 dX5_isChannel_3 [] rfl [] rfl rfl rfl ?_ ⟨rfl, ⟨Nat.le_of_ble_eq_true rfl, Nat.le_of_ble_eq_true rfl⟩, ⟨rfl, rfl⟩, ⟨Nat.le_of_ble_eq_true rfl, Nat.le_of_ble_eq_true rfl⟩, Nat.le_of_ble_eq_true rfl, rfl, rfl⟩
  exact j_zret dX5_isChannel_6 (nar_b _) ⟨rfl, rfl⟩ ⟨rfl, rfl⟩

set_option maxHeartbeats 4000000 in
set_option maxRecDepth 100000 in
theorem c_X5_isSlot (v z : Int32) : Ct D yX5_isSlot cX5_isSlot 2 (some .boolean) ({ frames := 2, cells := 0, slots := 0, locals := 42 } : Room) [.int v, .int z] (([] : va_W)) (fun v_ u_ => v_ = some (.int (bI (inR v (nI 0) (nI 3) && inR z (nI 0) (nI 5)))) ∧ u_ = ([] : va_W)) := by
  refine ct_of (by decide) (Nat.le_of_ble_eq_true rfl) (lv0 := [(0, .int v), (1, .int z)]) rfl (fun Γ => ?_)
  refine j_iload_n dX5_isSlot_0 0 rfl ?_
  refine j_S (w2 := ([] : va_W)) (st2 := [.int (bI (inR v (nI 0) (nI 3)))]) (c_X5_isChannel v) rfl cw_X5_141 dX5_isSlot_1 [] rfl [] rfl rfl rfl ?_ ⟨rfl, ⟨Nat.le_of_ble_eq_true rfl, Nat.le_of_ble_eq_true rfl⟩, ⟨rfl, rfl⟩, ⟨Nat.le_of_ble_eq_true rfl, Nat.le_of_ble_eq_true rfl⟩, Nat.le_of_ble_eq_true rfl, rfl, rfl⟩
  refine j_if_eq_B (tgt := 20) dX5_isSlot_4 (by decide) (fun h4 => ?_) (fun h4 => ?_)
  · skip
    refine j_iconst (v := nI 0) dX5_isSlot_20 (by decide) ?_
    exact j_zret dX5_isSlot_21 (rfl) ⟨rfl, rfl⟩ ⟨rv_f (by rw [h4]; rfl), rfl⟩
  · skip
    refine j_iload_n dX5_isSlot_7 1 rfl ?_
    refine j_iconst (v := nI 0) dX5_isSlot_8 (by decide) ?_
    refine j_iconst (v := nI 5) dX5_isSlot_9 (by decide) ?_
    refine j_S (w2 := ([] : va_W)) (st2 := [.int (bI (inR z (nI 0) (nI 5)))]) (c_X5_in z (nI 0) (nI 5)) rfl cw_X5_38 dX5_isSlot_10 [] rfl [] rfl rfl rfl ?_ ⟨rfl, ⟨Nat.le_of_ble_eq_true rfl, Nat.le_of_ble_eq_true rfl⟩, ⟨rfl, rfl⟩, ⟨Nat.le_of_ble_eq_true rfl, Nat.le_of_ble_eq_true rfl⟩, Nat.le_of_ble_eq_true rfl, rfl, rfl⟩
    refine j_if_eq_B (tgt := 20) dX5_isSlot_13 (by decide) (fun h13 => ?_) (fun h13 => ?_)
    · skip
      refine j_iconst (v := nI 0) dX5_isSlot_20 (by decide) ?_
      exact j_zret dX5_isSlot_21 (rfl) ⟨rfl, rfl⟩ ⟨rv_f (by rw [h13, Bool.and_false]), rfl⟩
    · skip
      refine j_iconst (v := nI 1) dX5_isSlot_16 (by decide) ?_
      refine j_goto (tgt := 21) dX5_isSlot_17 (by decide) ?_
      exact j_zret dX5_isSlot_21 (rfl) ⟨rfl, rfl⟩ ⟨rv_t (by rw [h4, h13]; rfl), rfl⟩

set_option maxHeartbeats 4000000 in
set_option maxRecDepth 100000 in
theorem c_X5_slotAt (c j : Nat) : Ct D yX5_slotAt cX5_slotAt 2 (some .int) ({ frames := 0, cells := 0, slots := 0, locals := 0 } : Room) [.int (nI c), .int (nI j)] (([] : va_W)) (fun v_ u_ => v_ = some (.int (nI (92 + 14 * (c * 6 + j)))) ∧ u_ = ([] : va_W)) := by
  refine ct_of (by decide) (Nat.le_of_ble_eq_true rfl) (lv0 := [(0, .int (nI c)), (1, .int (nI j))]) rfl (fun Γ => ?_)
  refine j_bipush (v := nI 92) dX5_slotAt_0 (by decide) ?_
  refine j_bipush (v := nI 14) dX5_slotAt_2 (by decide) ?_
  refine j_bipush (v := nI 6) dX5_slotAt_4 (by decide) ?_
  refine j_iload_n dX5_slotAt_6 0 rfl ?_
  refine j_imul (v := nI (6 * c)) dX5_slotAt_7 (pk_mul _ _) ?_
  refine j_iload_n dX5_slotAt_8 1 rfl ?_
  refine j_iadd (v := nI (6 * c + j)) dX5_slotAt_9 (nI_add _ _) ?_
  refine j_imul (v := nI (14 * (6 * c + j))) dX5_slotAt_10 (pk_mul _ _) ?_
  refine j_iadd (v := nI (92 + 14 * (6 * c + j))) dX5_slotAt_11 (nI_add _ _) ?_
  exact j_iret dX5_slotAt_12 ⟨rfl, rfl⟩ ⟨congrArg (fun z => some (Value.int (nI z))) (by omega), rfl⟩

set_option maxHeartbeats 4000000 in
set_option maxRecDepth 100000 in
theorem c_X5_channelAt (c : Nat) : Ct D yX5_channelAt cX5_channelAt 1 (some .int) ({ frames := 0, cells := 0, slots := 0, locals := 0 } : Room) [.int (nI c)] (([] : va_W)) (fun v_ u_ => v_ = some (.int (nI (64 + 7 * c))) ∧ u_ = ([] : va_W)) := by
  refine ct_of (by decide) (Nat.le_of_ble_eq_true rfl) (lv0 := [(0, .int (nI c))]) rfl (fun Γ => ?_)
  refine j_bipush (v := nI 64) dX5_channelAt_0 (by decide) ?_
  refine j_bipush (v := nI 7) dX5_channelAt_2 (by decide) ?_
  refine j_iload_n dX5_channelAt_4 0 rfl ?_
  refine j_imul (v := nI (7 * c)) dX5_channelAt_5 (pk_mul _ _) ?_
  refine j_iadd (v := nI (64 + 7 * c)) dX5_channelAt_6 (nI_add _ _) ?_
  exact j_iret dX5_channelAt_7 ⟨rfl, rfl⟩ ⟨rfl, rfl⟩

set_option maxHeartbeats 4000000 in
set_option maxRecDepth 100000 in
theorem c_X5_around (x : Int32) : Ct D yX5_around cX5_around 2 (some .int) ({ frames := 0, cells := 0, slots := 0, locals := 0 } : Room) [.int x] (([] : va_W)) (fun v_ u_ => v_ = some (.int (nI (am x))) ∧ u_ = ([] : va_W)) := by
  refine ct_of (by decide) (Nat.le_of_ble_eq_true rfl) (lv0 := [(0, .int x)]) rfl (fun Γ => ?_)
  refine j_iload_n dX5_around_0 0 rfl ?_
  refine j_bipush (v := nI 64) dX5_around_1 (by decide) ?_
  refine j_irem (v := x - x / (nI 64) * (nI 64)) dX5_around_3 (by decide) (rfl) ?_
  refine j_istore_n (lv2 := [(0, .int x), (1, .int (x - x / (nI 64) * (nI 64)))]) dX5_around_4 (by decide) [1, 0] rfl ?_
  refine j_iload_n dX5_around_5 1 rfl ?_
  refine j_if_ge (tgt := 16) dX5_around_6 (by decide) (fun h6 => ?_) (fun h6 => ?_)
  · skip
    refine j_iload_n dX5_around_16 1 rfl ?_
    exact j_iret dX5_around_17 ⟨rfl, rfl⟩ ⟨by rw [ar_p h6], rfl⟩
  · skip
    refine j_iload_n dX5_around_9 1 rfl ?_
    refine j_bipush (v := nI 64) dX5_around_10 (by decide) ?_
    refine j_iadd (v := (x - x / (nI 64) * (nI 64)) + (nI 64)) dX5_around_12 (rfl) ?_
    refine j_goto (tgt := 17) dX5_around_13 (by decide) ?_
    exact j_iret dX5_around_17 ⟨rfl, rfl⟩ ⟨by rw [ar_n h6], rfl⟩

set_option maxHeartbeats 4000000 in
set_option maxRecDepth 100000 in
theorem c_X5_isEngines (M : Nat → Nat) (q : QT) (s : SS) (hI : Inv s) (p : Nat) (hp : p < 24) : Ct D yX5_isEngines cX5_isEngines 2 (some .boolean) ({ frames := 0, cells := 0, slots := 0, locals := 0 } : Room) [.ref (M 0), .int (nI (92 + 14 * p))] ((MO D M q) ++ (AR D (M 1) 455 s)) (fun v_ u_ => v_ = some (.int (bI (eng s p))) ∧ u_ = (MO D M q) ++ (AR D (M 1) 455 s)) := by
  refine ct_of (by decide) (Nat.le_of_ble_eq_true rfl) (lv0 := [(0, .ref (M 0)), (1, .int (nI (92 + 14 * p)))]) rfl (fun Γ => ?_)
  refine j_aload_n dX5_isEngines_0 0 rfl ?_
  refine g_X5_7 rfl dX5_isEngines_1 0 rfl rfl ?_
  refine j_iload_n dX5_isEngines_4 1 rfl ?_
  refine j_iconst (v := nI 0) dX5_isEngines_5 (by decide) ?_
  refine j_iadd (v := nI (92 + 14 * p + 0)) dX5_isEngines_6 (nI_add _ _) ?_
  refine j_iald (v := s (92 + 14 * p)) dX5_isEngines_7 1 (92 + 14 * p + 0) rfl (rfl) (by omega) (Nat.le_of_ble_eq_true rfl) (rfl) ?_
  refine j_iconst (v := nI 1) dX5_isEngines_8 (by decide) ?_
  refine j_icmp_ne (tgt := 29) dX5_isEngines_9 (by decide) (fun h9 => ?_) (fun h9 => ?_)
  · skip
    refine j_iconst (v := nI 0) dX5_isEngines_29 (by decide) ?_
    exact j_zret dX5_isEngines_30 (rfl) ⟨rfl, rfl⟩ ⟨rv_f (eng_hf hI hp h9), rfl⟩
  · skip
    refine j_aload_n dX5_isEngines_12 0 rfl ?_
    refine g_X5_7 rfl dX5_isEngines_13 0 rfl rfl ?_
    refine j_iload_n dX5_isEngines_16 1 rfl ?_
    refine j_bipush (v := nI 10) dX5_isEngines_17 (by decide) ?_
    refine j_iadd (v := nI (92 + 14 * p + 10)) dX5_isEngines_19 (nI_add _ _) ?_
    refine j_iald (v := gL s p 9) dX5_isEngines_20 1 (92 + 14 * p + 10) rfl (rfl) (by omega) (Nat.le_of_ble_eq_true rfl) (congrArg s (by omega)) ?_
    refine j_iconst (v := nI 1) dX5_isEngines_21 (by decide) ?_
    refine j_icmp_ne (tgt := 29) dX5_isEngines_22 (by decide) (fun h22 => ?_) (fun h22 => ?_)
    · skip
      refine j_iconst (v := nI 0) dX5_isEngines_29 (by decide) ?_
      exact j_zret dX5_isEngines_30 (rfl) ⟨rfl, rfl⟩ ⟨rv_f (eng_f h22), rfl⟩
    · skip
      refine j_iconst (v := nI 1) dX5_isEngines_25 (by decide) ?_
      refine j_goto (tgt := 30) dX5_isEngines_26 (by decide) ?_
      exact j_zret dX5_isEngines_30 (rfl) ⟨rfl, rfl⟩ ⟨rv_t (eng_t h22), rfl⟩

set_option maxHeartbeats 4000000 in
set_option maxRecDepth 100000 in
theorem c_X5_unitsOf (M : Nat → Nat) (q : QT) (s : SS) (p : Nat) (hp : p < 24) : Ct D yX5_unitsOf cX5_unitsOf 2 (some .int) ({ frames := 0, cells := 0, slots := 0, locals := 0 } : Room) [.ref (M 0), .int (nI (92 + 14 * p))] ((MO D M q) ++ (AR D (M 1) 455 s)) (fun v_ u_ => v_ = some (.int (gL s p 2 * gL s p 5)) ∧ u_ = (MO D M q) ++ (AR D (M 1) 455 s)) := by
  refine ct_of (by decide) (Nat.le_of_ble_eq_true rfl) (lv0 := [(0, .ref (M 0)), (1, .int (nI (92 + 14 * p)))]) rfl (fun Γ => ?_)
  refine j_aload_n dX5_unitsOf_0 0 rfl ?_
  refine g_X5_7 rfl dX5_unitsOf_1 0 rfl rfl ?_
  refine j_iload_n dX5_unitsOf_4 1 rfl ?_
  refine j_iconst (v := nI 3) dX5_unitsOf_5 (by decide) ?_
  refine j_iadd (v := nI (92 + 14 * p + 3)) dX5_unitsOf_6 (nI_add _ _) ?_
  refine j_iald (v := gL s p 2) dX5_unitsOf_7 1 (92 + 14 * p + 3) rfl (rfl) (by omega) (Nat.le_of_ble_eq_true rfl) (congrArg s (by omega)) ?_
  refine j_aload_n dX5_unitsOf_8 0 rfl ?_
  refine g_X5_7 rfl dX5_unitsOf_9 0 rfl rfl ?_
  refine j_iload_n dX5_unitsOf_12 1 rfl ?_
  refine j_bipush (v := nI 6) dX5_unitsOf_13 (by decide) ?_
  refine j_iadd (v := nI (92 + 14 * p + 6)) dX5_unitsOf_15 (nI_add _ _) ?_
  refine j_iald (v := gL s p 5) dX5_unitsOf_16 1 (92 + 14 * p + 6) rfl (rfl) (by omega) (Nat.le_of_ble_eq_true rfl) (congrArg s (by omega)) ?_
  refine j_imul (v := (gL s p 2) * (gL s p 5)) dX5_unitsOf_17 (rfl) ?_
  exact j_iret dX5_unitsOf_18 ⟨rfl, rfl⟩ ⟨rfl, rfl⟩

set_option maxHeartbeats 4000000 in
set_option maxRecDepth 100000 in
theorem c_X5_addressOf (M : Nat → Nat) (q : QT) (s : SS) (p k way : Nat) (hp : p < 24) (hn : gL s p 2 = nI (nn s p)) (h1 : 1 ≤ nn s p) (h2 : nn s p < 17) (hk : k < 2 ^ 31) (hw : way < 2) : Ct D yX5_addressOf cX5_addressOf 6 (some .int) ({ frames := 1, cells := 0, slots := 0, locals := 21 } : Room) [.ref (M 0), .int (nI (92 + 14 * p)), .int (nI k), .int (nI way)] ((MO D M q) ++ (AR D (M 1) 455 s)) (fun v_ u_ => v_ = some (.int (nI (ad s p k way))) ∧ u_ = (MO D M q) ++ (AR D (M 1) 455 s)) := by
  refine ct_of (by decide) (Nat.le_of_ble_eq_true rfl) (lv0 := [(0, .ref (M 0)), (1, .int (nI (92 + 14 * p))), (2, .int (nI k)), (3, .int (nI way))]) rfl (fun Γ => ?_)
  refine j_iload_n dX5_addressOf_0 2 rfl ?_
  refine j_aload_n dX5_addressOf_1 0 rfl ?_
  refine g_X5_7 rfl dX5_addressOf_2 0 rfl rfl ?_
  refine j_iload_n dX5_addressOf_5 1 rfl ?_
  refine j_iconst (v := nI 3) dX5_addressOf_6 (by decide) ?_
  refine j_iadd (v := nI (92 + 14 * p + 3)) dX5_addressOf_7 (nI_add _ _) ?_
  refine j_iald (v := nI (nn s p)) dX5_addressOf_8 1 (92 + 14 * p + 3) rfl (rfl) (by omega) (Nat.le_of_ble_eq_true rfl) ((congrArg s (by omega)).trans hn) ?_
  refine j_idiv (v := nI (k / (nn s p))) dX5_addressOf_9 (nI_ne0 (by omega) (by omega)) (pk_div (by omega) (by omega) (by omega)) ?_
  refine j_istore (lv2 := [(0, .ref (M 0)), (1, .int (nI (92 + 14 * p))), (2, .int (nI k)), (3, .int (nI way)), (4, .int (nI (k / (nn s p))))]) dX5_addressOf_10 (by decide) [1, 2, 3, 4, 0] rfl ?_
  refine j_iload_n dX5_addressOf_12 2 rfl ?_
  refine j_aload_n dX5_addressOf_13 0 rfl ?_
  refine g_X5_7 rfl dX5_addressOf_14 0 rfl rfl ?_
  refine j_iload_n dX5_addressOf_17 1 rfl ?_
  refine j_iconst (v := nI 3) dX5_addressOf_18 (by decide) ?_
  refine j_iadd (v := nI (92 + 14 * p + 3)) dX5_addressOf_19 (nI_add _ _) ?_
  refine j_iald (v := nI (nn s p)) dX5_addressOf_20 1 (92 + 14 * p + 3) rfl (rfl) (by omega) (Nat.le_of_ble_eq_true rfl) ((congrArg s (by omega)).trans hn) ?_
  refine j_irem (v := nI (k % (nn s p))) dX5_addressOf_21 (nI_ne0 (by omega) (by omega)) (pk_rem (by omega) (by omega) (by omega)) ?_
  refine j_istore (lv2 := [(0, .ref (M 0)), (1, .int (nI (92 + 14 * p))), (2, .int (nI k)), (3, .int (nI way)), (4, .int (nI (k / (nn s p)))), (5, .int (nI (k % (nn s p))))]) dX5_addressOf_22 (by decide) [1, 2, 3, 4, 5, 0] rfl ?_
  refine j_iload_n dX5_addressOf_24 3 rfl ?_
  refine j_if_ne_N (tgt := 67) dX5_addressOf_25 (by decide) (by omega) (fun h25 => ?_) (fun h25 => ?_)
  · skip
    refine j_aload_n dX5_addressOf_67 0 rfl ?_
    refine g_X5_7 rfl dX5_addressOf_68 0 rfl rfl ?_
    refine j_iload_n dX5_addressOf_71 1 rfl ?_
    refine j_iconst (v := nI 2) dX5_addressOf_72 (by decide) ?_
    refine j_iadd (v := nI (92 + 14 * p + 2)) dX5_addressOf_73 (nI_add _ _) ?_
    refine j_iald (v := gL s p 1) dX5_addressOf_74 1 (92 + 14 * p + 2) rfl (rfl) (by omega) (Nat.le_of_ble_eq_true rfl) (congrArg s (by omega)) ?_
    refine j_iload dX5_addressOf_75 4 rfl ?_
    refine j_aload_n dX5_addressOf_77 0 rfl ?_
    refine g_X5_7 rfl dX5_addressOf_78 0 rfl rfl ?_
    refine j_iload_n dX5_addressOf_81 1 rfl ?_
    refine j_bipush (v := nI 8) dX5_addressOf_82 (by decide) ?_
    refine j_iadd (v := nI (92 + 14 * p + 8)) dX5_addressOf_84 (nI_add _ _) ?_
    refine j_iald (v := gL s p 7) dX5_addressOf_85 1 (92 + 14 * p + 8) rfl (rfl) (by omega) (Nat.le_of_ble_eq_true rfl) (congrArg s (by omega)) ?_
    refine j_imul (v := (nI (k / (nn s p))) * (gL s p 7)) dX5_addressOf_86 (rfl) ?_
    refine j_iadd (v := (gL s p 1) + ((nI (k / (nn s p))) * (gL s p 7))) dX5_addressOf_87 (rfl) ?_
    refine j_iload dX5_addressOf_88 5 rfl ?_
    refine j_aload_n dX5_addressOf_90 0 rfl ?_
    refine g_X5_7 rfl dX5_addressOf_91 0 rfl rfl ?_
    refine j_iload_n dX5_addressOf_94 1 rfl ?_
    refine j_iconst (v := nI 5) dX5_addressOf_95 (by decide) ?_
    refine j_iadd (v := nI (92 + 14 * p + 5)) dX5_addressOf_96 (nI_add _ _) ?_
    refine j_iald (v := gL s p 4) dX5_addressOf_97 1 (92 + 14 * p + 5) rfl (rfl) (by omega) (Nat.le_of_ble_eq_true rfl) (congrArg s (by omega)) ?_
    refine j_imul (v := (nI (k % (nn s p))) * (gL s p 4)) dX5_addressOf_98 (rfl) ?_
    refine j_iadd (v := ((gL s p 1) + ((nI (k / (nn s p))) * (gL s p 7))) + ((nI (k % (nn s p))) * (gL s p 4))) dX5_addressOf_99 (rfl) ?_
    refine j_S (w2 := (MO D M q) ++ (AR D (M 1) 455 s)) (st2 := [.int (nI (am (((gL s p 1) + ((nI (k / (nn s p))) * (gL s p 7))) + ((nI (k % (nn s p))) * (gL s p 4)))))]) (c_X5_around (((gL s p 1) + ((nI (k / (nn s p))) * (gL s p 7))) + ((nI (k % (nn s p))) * (gL s p 4)))) rfl cw_X5_117 dX5_addressOf_100 [] rfl [] rfl rfl rfl ?_ ⟨rfl, ⟨Nat.le_of_ble_eq_true rfl, Nat.le_of_ble_eq_true rfl⟩, ⟨rfl, rfl⟩, ⟨Nat.le_of_ble_eq_true rfl, Nat.le_of_ble_eq_true rfl⟩, Nat.le_of_ble_eq_true rfl, rfl, rfl⟩
    exact j_iret dX5_addressOf_103 ⟨rfl, rfl⟩ ⟨by rw [show way = 1 by omega]; rfl, rfl⟩
  · skip
    refine j_aload_n dX5_addressOf_28 0 rfl ?_
    refine g_X5_7 rfl dX5_addressOf_29 0 rfl rfl ?_
    refine j_iload_n dX5_addressOf_32 1 rfl ?_
    refine j_iconst (v := nI 1) dX5_addressOf_33 (by decide) ?_
    refine j_iadd (v := nI (92 + 14 * p + 1)) dX5_addressOf_34 (nI_add _ _) ?_
    refine j_iald (v := gL s p 0) dX5_addressOf_35 1 (92 + 14 * p + 1) rfl (rfl) (by omega) (Nat.le_of_ble_eq_true rfl) (congrArg s (by omega)) ?_
    refine j_iload dX5_addressOf_36 4 rfl ?_
    refine j_aload_n dX5_addressOf_38 0 rfl ?_
    refine g_X5_7 rfl dX5_addressOf_39 0 rfl rfl ?_
    refine j_iload_n dX5_addressOf_42 1 rfl ?_
    refine j_bipush (v := nI 7) dX5_addressOf_43 (by decide) ?_
    refine j_iadd (v := nI (92 + 14 * p + 7)) dX5_addressOf_45 (nI_add _ _) ?_
    refine j_iald (v := gL s p 6) dX5_addressOf_46 1 (92 + 14 * p + 7) rfl (rfl) (by omega) (Nat.le_of_ble_eq_true rfl) (congrArg s (by omega)) ?_
    refine j_imul (v := (nI (k / (nn s p))) * (gL s p 6)) dX5_addressOf_47 (rfl) ?_
    refine j_iadd (v := (gL s p 0) + ((nI (k / (nn s p))) * (gL s p 6))) dX5_addressOf_48 (rfl) ?_
    refine j_iload dX5_addressOf_49 5 rfl ?_
    refine j_aload_n dX5_addressOf_51 0 rfl ?_
    refine g_X5_7 rfl dX5_addressOf_52 0 rfl rfl ?_
    refine j_iload_n dX5_addressOf_55 1 rfl ?_
    refine j_iconst (v := nI 4) dX5_addressOf_56 (by decide) ?_
    refine j_iadd (v := nI (92 + 14 * p + 4)) dX5_addressOf_57 (nI_add _ _) ?_
    refine j_iald (v := gL s p 3) dX5_addressOf_58 1 (92 + 14 * p + 4) rfl (rfl) (by omega) (Nat.le_of_ble_eq_true rfl) (congrArg s (by omega)) ?_
    refine j_imul (v := (nI (k % (nn s p))) * (gL s p 3)) dX5_addressOf_59 (rfl) ?_
    refine j_iadd (v := ((gL s p 0) + ((nI (k / (nn s p))) * (gL s p 6))) + ((nI (k % (nn s p))) * (gL s p 3))) dX5_addressOf_60 (rfl) ?_
    refine j_S (w2 := (MO D M q) ++ (AR D (M 1) 455 s)) (st2 := [.int (nI (am (((gL s p 0) + ((nI (k / (nn s p))) * (gL s p 6))) + ((nI (k % (nn s p))) * (gL s p 3)))))]) (c_X5_around (((gL s p 0) + ((nI (k / (nn s p))) * (gL s p 6))) + ((nI (k % (nn s p))) * (gL s p 3)))) rfl cw_X5_117 dX5_addressOf_61 [] rfl [] rfl rfl rfl ?_ ⟨rfl, ⟨Nat.le_of_ble_eq_true rfl, Nat.le_of_ble_eq_true rfl⟩, ⟨rfl, rfl⟩, ⟨Nat.le_of_ble_eq_true rfl, Nat.le_of_ble_eq_true rfl⟩, Nat.le_of_ble_eq_true rfl, rfl, rfl⟩
    refine j_goto (tgt := 103) dX5_addressOf_64 (by decide) ?_
    exact j_iret dX5_addressOf_103 ⟨rfl, rfl⟩ ⟨by rw [show way = 0 from h25]; rfl, rfl⟩

set_option maxHeartbeats 4000000 in
set_option maxRecDepth 100000 in
theorem c_X5_present (M : Nat → Nat) (q : QT) (s : SS) (hI : Inv s) (c : Nat) (hc : c < 4) : Ct D yX5_present cX5_present 3 (some .int) ({ frames := 1, cells := 0, slots := 0, locals := 21 } : Room) [.ref (M 0), .int (nI c)] ((MO D M q) ++ (AR D (M 1) 455 s)) (fun v_ u_ => v_ = some (.int (prM s c)) ∧ u_ = (MO D M q) ++ (AR D (M 1) 455 s)) := by
  have hpl := hI.pl_ hc
  refine ct_of (by decide) (Nat.le_of_ble_eq_true rfl) (lv0 := [(0, .ref (M 0)), (1, .int (nI c))]) rfl (fun Γ => ?_)
  refine j_iload_n dX5_present_0 1 rfl ?_
  refine j_aload_n dX5_present_1 0 rfl ?_
  refine g_X5_7 rfl dX5_present_2 0 rfl rfl ?_
  refine j_iload_n dX5_present_5 1 rfl ?_
  refine j_S (w2 := (MO D M q) ++ (AR D (M 1) 455 s)) (st2 := [.int (nI (64 + 7 * c)), .ref (M 1), .int (nI c)]) (c_X5_channelAt c) rfl cw_X5_75 dX5_present_6 [.ref (M 1), .int (nI c)] rfl [] rfl rfl rfl ?_ ⟨rfl, ⟨Nat.le_of_ble_eq_true rfl, Nat.le_of_ble_eq_true rfl⟩, ⟨rfl, rfl⟩, ⟨Nat.le_of_ble_eq_true rfl, Nat.le_of_ble_eq_true rfl⟩, Nat.le_of_ble_eq_true rfl, rfl, rfl⟩
  refine j_iconst (v := nI 4) dX5_present_9 (by decide) ?_
  refine j_iadd (v := nI (64 + 7 * c + 4)) dX5_present_10 (nI_add _ _) ?_
  refine j_iald (v := nI (hd s c)) dX5_present_11 1 (64 + 7 * c + 4) rfl (rfl) (by omega) (Nat.le_of_ble_eq_true rfl) ((hI.hd_ hc).1) ?_
  refine j_S (w2 := (MO D M q) ++ (AR D (M 1) 455 s)) (st2 := [.int (nI (92 + 14 * (c * 6 + hd s c)))]) (c_X5_slotAt c (hd s c)) rfl cw_X5_79 dX5_present_12 [] rfl [] rfl rfl rfl ?_ ⟨rfl, ⟨Nat.le_of_ble_eq_true rfl, Nat.le_of_ble_eq_true rfl⟩, ⟨rfl, rfl⟩, ⟨Nat.le_of_ble_eq_true rfl, Nat.le_of_ble_eq_true rfl⟩, Nat.le_of_ble_eq_true rfl, rfl, rfl⟩
  refine j_topi (v := nI (92 + 14 * pl s c)) (rfl) ?_
  refine j_istore_n (lv2 := [(0, .ref (M 0)), (1, .int (nI c)), (2, .int (nI (92 + 14 * pl s c)))]) dX5_present_15 (by decide) [1, 2, 0] rfl ?_
  refine j_aload_n dX5_present_16 0 rfl ?_
  refine j_iload_n dX5_present_17 2 rfl ?_
  refine j_V (w2 := (MO D M q) ++ (AR D (M 1) 455 s)) (st2 := [.int (bI (eng s (pl s c)))]) (c_X5_isEngines M q s hI (pl s c) (by omega)) rfl cw_X5_83 dX5_present_18 [] rfl [0, 1] rfl rfl rfl 5 ?_ ⟨rfl, ⟨Nat.le_of_ble_eq_true rfl, Nat.le_of_ble_eq_true rfl⟩, ⟨rfl, rfl⟩, ⟨Nat.le_of_ble_eq_true rfl, Nat.le_of_ble_eq_true rfl⟩, Nat.le_of_ble_eq_true rfl, rfl, rfl⟩ rfl rfl rfl
  refine j_if_eq_B (tgt := 40) dX5_present_21 (by decide) (fun h21 => ?_) (fun h21 => ?_)
  · skip
    refine j_bipush (v := (-9)) dX5_present_40 (by decide) ?_
    exact j_iret dX5_present_42 ⟨rfl, rfl⟩ ⟨by rw [prM_f (tc_ef h21)], rfl⟩
  · skip
    refine j_aload_n dX5_present_24 0 rfl ?_
    refine g_X5_7 rfl dX5_present_25 0 rfl rfl ?_
    refine j_iload_n dX5_present_28 2 rfl ?_
    refine j_bipush (v := nI 13) dX5_present_29 (by decide) ?_
    refine j_iadd (v := nI (92 + 14 * pl s c + 13)) dX5_present_31 (nI_add _ _) ?_
    refine j_iald (v := gL s (pl s c) 12) dX5_present_32 1 (92 + 14 * pl s c + 13) rfl (rfl) (by omega) (Nat.le_of_ble_eq_true rfl) (congrArg s (by omega)) ?_
    refine j_if_ne (tgt := 40) dX5_present_33 (by decide) (fun h33 => ?_) (fun h33 => ?_)
    · skip
      refine j_bipush (v := (-9)) dX5_present_40 (by decide) ?_
      exact j_iret dX5_present_42 ⟨rfl, rfl⟩ ⟨by rw [prM_f (tc_f2 h33)], rfl⟩
    · skip
      refine j_iload_n dX5_present_36 2 rfl ?_
      refine j_goto (tgt := 42) dX5_present_37 (by decide) ?_
      exact j_iret dX5_present_42 ⟨rfl, rfl⟩ ⟨by rw [prM_t (tc_e h21 h33)], rfl⟩

set_option maxHeartbeats 4000000 in
set_option maxRecDepth 100000 in
theorem c_X5_isReady (M : Nat → Nat) (q : QT) (s : SS) (hI : Inv s) (c : Nat) (hc : c < 4) : Ct D yX5_isReady cX5_isReady 4 (some .boolean) ({ frames := 2, cells := 0, slots := 0, locals := 43 } : Room) [.ref (M 0), .int (nI c)] ((MO D M q) ++ (AR D (M 1) 455 s)) (fun v_ u_ => v_ = some (.int (bI (rdy s c))) ∧ u_ = (MO D M q) ++ (AR D (M 1) 455 s)) := by
  have hpl := hI.pl_ hc
  refine ct_of (by decide) (Nat.le_of_ble_eq_true rfl) (lv0 := [(0, .ref (M 0)), (1, .int (nI c))]) rfl (fun Γ => ?_)
  refine j_aload_n dX5_isReady_0 0 rfl ?_
  refine j_iload_n dX5_isReady_1 1 rfl ?_
  refine j_V (w2 := (MO D M q) ++ (AR D (M 1) 455 s)) (st2 := [.int (prM s c)]) (c_X5_present M q s hI c (by omega)) rfl cw_X5_114 dX5_isReady_2 [] rfl [0, 1] rfl rfl rfl 5 ?_ ⟨rfl, ⟨Nat.le_of_ble_eq_true rfl, Nat.le_of_ble_eq_true rfl⟩, ⟨rfl, rfl⟩, ⟨Nat.le_of_ble_eq_true rfl, Nat.le_of_ble_eq_true rfl⟩, Nat.le_of_ble_eq_true rfl, rfl, rfl⟩ rfl rfl rfl
  rcases ht : tc s (pl s c) with _ | _
  · skip
    refine j_topi (v := (-9)) (prM_f ht) ?_
    refine j_istore_n (lv2 := [(0, .ref (M 0)), (1, .int (nI c)), (2, .int (-9))]) dX5_isReady_5 (by decide) [1, 2, 0] rfl ?_
    refine j_iload_n dX5_isReady_6 1 rfl ?_
    refine j_S (w2 := (MO D M q) ++ (AR D (M 1) 455 s)) (st2 := [.int (nI (64 + 7 * c))]) (c_X5_channelAt c) rfl cw_X5_75 dX5_isReady_7 [] rfl [] rfl rfl rfl ?_ ⟨rfl, ⟨Nat.le_of_ble_eq_true rfl, Nat.le_of_ble_eq_true rfl⟩, ⟨rfl, rfl⟩, ⟨Nat.le_of_ble_eq_true rfl, Nat.le_of_ble_eq_true rfl⟩, Nat.le_of_ble_eq_true rfl, rfl, rfl⟩
    refine j_istore_n (lv2 := [(0, .ref (M 0)), (1, .int (nI c)), (2, .int (-9)), (3, .int (nI (64 + 7 * c)))]) dX5_isReady_10 (by decide) [1, 2, 3, 0] rfl ?_
    refine j_aload_n dX5_isReady_11 0 rfl ?_
    refine g_X5_7 rfl dX5_isReady_12 0 rfl rfl ?_
    refine j_iload_n dX5_isReady_15 3 rfl ?_
    refine j_iconst (v := nI 0) dX5_isReady_16 (by decide) ?_
    refine j_iadd (v := nI (64 + 7 * c + 0)) dX5_isReady_17 (nI_add _ _) ?_
    refine j_iald (v := gC s c 0) dX5_isReady_18 1 (64 + 7 * c + 0) rfl (rfl) (by omega) (Nat.le_of_ble_eq_true rfl) (rfl) ?_
    refine j_iconst (v := nI 1) dX5_isReady_19 (by decide) ?_
    refine j_icmp_ne (tgt := 65) dX5_isReady_20 (by decide) (fun h20 => ?_) (fun h20 => ?_)
    · skip
      refine j_iconst (v := nI 0) dX5_isReady_65 (by decide) ?_
      exact j_zret dX5_isReady_66 (rfl) ⟨rfl, rfl⟩ ⟨rv_f (rdy_f1 ht), rfl⟩
    · skip
      refine j_iload_n dX5_isReady_23 2 rfl ?_
      refine j_bipush (v := (-9)) dX5_isReady_24 (by decide) ?_
      refine j_icmp_eq (tgt := 65) dX5_isReady_26 (by decide) (fun h26 => ?_) (fun h26 => absurd rfl h26)
      refine j_iconst (v := nI 0) dX5_isReady_65 (by decide) ?_
      exact j_zret dX5_isReady_66 (rfl) ⟨rfl, rfl⟩ ⟨rv_f (rdy_f1 ht), rfl⟩
  · skip
    refine j_topi (v := nI (92 + 14 * pl s c)) (prM_t ht) ?_
    refine j_istore_n (lv2 := [(0, .ref (M 0)), (1, .int (nI c)), (2, .int (nI (92 + 14 * pl s c)))]) dX5_isReady_5 (by decide) [1, 2, 0] rfl ?_
    refine j_iload_n dX5_isReady_6 1 rfl ?_
    refine j_S (w2 := (MO D M q) ++ (AR D (M 1) 455 s)) (st2 := [.int (nI (64 + 7 * c))]) (c_X5_channelAt c) rfl cw_X5_75 dX5_isReady_7 [] rfl [] rfl rfl rfl ?_ ⟨rfl, ⟨Nat.le_of_ble_eq_true rfl, Nat.le_of_ble_eq_true rfl⟩, ⟨rfl, rfl⟩, ⟨Nat.le_of_ble_eq_true rfl, Nat.le_of_ble_eq_true rfl⟩, Nat.le_of_ble_eq_true rfl, rfl, rfl⟩
    refine j_istore_n (lv2 := [(0, .ref (M 0)), (1, .int (nI c)), (2, .int (nI (92 + 14 * pl s c))), (3, .int (nI (64 + 7 * c)))]) dX5_isReady_10 (by decide) [1, 2, 3, 0] rfl ?_
    refine j_aload_n dX5_isReady_11 0 rfl ?_
    refine g_X5_7 rfl dX5_isReady_12 0 rfl rfl ?_
    refine j_iload_n dX5_isReady_15 3 rfl ?_
    refine j_iconst (v := nI 0) dX5_isReady_16 (by decide) ?_
    refine j_iadd (v := nI (64 + 7 * c + 0)) dX5_isReady_17 (nI_add _ _) ?_
    refine j_iald (v := gC s c 0) dX5_isReady_18 1 (64 + 7 * c + 0) rfl (rfl) (by omega) (Nat.le_of_ble_eq_true rfl) (rfl) ?_
    refine j_iconst (v := nI 1) dX5_isReady_19 (by decide) ?_
    refine j_icmp_ne (tgt := 65) dX5_isReady_20 (by decide) (fun h20 => ?_) (fun h20 => ?_)
    · skip
      refine j_iconst (v := nI 0) dX5_isReady_65 (by decide) ?_
      exact j_zret dX5_isReady_66 (rfl) ⟨rfl, rfl⟩ ⟨rv_f (rdy_f3 h20), rfl⟩
    · skip
      refine j_iload_n dX5_isReady_23 2 rfl ?_
      refine j_bipush (v := (-9)) dX5_isReady_24 (by decide) ?_
      refine j_icmp_eq (tgt := 65) dX5_isReady_26 (by decide) (fun h26 => absurd h26 (nI_m9 (by omega))) (fun h26 => ?_)
      refine j_aload_n dX5_isReady_29 0 rfl ?_
      refine g_X5_7 rfl dX5_isReady_30 0 rfl rfl ?_
      refine j_sipush (v := nI 428) dX5_isReady_33 (by decide) ?_
      refine j_iald (v := s 428) dX5_isReady_36 1 428 rfl (rfl) (by omega) (Nat.le_of_ble_eq_true rfl) (rfl) ?_
      refine j_iconst (v := nI 4) dX5_isReady_37 (by decide) ?_
      refine j_icmp_lt (tgt := 61) dX5_isReady_38 (by decide) (fun h38 => ?_) (fun h38 => absurd hI.q4 h38)
      refine j_iconst (v := nI 1) dX5_isReady_61 (by decide) ?_
      refine j_goto (tgt := 66) dX5_isReady_62 (by decide) ?_
      exact j_zret dX5_isReady_66 (rfl) ⟨rfl, rfl⟩ ⟨rv_t (rdy_t3 ht h20), rfl⟩

set_option maxHeartbeats 4000000 in
set_option maxRecDepth 100000 in
theorem c_X5_writes (M : Nat → Nat) (q : QT) (s : SS) (p : Nat) (hp : p < 24) (h8 : s 428 = 1) (h9 : s 429 = nI p) : Ct D yX5_writes cX5_writes 5 none ({ frames := 1, cells := 0, slots := 0, locals := 20 } : Room) [.ref (M 0), .int (nI 0)] ((MO D M q) ++ (AR D (M 1) 455 s)) (fun v_ u_ => v_ = none ∧ u_ = (MO D M q) ++ (AR D (M 1) 455 (wbF s p))) := by
  refine ct_of (by decide) (Nat.le_of_ble_eq_true rfl) (lv0 := [(0, .ref (M 0)), (1, .int (nI 0))]) rfl (fun Γ => ?_)
  refine j_aload_n dX5_writes_0 0 rfl ?_
  refine g_X5_7 rfl dX5_writes_1 0 rfl rfl ?_
  refine j_sipush (v := nI 429) dX5_writes_4 (by decide) ?_
  refine j_iload_n dX5_writes_7 1 rfl ?_
  refine j_iadd (v := nI (429 + 0)) dX5_writes_8 (nI_add _ _) ?_
  refine j_iald (v := nI p) dX5_writes_9 1 (429 + 0) rfl (rfl) (by omega) (Nat.le_of_ble_eq_true rfl) (h9) ?_
  refine j_istore_n (lv2 := [(0, .ref (M 0)), (1, .int (nI 0)), (2, .int (nI p))]) dX5_writes_10 (by decide) [1, 2, 0] rfl ?_
  refine j_bipush (v := nI 92) dX5_writes_11 (by decide) ?_
  refine j_bipush (v := nI 14) dX5_writes_13 (by decide) ?_
  refine j_iload_n dX5_writes_15 2 rfl ?_
  refine j_imul (v := nI (14 * p)) dX5_writes_16 (pk_mul _ _) ?_
  refine j_iadd (v := nI (92 + 14 * p)) dX5_writes_17 (nI_add _ _) ?_
  refine j_istore_n (lv2 := [(0, .ref (M 0)), (1, .int (nI 0)), (2, .int (nI p)), (3, .int (nI (92 + 14 * p)))]) dX5_writes_18 (by decide) [1, 2, 3, 0] rfl ?_
  refine j_aload_n dX5_writes_19 0 rfl ?_
  refine g_X5_7 rfl dX5_writes_20 0 rfl rfl ?_
  refine j_iload_n dX5_writes_23 3 rfl ?_
  refine j_bipush (v := nI 10) dX5_writes_24 (by decide) ?_
  refine j_iadd (v := nI (92 + 14 * p + 10)) dX5_writes_26 (nI_add _ _) ?_
  refine j_iconst (v := nI 0) dX5_writes_27 (by decide) ?_
  refine j_iast (w2 := (MO D M q) ++ (AR D (M 1) 455 (upd s (93 + 14 * p + 9) (nI 0)))) dX5_writes_28 1 (93 + 14 * p + 9) rfl (congrArg nI (by omega)) (by omega) (Nat.le_of_ble_eq_true rfl) (rfl) ?_
  refine j_aload_n dX5_writes_29 0 rfl ?_
  refine g_X5_7 rfl dX5_writes_30 0 rfl rfl ?_
  refine j_iload_n dX5_writes_33 3 rfl ?_
  refine j_bipush (v := nI 11) dX5_writes_34 (by decide) ?_
  refine j_iadd (v := nI (92 + 14 * p + 11)) dX5_writes_36 (nI_add _ _) ?_
  refine j_iconst (v := nI 1) dX5_writes_37 (by decide) ?_
  refine j_iast (w2 := (MO D M q) ++ (AR D (M 1) 455 (upd (upd s (93 + 14 * p + 9) (nI 0)) (93 + 14 * p + 10) (nI 1)))) dX5_writes_38 1 (93 + 14 * p + 10) rfl (congrArg nI (by omega)) (by omega) (Nat.le_of_ble_eq_true rfl) (rfl) ?_
  refine j_aload_n dX5_writes_39 0 rfl ?_
  refine g_X5_7 rfl dX5_writes_40 0 rfl rfl ?_
  refine j_iload_n dX5_writes_43 3 rfl ?_
  refine j_bipush (v := nI 13) dX5_writes_44 (by decide) ?_
  refine j_iadd (v := nI (92 + 14 * p + 13)) dX5_writes_46 (nI_add _ _) ?_
  refine j_iconst (v := nI 0) dX5_writes_47 (by decide) ?_
  refine j_iast (w2 := (MO D M q) ++ (AR D (M 1) 455 (wb1 s p))) dX5_writes_48 1 (93 + 14 * p + 12) rfl (congrArg nI (by omega)) (by omega) (Nat.le_of_ble_eq_true rfl) (rfl) ?_
  refine j_aload_n dX5_writes_49 0 rfl ?_
  refine g_X5_7 rfl dX5_writes_50 0 rfl rfl ?_
  refine j_iload_n dX5_writes_53 2 rfl ?_
  refine j_bipush (v := nI 6) dX5_writes_54 (by decide) ?_
  refine j_idiv (v := nI (p / 6)) dX5_writes_56 (by decide) (pk_div (by omega) (by omega) (by omega)) ?_
  refine j_S (w2 := (MO D M q) ++ (AR D (M 1) 455 (wb1 s p))) (st2 := [.int (nI (64 + 7 * (p / 6))), .ref (M 1)]) (c_X5_channelAt (p / 6)) rfl cw_X5_75 dX5_writes_57 [.ref (M 1)] rfl [] rfl rfl rfl ?_ ⟨rfl, ⟨Nat.le_of_ble_eq_true rfl, Nat.le_of_ble_eq_true rfl⟩, ⟨rfl, rfl⟩, ⟨Nat.le_of_ble_eq_true rfl, Nat.le_of_ble_eq_true rfl⟩, Nat.le_of_ble_eq_true rfl, rfl, rfl⟩
  refine j_iconst (v := nI 5) dX5_writes_60 (by decide) ?_
  refine j_iadd (v := nI ((64 + 7 * (p / 6)) + 5)) dX5_writes_61 (nI_add _ _) ?_
  refine j_dup2 dX5_writes_62 rfl rfl ?_
  refine j_iald (v := gC (wb1 s p) (p / 6) 5) dX5_writes_63 1 ((64 + 7 * (p / 6)) + 5) rfl (rfl) (by omega) (Nat.le_of_ble_eq_true rfl) (rfl) ?_
  refine j_aload_n dX5_writes_64 0 rfl ?_
  refine g_X5_7 rfl dX5_writes_65 0 rfl rfl ?_
  refine j_iload_n dX5_writes_68 3 rfl ?_
  refine j_bipush (v := nI 9) dX5_writes_69 (by decide) ?_
  refine j_iadd (v := nI (92 + 14 * p + 9)) dX5_writes_71 (nI_add _ _) ?_
  refine j_iald (v := gL (wb1 s p) p 8) dX5_writes_72 1 (92 + 14 * p + 9) rfl (rfl) (by omega) (Nat.le_of_ble_eq_true rfl) (congrArg (wb1 s p) (by omega)) ?_
  refine j_if_ne (tgt := 80) dX5_writes_73 (by decide) (fun h73 => ?_) (fun h73 => ?_)
  · skip
    refine j_iconst (v := nI 0) dX5_writes_80 (by decide) ?_
    refine j_iadd (v := (gC (wb1 s p) (p / 6) 5) + (nI 0)) dX5_writes_81 (rfl) ?_
    refine j_iast (w2 := (MO D M q) ++ (AR D (M 1) 455 (wb2 s p))) dX5_writes_82 1 ((64 + 7 * (p / 6)) + 5) rfl (rfl) (by omega) (Nat.le_of_ble_eq_true rfl) (by rw [wb2_n h73, add0, upd_id (f := wb1 s p) rfl]; rfl) ?_
    refine j_aload_n dX5_writes_83 0 rfl ?_
    refine g_X5_7 rfl dX5_writes_84 0 rfl rfl ?_
    refine j_sipush (v := nI 428) dX5_writes_87 (by decide) ?_
    refine j_dup2 dX5_writes_90 rfl rfl ?_
    refine j_iald (v := nI 1) dX5_writes_91 1 428 rfl (rfl) (by omega) (Nat.le_of_ble_eq_true rfl) ((wb2_ne ⟨by omega, by omega, by omega, by omega⟩).trans h8) ?_
    refine j_iconst (v := nI 1) dX5_writes_92 (by decide) ?_
    refine j_isub (v := nI (1 - 1)) dX5_writes_93 (pk_sub (by omega)) ?_
    refine j_iast (w2 := (MO D M q) ++ (AR D (M 1) 455 (wbF s p))) dX5_writes_94 1 428 rfl (rfl) (by omega) (Nat.le_of_ble_eq_true rfl) (rfl) ?_
    refine j_iload_n dX5_writes_95 1 rfl ?_
    refine j_istore (lv2 := [(0, .ref (M 0)), (1, .int (nI 0)), (2, .int (nI p)), (3, .int (nI (92 + 14 * p))), (4, .int (nI 0))]) dX5_writes_96 (by decide) [1, 2, 3, 4, 0] rfl ?_
    refine j_iload dX5_writes_98 4 rfl ?_
    refine j_aload_n dX5_writes_100 0 rfl ?_
    refine g_X5_7 rfl dX5_writes_101 0 rfl rfl ?_
    refine j_sipush (v := nI 428) dX5_writes_104 (by decide) ?_
    refine j_iald (v := nI 0) dX5_writes_107 1 428 rfl (rfl) (by omega) (Nat.le_of_ble_eq_true rfl) (up_eq) ?_
    refine j_icmp_ge_N (tgt := 141) dX5_writes_108 (by decide) ⟨by omega, by omega⟩ (fun h108 => ?_) (fun h108 => absurd (Nat.le_refl 0) h108)
    exact j_vret dX5_writes_141 ⟨rfl, rfl⟩ ⟨rfl, rfl⟩
  · skip
    refine j_iconst (v := nI 1) dX5_writes_76 (by decide) ?_
    refine j_goto (tgt := 81) dX5_writes_77 (by decide) ?_
    refine j_iadd (v := (gC (wb1 s p) (p / 6) 5) + (nI 1)) dX5_writes_81 (rfl) ?_
    refine j_iast (w2 := (MO D M q) ++ (AR D (M 1) 455 (wb2 s p))) dX5_writes_82 1 ((64 + 7 * (p / 6)) + 5) rfl (rfl) (by omega) (Nat.le_of_ble_eq_true rfl) (by rw [wb2_y h73]; rfl) ?_
    refine j_aload_n dX5_writes_83 0 rfl ?_
    refine g_X5_7 rfl dX5_writes_84 0 rfl rfl ?_
    refine j_sipush (v := nI 428) dX5_writes_87 (by decide) ?_
    refine j_dup2 dX5_writes_90 rfl rfl ?_
    refine j_iald (v := nI 1) dX5_writes_91 1 428 rfl (rfl) (by omega) (Nat.le_of_ble_eq_true rfl) ((wb2_ne ⟨by omega, by omega, by omega, by omega⟩).trans h8) ?_
    refine j_iconst (v := nI 1) dX5_writes_92 (by decide) ?_
    refine j_isub (v := nI (1 - 1)) dX5_writes_93 (pk_sub (by omega)) ?_
    refine j_iast (w2 := (MO D M q) ++ (AR D (M 1) 455 (wbF s p))) dX5_writes_94 1 428 rfl (rfl) (by omega) (Nat.le_of_ble_eq_true rfl) (rfl) ?_
    refine j_iload_n dX5_writes_95 1 rfl ?_
    refine j_istore (lv2 := [(0, .ref (M 0)), (1, .int (nI 0)), (2, .int (nI p)), (3, .int (nI (92 + 14 * p))), (4, .int (nI 0))]) dX5_writes_96 (by decide) [1, 2, 3, 4, 0] rfl ?_
    refine j_iload dX5_writes_98 4 rfl ?_
    refine j_aload_n dX5_writes_100 0 rfl ?_
    refine g_X5_7 rfl dX5_writes_101 0 rfl rfl ?_
    refine j_sipush (v := nI 428) dX5_writes_104 (by decide) ?_
    refine j_iald (v := nI 0) dX5_writes_107 1 428 rfl (rfl) (by omega) (Nat.le_of_ble_eq_true rfl) (up_eq) ?_
    refine j_icmp_ge_N (tgt := 141) dX5_writes_108 (by decide) ⟨by omega, by omega⟩ (fun h108 => ?_) (fun h108 => absurd (Nat.le_refl 0) h108)
    exact j_vret dX5_writes_141 ⟨rfl, rfl⟩ ⟨rfl, rfl⟩

set_option maxHeartbeats 4000000 in
set_option maxRecDepth 100000 in
theorem c_X5_carries (M : Nat → Nat) (q : QT) (s : SS) (hI : Inv s) (c : Nat) (hc : c < 4) (ht : tc s (pl s c) = true) (hq : s 428 = 0) : Ct D yX5_carries cX5_carries 7 none ({ frames := 2, cells := 0, slots := 0, locals := 46 } : Room) [.ref (M 0), .int (nI c)] ((MO D M q) ++ (AR D (M 1) 455 s)) (fun v_ u_ => v_ = none ∧ u_ = (MO D M q) ++ (AR D (M 1) 455 (grF true s c))) := by
  have hpl := hI.pl_ hc
  have hle := hI.le hpl (hI.tc_ hpl ht)
  have hbu := (hI.bu_ hc).2
  have hre := hle.2.2.2.2
  have hun := un_lt hle.2.1.2.2 hle.2.2.1.2.2
  have hmn : mny s c ≤ re s (pl s c) := Nat.min_le_right _ _
  have hhd := (hI.hd_ hc).2
  refine ct_of (by decide) (Nat.le_of_ble_eq_true rfl) (lv0 := [(0, .ref (M 0)), (1, .int (nI c))]) rfl (fun Γ => ?_)
  have K51 : J D Γ yX5_carries cX5_carries 7 none ({ frames := 2, cells := 0, slots := 0, locals := 46 } : Room) (Qf D Γ ({ frames := 2, cells := 0, slots := 0, locals := 46 } : Room) (fun v_ u_ => v_ = none ∧ u_ = (MO D M q) ++ (AR D (M 1) 455 (grF true s c)))) 0 0 ((MO D M q) ++ (AR D (M 1) 455 s)) 51 [(0, .ref (M 0)), (1, .int (nI c)), (2, .int (nI (64 + 7 * c))), (3, .int (nI (92 + 14 * pl s c)))] [.int (nI (mny s c))] := by
    refine j_istore (lv2 := [(0, .ref (M 0)), (1, .int (nI c)), (2, .int (nI (64 + 7 * c))), (3, .int (nI (92 + 14 * pl s c))), (4, .int (nI (mny s c)))]) dX5_carries_51 (by decide) [1, 2, 3, 4, 0] rfl ?_
    refine j_w (w2 := (MO D M q) ++ (AR D (M 1) 455 (cst s (pl s c) 0))) (by rw [cst_0 hle.2.2.2.1]) ?_
    refine j_iconst (v := nI 0) dX5_carries_53 (by decide) ?_
    refine j_istore (lv2 := [(0, .ref (M 0)), (1, .int (nI c)), (2, .int (nI (64 + 7 * c))), (3, .int (nI (92 + 14 * pl s c))), (4, .int (nI (mny s c))), (5, .int (nI 0))]) dX5_carries_54 (by decide) [1, 2, 3, 4, 5, 0] rfl ?_
    have L56 : ∀ (fuel : Nat) (e : Nat), e ≤ mny s c → mny s c - e < fuel → J D Γ yX5_carries cX5_carries 7 none ({ frames := 2, cells := 0, slots := 0, locals := 46 } : Room) (Qf D Γ ({ frames := 2, cells := 0, slots := 0, locals := 46 } : Room) (fun v_ u_ => v_ = none ∧ u_ = (MO D M q) ++ (AR D (M 1) 455 (grF true s c)))) 0 0 ((MO D M q) ++ (AR D (M 1) 455 (cst s (pl s c) e))) 56 [(0, .ref (M 0)), (1, .int (nI c)), (2, .int (nI (64 + 7 * c))), (3, .int (nI (92 + 14 * pl s c))), (4, .int (nI (mny s c))), (5, .int (nI e))] [] := by
      intro fuel
      induction fuel with
      | zero => intro e he hm; exact absurd hm (Nat.not_lt_zero _)
      | succ fuel ih =>
        intro e he hm
        have hn : gL (cst s (pl s c) e) (pl s c) 2 = nI (nn (cst s (pl s c) e) (pl s c)) := by unfold nn gL; rw [cst_ne (by omega) (by omega)]; exact hle.2.1.1
        have hnn : 1 ≤ nn (cst s (pl s c) e) (pl s c) ∧ nn (cst s (pl s c) e) (pl s c) < 17 := by unfold nn gL; rw [cst_ne (by omega) (by omega)]; exact hle.2.1.2
        obtain ⟨h1, h2⟩ := hnn
        have l0 := ad_lt (cst s (pl s c) e) (pl s c) (un s (pl s c) - (re s (pl s c) - e)) 0
        have l1 := ad_lt (cst s (pl s c) e) (pl s c) (un s (pl s c) - (re s (pl s c) - e)) 1
        refine j_iload dX5_carries_56 5 rfl ?_
        refine j_iload dX5_carries_58 4 rfl ?_
        refine j_icmp_ge_N (tgt := 125) dX5_carries_60 (by decide) ⟨by omega, by omega⟩ (fun h60 => ?_) (fun h60 => ?_)
        · skip
          obtain rfl : e = mny s c := by omega
          refine j_aload_n dX5_carries_125 0 rfl ?_
          refine g_X5_7 rfl dX5_carries_126 0 rfl rfl ?_
          refine j_iload_n dX5_carries_129 2 rfl ?_
          refine j_bipush (v := nI 6) dX5_carries_130 (by decide) ?_
          refine j_iadd (v := nI (64 + 7 * c + 6)) dX5_carries_132 (nI_add _ _) ?_
          refine j_dup2 dX5_carries_133 rfl rfl ?_
          refine j_iald (v := cst s (pl s c) (mny s c) (64 + 7 * c + 6)) dX5_carries_134 1 (64 + 7 * c + 6) rfl (rfl) (by omega) (Nat.le_of_ble_eq_true rfl) (rfl) ?_
          refine j_iconst (v := nI 1) dX5_carries_135 (by decide) ?_
          refine j_iadd (v := (cst s (pl s c) (mny s c) (64 + 7 * c + 6)) + (nI 1)) dX5_carries_136 (rfl) ?_
          refine j_iast (w2 := (MO D M q) ++ (AR D (M 1) 455 (upd (cst s (pl s c) (mny s c)) (64 + 7 * c + 6) (cst s (pl s c) (mny s c) (64 + 7 * c + 6) + nI 1)))) dX5_carries_137 1 (64 + 7 * c + 6) rfl (rfl) (by omega) (Nat.le_of_ble_eq_true rfl) (rfl) ?_
          refine j_aload_n dX5_carries_138 0 rfl ?_
          refine g_X5_7 rfl dX5_carries_139 0 rfl rfl ?_
          refine j_sipush (v := nI 453) dX5_carries_142 (by decide) ?_
          refine j_iload_n dX5_carries_145 1 rfl ?_
          refine j_iast (w2 := (MO D M q) ++ (AR D (M 1) 455 (gr3 true s c))) dX5_carries_146 1 453 rfl (rfl) (by omega) (Nat.le_of_ble_eq_true rfl) (by rw [← gr3_M hc hpl]; rfl) ?_
          refine j_aload_n dX5_carries_147 0 rfl ?_
          refine g_X5_7 rfl dX5_carries_148 0 rfl rfl ?_
          refine j_iload_n dX5_carries_151 3 rfl ?_
          refine j_bipush (v := nI 12) dX5_carries_152 (by decide) ?_
          refine j_iadd (v := nI (92 + 14 * pl s c + 12)) dX5_carries_154 (nI_add _ _) ?_
          refine j_iald (v := nI (re s (pl s c) - mny s c)) dX5_carries_155 1 (92 + 14 * pl s c + 12) rfl (rfl) (by omega) (Nat.le_of_ble_eq_true rfl) ((congrArg (gr3 true s c) (by omega)).trans up_eq) ?_
          refine j_if_ne_N (tgt := 232) dX5_carries_156 (by decide) (by omega) (fun h156 => ?_) (fun h156 => ?_)
          · skip
            exact j_vret dX5_carries_232 ⟨rfl, rfl⟩ ⟨rfl, by rw [grF_n (fun z => h156 (by omega))]⟩
          · skip
            refine j_aload_n dX5_carries_159 0 rfl ?_
            refine g_X5_7 rfl dX5_carries_160 0 rfl rfl ?_
            refine j_iload_n dX5_carries_163 3 rfl ?_
            refine j_bipush (v := nI 13) dX5_carries_164 (by decide) ?_
            refine j_iadd (v := nI (92 + 14 * pl s c + 13)) dX5_carries_166 (nI_add _ _) ?_
            refine j_iconst (v := nI 1) dX5_carries_167 (by decide) ?_
            refine j_iast (w2 := (MO D M q) ++ (AR D (M 1) 455 (upd (gr3 true s c) (93 + 14 * pl s c + 12) (nI 1)))) dX5_carries_168 1 (93 + 14 * pl s c + 12) rfl (congrArg nI (by omega)) (by omega) (Nat.le_of_ble_eq_true rfl) (rfl) ?_
            refine j_aload_n dX5_carries_169 0 rfl ?_
            refine g_X5_7 rfl dX5_carries_170 0 rfl rfl ?_
            refine j_sipush (v := nI 429) dX5_carries_173 (by decide) ?_
            refine j_aload_n dX5_carries_176 0 rfl ?_
            refine g_X5_7 rfl dX5_carries_177 0 rfl rfl ?_
            refine j_sipush (v := nI 428) dX5_carries_180 (by decide) ?_
            refine j_iald (v := nI 0) dX5_carries_183 1 428 rfl (rfl) (by omega) (Nat.le_of_ble_eq_true rfl) ((up_ne (by omega)).trans ((gr3_ne ⟨by omega, by omega, by omega⟩ (by omega)).trans hq)) ?_
            refine j_iadd (v := nI (429 + 0)) dX5_carries_184 (nI_add _ _) ?_
            refine j_bipush (v := nI 6) dX5_carries_185 (by decide) ?_
            refine j_iload_n dX5_carries_187 1 rfl ?_
            refine j_imul (v := nI (6 * c)) dX5_carries_188 (pk_mul _ _) ?_
            refine j_aload_n dX5_carries_189 0 rfl ?_
            refine g_X5_7 rfl dX5_carries_190 0 rfl rfl ?_
            refine j_iload_n dX5_carries_193 2 rfl ?_
            refine j_iconst (v := nI 4) dX5_carries_194 (by decide) ?_
            refine j_iadd (v := nI (64 + 7 * c + 4)) dX5_carries_195 (nI_add _ _) ?_
            refine j_iald (v := nI (hd s c)) dX5_carries_196 1 (64 + 7 * c + 4) rfl (rfl) (by omega) (Nat.le_of_ble_eq_true rfl) ((up_ne (by omega)).trans ((gr3_ne ⟨by omega, by omega, by omega⟩ (by omega)).trans (hI.hd_ hc).1)) ?_
            refine j_iadd (v := nI (pl s c)) dX5_carries_197 ((nI_add _ _).trans (congrArg nI (by unfold pl; omega))) ?_
            refine j_iast (w2 := (MO D M q) ++ (AR D (M 1) 455 (upd (upd (gr3 true s c) (93 + 14 * pl s c + 12) (nI 1)) 429 (nI (pl s c))))) dX5_carries_198 1 429 rfl (rfl) (by omega) (Nat.le_of_ble_eq_true rfl) (rfl) ?_
            refine j_aload_n dX5_carries_199 0 rfl ?_
            refine g_X5_7 rfl dX5_carries_200 0 rfl rfl ?_
            refine j_sipush (v := nI 428) dX5_carries_203 (by decide) ?_
            refine j_dup2 dX5_carries_206 rfl rfl ?_
            refine j_iald (v := nI 0) dX5_carries_207 1 428 rfl (rfl) (by omega) (Nat.le_of_ble_eq_true rfl) ((up_ne (by omega)).trans ((up_ne (by omega)).trans ((gr3_ne ⟨by omega, by omega, by omega⟩ (by omega)).trans hq))) ?_
            refine j_iconst (v := nI 1) dX5_carries_208 (by decide) ?_
            refine j_iadd (v := nI (0 + 1)) dX5_carries_209 (nI_add _ _) ?_
            refine j_iast (w2 := (MO D M q) ++ (AR D (M 1) 455 (upd (upd (upd (gr3 true s c) (93 + 14 * pl s c + 12) (nI 1)) 429 (nI (pl s c))) 428 (nI (0 + 1))))) dX5_carries_210 1 428 rfl (rfl) (by omega) (Nat.le_of_ble_eq_true rfl) (rfl) ?_
            refine j_aload_n dX5_carries_211 0 rfl ?_
            refine g_X5_7 rfl dX5_carries_212 0 rfl rfl ?_
            refine j_iload_n dX5_carries_215 2 rfl ?_
            refine j_iconst (v := nI 4) dX5_carries_216 (by decide) ?_
            refine j_iadd (v := nI (64 + 7 * c + 4)) dX5_carries_217 (nI_add _ _) ?_
            refine j_aload_n dX5_carries_218 0 rfl ?_
            refine g_X5_7 rfl dX5_carries_219 0 rfl rfl ?_
            refine j_iload_n dX5_carries_222 2 rfl ?_
            refine j_iconst (v := nI 4) dX5_carries_223 (by decide) ?_
            refine j_iadd (v := nI (64 + 7 * c + 4)) dX5_carries_224 (nI_add _ _) ?_
            refine j_iald (v := nI (hd s c)) dX5_carries_225 1 (64 + 7 * c + 4) rfl (rfl) (by omega) (Nat.le_of_ble_eq_true rfl) ((up_ne (by omega)).trans ((up_ne (by omega)).trans ((up_ne (by omega)).trans ((gr3_ne ⟨by omega, by omega, by omega⟩ (by omega)).trans (hI.hd_ hc).1)))) ?_
            refine j_iconst (v := nI 1) dX5_carries_226 (by decide) ?_
            refine j_iadd (v := nI (hd s c + 1)) dX5_carries_227 (nI_add _ _) ?_
            refine j_bipush (v := nI 6) dX5_carries_228 (by decide) ?_
            refine j_irem (v := nI ((hd s c + 1) % 6)) dX5_carries_230 (by decide) (pk_rem (by omega) (by omega) (by omega)) ?_
            refine j_iast (w2 := (MO D M q) ++ (AR D (M 1) 455 (upd (upd (upd (upd (gr3 true s c) (93 + 14 * pl s c + 12) (nI 1)) 429 (nI (pl s c))) 428 (nI (0 + 1))) (64 + 7 * c + 4) (nI ((hd s c + 1) % 6))))) dX5_carries_231 1 (64 + 7 * c + 4) rfl (rfl) (by omega) (Nat.le_of_ble_eq_true rfl) (rfl) ?_
            exact j_vret dX5_carries_232 ⟨rfl, rfl⟩ ⟨rfl, by rw [grF_y (by omega), show wtF (gr3 true s c) c (pl s c) = upd (upd (upd (upd (gr3 true s c) (93 + 14 * pl s c + 12) (nI 1)) 429 (nI (pl s c))) 428 (nI (0 + 1))) (64 + 7 * c + 4) (nI ((hd (gr3 true s c) c + 1) % 6)) from rfl, hd_gr3 hc]⟩
        · skip
          refine j_aload_n dX5_carries_63 0 rfl ?_
          refine j_iload_n dX5_carries_64 3 rfl ?_
          refine j_V (w2 := (MO D M q) ++ (AR D (M 1) 455 (cst s (pl s c) e))) (st2 := [.int (gL (cst s (pl s c) e) (pl s c) 2 * gL (cst s (pl s c) e) (pl s c) 5)]) (c_X5_unitsOf M q (cst s (pl s c) e) (pl s c) (by omega)) rfl cw_X5_120 dX5_carries_65 [] rfl [0, 1] rfl rfl rfl 5 ?_ ⟨rfl, ⟨Nat.le_of_ble_eq_true rfl, Nat.le_of_ble_eq_true rfl⟩, ⟨rfl, rfl⟩, ⟨Nat.le_of_ble_eq_true rfl, Nat.le_of_ble_eq_true rfl⟩, Nat.le_of_ble_eq_true rfl, rfl, rfl⟩ rfl rfl rfl
          refine j_topi (v := nI (un s (pl s c))) (by unfold gL; rw [cst_ne (by omega) (by omega), cst_ne (by omega) (by omega)]; show gL s (pl s c) 2 * gL s (pl s c) 5 = _; rw [hle.2.1.1, hle.2.2.1.1, pk_mul]; rfl) ?_
          refine j_aload_n dX5_carries_68 0 rfl ?_
          refine g_X5_7 rfl dX5_carries_69 0 rfl rfl ?_
          refine j_iload_n dX5_carries_72 3 rfl ?_
          refine j_bipush (v := nI 12) dX5_carries_73 (by decide) ?_
          refine j_iadd (v := nI (92 + 14 * pl s c + 12)) dX5_carries_75 (nI_add _ _) ?_
          refine j_iald (v := nI (re s (pl s c) - e)) dX5_carries_76 1 (92 + 14 * pl s c + 12) rfl (rfl) (by omega) (Nat.le_of_ble_eq_true rfl) ((congrArg (cst s (pl s c) e) (by omega)).trans up_eq) ?_
          refine j_isub (v := nI ((un s (pl s c)) - (re s (pl s c) - e))) dX5_carries_77 (pk_sub (by omega)) ?_
          refine j_istore (lv2 := [(0, .ref (M 0)), (1, .int (nI c)), (2, .int (nI (64 + 7 * c))), (3, .int (nI (92 + 14 * pl s c))), (4, .int (nI (mny s c))), (5, .int (nI e)), (6, .int (nI ((un s (pl s c)) - (re s (pl s c) - e))))]) dX5_carries_78 (by decide) [1, 2, 3, 4, 5, 6, 0] rfl ?_
          refine j_aload_n dX5_carries_80 0 rfl ?_
          refine g_X5_7 rfl dX5_carries_81 0 rfl rfl ?_
          refine j_aload_n dX5_carries_84 0 rfl ?_
          refine j_iload_n dX5_carries_85 3 rfl ?_
          refine j_iload dX5_carries_86 6 rfl ?_
          refine j_iconst (v := nI 1) dX5_carries_88 (by decide) ?_
          refine j_V (w2 := (MO D M q) ++ (AR D (M 1) 455 (cst s (pl s c) e))) (st2 := [.int (nI (ad (cst s (pl s c) e) (pl s c) ((un s (pl s c)) - (re s (pl s c) - e)) 1)), .ref (M 1)]) (c_X5_addressOf M q (cst s (pl s c) e) (pl s c) ((un s (pl s c)) - (re s (pl s c) - e)) 1 (by omega) hn (by omega) (by omega) (by omega) (by omega)) rfl cw_X5_123 dX5_carries_89 [.ref (M 1)] rfl [0, 1] rfl rfl rfl 5 ?_ ⟨rfl, ⟨Nat.le_of_ble_eq_true rfl, Nat.le_of_ble_eq_true rfl⟩, ⟨rfl, rfl⟩, ⟨Nat.le_of_ble_eq_true rfl, Nat.le_of_ble_eq_true rfl⟩, Nat.le_of_ble_eq_true rfl, rfl, rfl⟩ rfl rfl rfl
          refine j_aload_n dX5_carries_92 0 rfl ?_
          refine g_X5_7 rfl dX5_carries_93 0 rfl rfl ?_
          refine j_aload_n dX5_carries_96 0 rfl ?_
          refine j_iload_n dX5_carries_97 3 rfl ?_
          refine j_iload dX5_carries_98 6 rfl ?_
          refine j_iconst (v := nI 0) dX5_carries_100 (by decide) ?_
          refine j_V (w2 := (MO D M q) ++ (AR D (M 1) 455 (cst s (pl s c) e))) (st2 := [.int (nI (ad (cst s (pl s c) e) (pl s c) ((un s (pl s c)) - (re s (pl s c) - e)) 0)), .ref (M 1), .int (nI (ad (cst s (pl s c) e) (pl s c) ((un s (pl s c)) - (re s (pl s c) - e)) 1)), .ref (M 1)]) (c_X5_addressOf M q (cst s (pl s c) e) (pl s c) ((un s (pl s c)) - (re s (pl s c) - e)) 0 (by omega) hn (by omega) (by omega) (by omega) (by omega)) rfl cw_X5_123 dX5_carries_101 [.ref (M 1), .int (nI (ad (cst s (pl s c) e) (pl s c) ((un s (pl s c)) - (re s (pl s c) - e)) 1)), .ref (M 1)] rfl [0, 1] rfl rfl rfl 5 ?_ ⟨rfl, ⟨Nat.le_of_ble_eq_true rfl, Nat.le_of_ble_eq_true rfl⟩, ⟨rfl, rfl⟩, ⟨Nat.le_of_ble_eq_true rfl, Nat.le_of_ble_eq_true rfl⟩, Nat.le_of_ble_eq_true rfl, rfl, rfl⟩ rfl rfl rfl
          refine j_iald (v := cst s (pl s c) e (ad (cst s (pl s c) e) (pl s c) (un s (pl s c) - (re s (pl s c) - e)) 0)) dX5_carries_104 1 (ad (cst s (pl s c) e) (pl s c) ((un s (pl s c)) - (re s (pl s c) - e)) 0) rfl (rfl) (by omega) (Nat.le_of_ble_eq_true rfl) (rfl) ?_
          refine j_iast (w2 := (MO D M q) ++ (AR D (M 1) 455 (upd (cst s (pl s c) e) (ad (cst s (pl s c) e) (pl s c) (un s (pl s c) - (re s (pl s c) - e)) 1) (cst s (pl s c) e (ad (cst s (pl s c) e) (pl s c) (un s (pl s c) - (re s (pl s c) - e)) 0))))) dX5_carries_105 1 (ad (cst s (pl s c) e) (pl s c) ((un s (pl s c)) - (re s (pl s c) - e)) 1) rfl (rfl) (by omega) (Nat.le_of_ble_eq_true rfl) (rfl) ?_
          refine j_aload_n dX5_carries_106 0 rfl ?_
          refine g_X5_7 rfl dX5_carries_107 0 rfl rfl ?_
          refine j_iload_n dX5_carries_110 3 rfl ?_
          refine j_bipush (v := nI 12) dX5_carries_111 (by decide) ?_
          refine j_iadd (v := nI (92 + 14 * pl s c + 12)) dX5_carries_113 (nI_add _ _) ?_
          refine j_dup2 dX5_carries_114 rfl rfl ?_
          refine j_iald (v := nI (re s (pl s c) - e)) dX5_carries_115 1 (92 + 14 * pl s c + 12) rfl (rfl) (by omega) (Nat.le_of_ble_eq_true rfl) ((congrArg _ (by omega : 92 + 14 * pl s c + 12 = 93 + 14 * pl s c + 11)).trans ((up_ne (by omega)).trans up_eq)) ?_
          refine j_iconst (v := nI 1) dX5_carries_116 (by decide) ?_
          refine j_isub (v := nI ((re s (pl s c) - e) - 1)) dX5_carries_117 (pk_sub (by omega)) ?_
          refine j_iast (w2 := (MO D M q) ++ (AR D (M 1) 455 (cst s (pl s c) (e + 1)))) dX5_carries_118 1 (93 + 14 * pl s c + 11) rfl (congrArg nI (by omega)) (by omega) (Nat.le_of_ble_eq_true rfl) (by rw [← cst_s (s := s) (p := pl s c) (e := e) (by omega) (by omega)]; rfl) ?_
          refine j_iinc (v := nI (e + 1)) (lv2 := [(0, .ref (M 0)), (1, .int (nI c)), (2, .int (nI (64 + 7 * c))), (3, .int (nI (92 + 14 * pl s c))), (4, .int (nI (mny s c))), (5, .int (nI (e + 1))), (6, .int (nI ((un s (pl s c)) - (re s (pl s c) - e))))]) dX5_carries_119 5 rfl (nI_1 _) (by decide) [1, 2, 3, 4, 5, 0, 6] rfl ?_
          refine j_goto (tgt := 56) dX5_carries_122 (by decide) ?_
          refine j_lv (lv2 := [(0, .ref (M 0)), (1, .int (nI c)), (2, .int (nI (64 + 7 * c))), (3, .int (nI (92 + 14 * pl s c))), (4, .int (nI (mny s c))), (5, .int (nI (e + 1)))]) [0, 1, 2, 3, 4, 5] rfl ?_
          exact ih (e + 1) (by omega) (by omega)
    exact L56 (mny s c + 1) 0 (by omega) (by omega)
  refine j_iload_n dX5_carries_0 1 rfl ?_
  refine j_S (w2 := (MO D M q) ++ (AR D (M 1) 455 s)) (st2 := [.int (nI (64 + 7 * c))]) (c_X5_channelAt c) rfl cw_X5_75 dX5_carries_1 [] rfl [] rfl rfl rfl ?_ ⟨rfl, ⟨Nat.le_of_ble_eq_true rfl, Nat.le_of_ble_eq_true rfl⟩, ⟨rfl, rfl⟩, ⟨Nat.le_of_ble_eq_true rfl, Nat.le_of_ble_eq_true rfl⟩, Nat.le_of_ble_eq_true rfl, rfl, rfl⟩
  refine j_istore_n (lv2 := [(0, .ref (M 0)), (1, .int (nI c)), (2, .int (nI (64 + 7 * c)))]) dX5_carries_4 (by decide) [1, 2, 0] rfl ?_
  refine j_aload_n dX5_carries_5 0 rfl ?_
  refine j_iload_n dX5_carries_6 1 rfl ?_
  refine j_V (w2 := (MO D M q) ++ (AR D (M 1) 455 s)) (st2 := [.int (prM s c)]) (c_X5_present M q s hI c (by omega)) rfl cw_X5_114 dX5_carries_7 [] rfl [0, 1] rfl rfl rfl 5 ?_ ⟨rfl, ⟨Nat.le_of_ble_eq_true rfl, Nat.le_of_ble_eq_true rfl⟩, ⟨rfl, rfl⟩, ⟨Nat.le_of_ble_eq_true rfl, Nat.le_of_ble_eq_true rfl⟩, Nat.le_of_ble_eq_true rfl, rfl, rfl⟩ rfl rfl rfl
  refine j_topi (v := nI (92 + 14 * pl s c)) (prM_t ht) ?_
  refine j_istore_n (lv2 := [(0, .ref (M 0)), (1, .int (nI c)), (2, .int (nI (64 + 7 * c))), (3, .int (nI (92 + 14 * pl s c)))]) dX5_carries_10 (by decide) [1, 2, 3, 0] rfl ?_
  refine j_aload_n dX5_carries_11 0 rfl ?_
  refine g_X5_7 rfl dX5_carries_12 0 rfl rfl ?_
  refine j_iload_n dX5_carries_15 2 rfl ?_
  refine j_iconst (v := nI 2) dX5_carries_16 (by decide) ?_
  refine j_iadd (v := nI (64 + 7 * c + 2)) dX5_carries_17 (nI_add _ _) ?_
  refine j_iald (v := nI (bu s c)) dX5_carries_18 1 (64 + 7 * c + 2) rfl (rfl) (by omega) (Nat.le_of_ble_eq_true rfl) ((hI.bu_ hc).1) ?_
  refine j_aload_n dX5_carries_19 0 rfl ?_
  refine g_X5_7 rfl dX5_carries_20 0 rfl rfl ?_
  refine j_iload_n dX5_carries_23 3 rfl ?_
  refine j_bipush (v := nI 12) dX5_carries_24 (by decide) ?_
  refine j_iadd (v := nI (92 + 14 * pl s c + 12)) dX5_carries_26 (nI_add _ _) ?_
  refine j_iald (v := nI (re s (pl s c))) dX5_carries_27 1 (92 + 14 * pl s c + 12) rfl (rfl) (by omega) (Nat.le_of_ble_eq_true rfl) ((congrArg s (by omega)).trans hle.2.2.2.1) ?_
  refine j_icmp_ge_N (tgt := 42) dX5_carries_28 (by decide) ⟨by omega, by omega⟩ (fun h28 => ?_) (fun h28 => ?_)
  · skip
    refine j_aload_n dX5_carries_42 0 rfl ?_
    refine g_X5_7 rfl dX5_carries_43 0 rfl rfl ?_
    refine j_iload_n dX5_carries_46 3 rfl ?_
    refine j_bipush (v := nI 12) dX5_carries_47 (by decide) ?_
    refine j_iadd (v := nI (92 + 14 * pl s c + 12)) dX5_carries_49 (nI_add _ _) ?_
    refine j_iald (v := nI (re s (pl s c))) dX5_carries_50 1 (92 + 14 * pl s c + 12) rfl (rfl) (by omega) (Nat.le_of_ble_eq_true rfl) ((congrArg s (by omega)).trans hle.2.2.2.1) ?_
    refine j_topi (v := nI (mny s c)) (congrArg nI (mny_a h28)) ?_
    exact K51 
  · skip
    refine j_aload_n dX5_carries_31 0 rfl ?_
    refine g_X5_7 rfl dX5_carries_32 0 rfl rfl ?_
    refine j_iload_n dX5_carries_35 2 rfl ?_
    refine j_iconst (v := nI 2) dX5_carries_36 (by decide) ?_
    refine j_iadd (v := nI (64 + 7 * c + 2)) dX5_carries_37 (nI_add _ _) ?_
    refine j_iald (v := nI (bu s c)) dX5_carries_38 1 (64 + 7 * c + 2) rfl (rfl) (by omega) (Nat.le_of_ble_eq_true rfl) ((hI.bu_ hc).1) ?_
    refine j_goto (tgt := 51) dX5_carries_39 (by decide) ?_
    refine j_topi (v := nI (mny s c)) (congrArg nI (mny_b h28)) ?_
    exact K51 

set_option maxHeartbeats 4000000 in
set_option maxRecDepth 100000 in
theorem c_X5_ticksOnce (M : Nat → Nat) (q : QT) (s : SS) (hI : Inv s) : Ct D yX5_ticksOnce cX5_ticksOnce 5 (some .int) ({ frames := 3, cells := 0, slots := 0, locals := 72 } : Room) [.ref (M 0)] ((MO D M q) ++ (AR D (M 1) 455 s)) (fun v_ u_ => v_ = some (.int (oN (tkW s))) ∧ u_ = (MO D M q) ++ (AR D (M 1) 455 (tkF true s))) := by
  refine ct_of (by decide) (Nat.le_of_ble_eq_true rfl) (lv0 := [(0, .ref (M 0))]) rfl (fun Γ => ?_)
  have K16 : J D Γ yX5_ticksOnce cX5_ticksOnce 5 (some .int) ({ frames := 3, cells := 0, slots := 0, locals := 72 } : Room) (Qf D Γ ({ frames := 3, cells := 0, slots := 0, locals := 72 } : Room) (fun v_ u_ => v_ = some (.int (oN (tkW s))) ∧ u_ = (MO D M q) ++ (AR D (M 1) 455 (tkF true s)))) 0 0 ((MO D M q) ++ (AR D (M 1) 455 (tk1 s))) 16 [(0, .ref (M 0))] [] := by
    refine j_bipush (v := (-9)) dX5_ticksOnce_16 (by decide) ?_
    refine j_istore_n (lv2 := [(0, .ref (M 0)), (1, .int (-9))]) dX5_ticksOnce_18 (by decide) [1, 0] rfl ?_
    refine j_iconst (v := nI 1) dX5_ticksOnce_19 (by decide) ?_
    refine j_istore_n (lv2 := [(0, .ref (M 0)), (1, .int (-9)), (2, .int (nI 1))]) dX5_ticksOnce_20 (by decide) [1, 2, 0] rfl ?_
    have L21 : ∀ (fuel : Nat) (i : Nat), i ≤ 4 → 4 - i < fuel → J D Γ yX5_ticksOnce cX5_ticksOnce 5 (some .int) ({ frames := 3, cells := 0, slots := 0, locals := 72 } : Room) (Qf D Γ ({ frames := 3, cells := 0, slots := 0, locals := 72 } : Room) (fun v_ u_ => v_ = some (.int (oN (tkW s))) ∧ u_ = (MO D M q) ++ (AR D (M 1) 455 (tkF true s)))) 0 0 ((MO D M q) ++ (AR D (M 1) 455 (tk1 s))) 21 [(0, .ref (M 0)), (1, .int (oN (whoN (tk1 s) i))), (2, .int (nI (i + 1)))] [] := by
      intro fuel
      induction fuel with
      | zero => intro i hi hm; exact absurd hm (Nat.not_lt_zero _)
      | succ fuel ih =>
        intro i hi hm
        have hc4 : (lst (tk1 s) + (i + 1)) % 4 < 4 := Nat.mod_lt _ (by decide)
        have hlu := (Inv_tk1 hI).lst_.2
        refine j_iload_n dX5_ticksOnce_21 2 rfl ?_
        refine j_iconst (v := nI 4) dX5_ticksOnce_22 (by decide) ?_
        refine j_icmp_gt_N (tgt := 102) dX5_ticksOnce_23 (by decide) ⟨by omega, by omega⟩ (fun h23 => ?_) (fun h23 => ?_)
        · skip
          obtain rfl : i = 4 := by omega
          have hWM := tkW_M hI
          rcases hw : whoN (tk1 s) 4 with _ | c
          · skip
            refine j_iload_n dX5_ticksOnce_102 1 rfl ?_
            refine j_bipush (v := (-9)) dX5_ticksOnce_103 (by decide) ?_
            refine j_icmp_eq (tgt := 113) dX5_ticksOnce_105 (by decide) (fun h105 => ?_) (fun h105 => absurd rfl h105)
            refine j_aload_n dX5_ticksOnce_113 0 rfl ?_
            refine g_X5_7 rfl dX5_ticksOnce_114 0 rfl rfl ?_
            refine j_sipush (v := nI 454) dX5_ticksOnce_117 (by decide) ?_
            refine j_dup2 dX5_ticksOnce_120 rfl rfl ?_
            refine j_iald (v := (tk1 s) 454) dX5_ticksOnce_121 1 454 rfl (rfl) (by omega) (Nat.le_of_ble_eq_true rfl) (rfl) ?_
            refine j_iconst (v := nI 1) dX5_ticksOnce_122 (by decide) ?_
            refine j_iadd (v := ((tk1 s) 454) + (nI 1)) dX5_ticksOnce_123 (rfl) ?_
            refine j_iast (w2 := (MO D M q) ++ (AR D (M 1) 455 (upd (tk1 s) 454 ((tk1 s) 454 + nI 1)))) dX5_ticksOnce_124 1 454 rfl (rfl) (by omega) (Nat.le_of_ble_eq_true rfl) (rfl) ?_
            refine j_iload_n dX5_ticksOnce_125 1 rfl ?_
            exact j_iret dX5_ticksOnce_126 ⟨rfl, rfl⟩ ⟨by rw [show tkW s = none from hWM.trans hw], by rw [tkF_Mn hI hw]⟩
          · skip
            have hcc := who_lt (s := tk1 s) hw
            refine j_iload_n dX5_ticksOnce_102 1 rfl ?_
            refine j_bipush (v := (-9)) dX5_ticksOnce_103 (by decide) ?_
            refine j_icmp_eq (tgt := 113) dX5_ticksOnce_105 (by decide) (fun h105 => absurd h105 (nI_m9 (by omega))) (fun h105 => ?_)
            refine j_aload_n dX5_ticksOnce_108 0 rfl ?_
            refine j_iload_n dX5_ticksOnce_109 1 rfl ?_
            refine j_V (w2 := (MO D M q) ++ (AR D (M 1) 455 (grF true (tk1 s) c))) (st2 := []) (c_X5_carries M q (tk1 s) (Inv_tk1 hI) c hcc (who_tc hw) tk1_q) rfl cw_X5_134 dX5_ticksOnce_110 [] rfl [0, 1] rfl rfl rfl 5 ?_ ⟨rfl, ⟨Nat.le_of_ble_eq_true rfl, Nat.le_of_ble_eq_true rfl⟩, ⟨rfl, rfl⟩, ⟨Nat.le_of_ble_eq_true rfl, Nat.le_of_ble_eq_true rfl⟩, Nat.le_of_ble_eq_true rfl, rfl, rfl⟩ rfl rfl rfl
            refine j_aload_n dX5_ticksOnce_113 0 rfl ?_
            refine g_X5_7 rfl dX5_ticksOnce_114 0 rfl rfl ?_
            refine j_sipush (v := nI 454) dX5_ticksOnce_117 (by decide) ?_
            refine j_dup2 dX5_ticksOnce_120 rfl rfl ?_
            refine j_iald (v := (grF true (tk1 s) c) 454) dX5_ticksOnce_121 1 454 rfl (rfl) (by omega) (Nat.le_of_ble_eq_true rfl) (rfl) ?_
            refine j_iconst (v := nI 1) dX5_ticksOnce_122 (by decide) ?_
            refine j_iadd (v := ((grF true (tk1 s) c) 454) + (nI 1)) dX5_ticksOnce_123 (rfl) ?_
            refine j_iast (w2 := (MO D M q) ++ (AR D (M 1) 455 (upd (grF true (tk1 s) c) 454 ((grF true (tk1 s) c) 454 + nI 1)))) dX5_ticksOnce_124 1 454 rfl (rfl) (by omega) (Nat.le_of_ble_eq_true rfl) (rfl) ?_
            refine j_iload_n dX5_ticksOnce_125 1 rfl ?_
            exact j_iret dX5_ticksOnce_126 ⟨rfl, rfl⟩ ⟨by rw [show tkW s = some c from hWM.trans hw], by rw [tkF_Ms hI hw]⟩
        · skip
          refine j_aload_n dX5_ticksOnce_26 0 rfl ?_
          refine g_X5_7 rfl dX5_ticksOnce_27 0 rfl rfl ?_
          refine j_sipush (v := nI 453) dX5_ticksOnce_30 (by decide) ?_
          refine j_iald (v := nI (lst (tk1 s))) dX5_ticksOnce_33 1 453 rfl (rfl) (by omega) (Nat.le_of_ble_eq_true rfl) ((Inv_tk1 hI).lst_.1) ?_
          refine j_iload_n dX5_ticksOnce_34 2 rfl ?_
          refine j_iadd (v := nI ((lst (tk1 s)) + (i + 1))) dX5_ticksOnce_35 (nI_add _ _) ?_
          refine j_iconst (v := nI 4) dX5_ticksOnce_36 (by decide) ?_
          refine j_irem (v := nI (((lst (tk1 s)) + (i + 1)) % 4)) dX5_ticksOnce_37 (by decide) (pk_rem (by omega) (by omega) (by omega)) ?_
          refine j_istore_n (lv2 := [(0, .ref (M 0)), (1, .int (oN (whoN (tk1 s) i))), (2, .int (nI (i + 1))), (3, .int (nI (((lst (tk1 s)) + (i + 1)) % 4)))]) dX5_ticksOnce_38 (by decide) [1, 2, 3, 0] rfl ?_
          refine j_aload_n dX5_ticksOnce_39 0 rfl ?_
          refine j_iload_n dX5_ticksOnce_40 3 rfl ?_
          refine j_V (w2 := (MO D M q) ++ (AR D (M 1) 455 (tk1 s))) (st2 := [.int (bI (rdy (tk1 s) (((lst (tk1 s)) + (i + 1)) % 4)))]) (c_X5_isReady M q (tk1 s) (Inv_tk1 hI) (((lst (tk1 s)) + (i + 1)) % 4) (by omega)) rfl cw_X5_131 dX5_ticksOnce_41 [] rfl [0, 1] rfl rfl rfl 5 ?_ ⟨rfl, ⟨Nat.le_of_ble_eq_true rfl, Nat.le_of_ble_eq_true rfl⟩, ⟨rfl, rfl⟩, ⟨Nat.le_of_ble_eq_true rfl, Nat.le_of_ble_eq_true rfl⟩, Nat.le_of_ble_eq_true rfl, rfl, rfl⟩ rfl rfl rfl
          refine j_if_eq_B (tgt := 82) dX5_ticksOnce_44 (by decide) (fun h44 => ?_) (fun h44 => ?_)
          · skip
            refine j_iconst (v := nI 0) dX5_ticksOnce_82 (by decide) ?_
            refine j_istore (lv2 := [(0, .ref (M 0)), (1, .int (oN (whoN (tk1 s) i))), (2, .int (nI (i + 1))), (3, .int (nI (((lst (tk1 s)) + (i + 1)) % 4))), (4, .int (nI 0))]) dX5_ticksOnce_83 (by decide) [1, 2, 3, 4, 0] rfl ?_
            refine j_iload dX5_ticksOnce_85 4 rfl ?_
            refine j_if_eq_N (tgt := 94) dX5_ticksOnce_87 (by decide) (by omega) (fun h87 => ?_) (fun h87 => absurd rfl h87)
            refine j_iload_n dX5_ticksOnce_94 1 rfl ?_
            refine j_istore_n (lv2 := [(0, .ref (M 0)), (1, .int (oN (whoN (tk1 s) i))), (2, .int (nI (i + 1))), (3, .int (nI (((lst (tk1 s)) + (i + 1)) % 4))), (4, .int (nI 0))]) dX5_ticksOnce_95 (by decide) [1, 0, 2, 3, 4] rfl ?_
            refine j_iinc (v := nI (i + 1 + 1)) (lv2 := [(0, .ref (M 0)), (1, .int (oN (whoN (tk1 s) i))), (2, .int (nI (i + 1 + 1))), (3, .int (nI (((lst (tk1 s)) + (i + 1)) % 4))), (4, .int (nI 0))]) dX5_ticksOnce_96 2 rfl (nI_1 _) (by decide) [1, 2, 0, 3, 4] rfl ?_
            refine j_goto (tgt := 21) dX5_ticksOnce_99 (by decide) ?_
            refine j_lv (lv2 := [(0, .ref (M 0)), (1, .int (oN (whoN (tk1 s) i))), (2, .int (nI (i + 1 + 1)))]) [0, 1, 2] rfl ?_
            have hh := ih (i + 1) (by omega) (by omega)
            rw [show whoN (tk1 s) (i + 1) = whoN (tk1 s) i from wst_n h44] at hh
            exact hh
          · skip
            rcases hb : whoN (tk1 s) i with _ | d
            · skip
              refine j_iload_n dX5_ticksOnce_47 1 rfl ?_
              refine j_bipush (v := (-9)) dX5_ticksOnce_48 (by decide) ?_
              refine j_icmp_eq (tgt := 78) dX5_ticksOnce_50 (by decide) (fun h50 => ?_) (fun h50 => absurd rfl h50)
              refine j_iconst (v := nI 1) dX5_ticksOnce_78 (by decide) ?_
              refine j_goto (tgt := 83) dX5_ticksOnce_79 (by decide) ?_
              refine j_istore (lv2 := [(0, .ref (M 0)), (1, .int (-9)), (2, .int (nI (i + 1))), (3, .int (nI (((lst (tk1 s)) + (i + 1)) % 4))), (4, .int (nI 1))]) dX5_ticksOnce_83 (by decide) [1, 2, 3, 4, 0] rfl ?_
              refine j_iload dX5_ticksOnce_85 4 rfl ?_
              refine j_if_eq_N (tgt := 94) dX5_ticksOnce_87 (by decide) (by omega) (fun h87 => absurd h87 (by decide)) (fun h87 => ?_)
              refine j_iload_n dX5_ticksOnce_90 3 rfl ?_
              refine j_goto (tgt := 95) dX5_ticksOnce_91 (by decide) ?_
              refine j_istore_n (lv2 := [(0, .ref (M 0)), (1, .int (nI (((lst (tk1 s)) + (i + 1)) % 4))), (2, .int (nI (i + 1))), (3, .int (nI (((lst (tk1 s)) + (i + 1)) % 4))), (4, .int (nI 1))]) dX5_ticksOnce_95 (by decide) [1, 0, 2, 3, 4] rfl ?_
              refine j_iinc (v := nI (i + 1 + 1)) (lv2 := [(0, .ref (M 0)), (1, .int (nI (((lst (tk1 s)) + (i + 1)) % 4))), (2, .int (nI (i + 1 + 1))), (3, .int (nI (((lst (tk1 s)) + (i + 1)) % 4))), (4, .int (nI 1))]) dX5_ticksOnce_96 2 rfl (nI_1 _) (by decide) [1, 2, 0, 3, 4] rfl ?_
              refine j_goto (tgt := 21) dX5_ticksOnce_99 (by decide) ?_
              refine j_lv (lv2 := [(0, .ref (M 0)), (1, .int (nI (((lst (tk1 s)) + (i + 1)) % 4))), (2, .int (nI (i + 1 + 1)))]) [0, 1, 2] rfl ?_
              have hh := ih (i + 1) (by omega) (by omega)
              rw [show whoN (tk1 s) (i + 1) = some ((lst (tk1 s) + (i + 1)) % 4) from (by show wst (tk1 s) (whoN (tk1 s) i) _ = some ((lst (tk1 s) + (i + 1)) % 4); rw [hb]; exact wst_0 h44)] at hh
              exact hh
            · skip
              have hd4 := whoN_lt (tk1 s) i d hb
              refine j_iload_n dX5_ticksOnce_47 1 rfl ?_
              refine j_bipush (v := (-9)) dX5_ticksOnce_48 (by decide) ?_
              refine j_icmp_eq (tgt := 78) dX5_ticksOnce_50 (by decide) (fun h50 => absurd h50 (nI_m9 (by omega))) (fun h50 => ?_)
              refine j_aload_n dX5_ticksOnce_53 0 rfl ?_
              refine g_X5_7 rfl dX5_ticksOnce_54 0 rfl rfl ?_
              refine j_iload_n dX5_ticksOnce_57 3 rfl ?_
              refine j_S (w2 := (MO D M q) ++ (AR D (M 1) 455 (tk1 s))) (st2 := [.int (nI (64 + 7 * (((lst (tk1 s)) + (i + 1)) % 4))), .ref (M 1)]) (c_X5_channelAt (((lst (tk1 s)) + (i + 1)) % 4)) rfl cw_X5_75 dX5_ticksOnce_58 [.ref (M 1)] rfl [] rfl rfl rfl ?_ ⟨rfl, ⟨Nat.le_of_ble_eq_true rfl, Nat.le_of_ble_eq_true rfl⟩, ⟨rfl, rfl⟩, ⟨Nat.le_of_ble_eq_true rfl, Nat.le_of_ble_eq_true rfl⟩, Nat.le_of_ble_eq_true rfl, rfl, rfl⟩
              refine j_iconst (v := nI 1) dX5_ticksOnce_61 (by decide) ?_
              refine j_iadd (v := nI ((64 + 7 * (((lst (tk1 s)) + (i + 1)) % 4)) + 1)) dX5_ticksOnce_62 (nI_add _ _) ?_
              refine j_iald (v := gC (tk1 s) ((lst (tk1 s) + (i + 1)) % 4) 1) dX5_ticksOnce_63 1 ((64 + 7 * (((lst (tk1 s)) + (i + 1)) % 4)) + 1) rfl (rfl) (by omega) (Nat.le_of_ble_eq_true rfl) (rfl) ?_
              refine j_aload_n dX5_ticksOnce_64 0 rfl ?_
              refine g_X5_7 rfl dX5_ticksOnce_65 0 rfl rfl ?_
              refine j_iload_n dX5_ticksOnce_68 1 rfl ?_
              refine j_S (w2 := (MO D M q) ++ (AR D (M 1) 455 (tk1 s))) (st2 := [.int (nI (64 + 7 * d)), .ref (M 1), .int (gC (tk1 s) ((lst (tk1 s) + (i + 1)) % 4) 1)]) (c_X5_channelAt d) rfl cw_X5_75 dX5_ticksOnce_69 [.ref (M 1), .int (gC (tk1 s) ((lst (tk1 s) + (i + 1)) % 4) 1)] rfl [] rfl rfl rfl ?_ ⟨rfl, ⟨Nat.le_of_ble_eq_true rfl, Nat.le_of_ble_eq_true rfl⟩, ⟨rfl, rfl⟩, ⟨Nat.le_of_ble_eq_true rfl, Nat.le_of_ble_eq_true rfl⟩, Nat.le_of_ble_eq_true rfl, rfl, rfl⟩
              refine j_iconst (v := nI 1) dX5_ticksOnce_72 (by decide) ?_
              refine j_iadd (v := nI (64 + 7 * d + 1)) dX5_ticksOnce_73 (nI_add _ _) ?_
              refine j_iald (v := gC (tk1 s) d 1) dX5_ticksOnce_74 1 (64 + 7 * d + 1) rfl (rfl) (by omega) (Nat.le_of_ble_eq_true rfl) (rfl) ?_
              refine j_icmp_le (tgt := 82) dX5_ticksOnce_75 (by decide) (fun h75 => ?_) (fun h75 => ?_)
              · skip
                refine j_iconst (v := nI 0) dX5_ticksOnce_82 (by decide) ?_
                refine j_istore (lv2 := [(0, .ref (M 0)), (1, .int (nI d)), (2, .int (nI (i + 1))), (3, .int (nI (((lst (tk1 s)) + (i + 1)) % 4))), (4, .int (nI 0))]) dX5_ticksOnce_83 (by decide) [1, 2, 3, 4, 0] rfl ?_
                refine j_iload dX5_ticksOnce_85 4 rfl ?_
                refine j_if_eq_N (tgt := 94) dX5_ticksOnce_87 (by decide) (by omega) (fun h87 => ?_) (fun h87 => absurd rfl h87)
                refine j_iload_n dX5_ticksOnce_94 1 rfl ?_
                refine j_istore_n (lv2 := [(0, .ref (M 0)), (1, .int (nI d)), (2, .int (nI (i + 1))), (3, .int (nI (((lst (tk1 s)) + (i + 1)) % 4))), (4, .int (nI 0))]) dX5_ticksOnce_95 (by decide) [1, 0, 2, 3, 4] rfl ?_
                refine j_iinc (v := nI (i + 1 + 1)) (lv2 := [(0, .ref (M 0)), (1, .int (nI d)), (2, .int (nI (i + 1 + 1))), (3, .int (nI (((lst (tk1 s)) + (i + 1)) % 4))), (4, .int (nI 0))]) dX5_ticksOnce_96 2 rfl (nI_1 _) (by decide) [1, 2, 0, 3, 4] rfl ?_
                refine j_goto (tgt := 21) dX5_ticksOnce_99 (by decide) ?_
                refine j_lv (lv2 := [(0, .ref (M 0)), (1, .int (nI d)), (2, .int (nI (i + 1 + 1)))]) [0, 1, 2] rfl ?_
                have hh := ih (i + 1) (by omega) (by omega)
                rw [show whoN (tk1 s) (i + 1) = some d from (by show wst (tk1 s) (whoN (tk1 s) i) _ = some d; rw [hb]; exact wst_no (Int32.not_lt.mpr h75))] at hh
                exact hh
              · skip
                refine j_iconst (v := nI 1) dX5_ticksOnce_78 (by decide) ?_
                refine j_goto (tgt := 83) dX5_ticksOnce_79 (by decide) ?_
                refine j_istore (lv2 := [(0, .ref (M 0)), (1, .int (nI d)), (2, .int (nI (i + 1))), (3, .int (nI (((lst (tk1 s)) + (i + 1)) % 4))), (4, .int (nI 1))]) dX5_ticksOnce_83 (by decide) [1, 2, 3, 4, 0] rfl ?_
                refine j_iload dX5_ticksOnce_85 4 rfl ?_
                refine j_if_eq_N (tgt := 94) dX5_ticksOnce_87 (by decide) (by omega) (fun h87 => absurd h87 (by decide)) (fun h87 => ?_)
                refine j_iload_n dX5_ticksOnce_90 3 rfl ?_
                refine j_goto (tgt := 95) dX5_ticksOnce_91 (by decide) ?_
                refine j_istore_n (lv2 := [(0, .ref (M 0)), (1, .int (nI (((lst (tk1 s)) + (i + 1)) % 4))), (2, .int (nI (i + 1))), (3, .int (nI (((lst (tk1 s)) + (i + 1)) % 4))), (4, .int (nI 1))]) dX5_ticksOnce_95 (by decide) [1, 0, 2, 3, 4] rfl ?_
                refine j_iinc (v := nI (i + 1 + 1)) (lv2 := [(0, .ref (M 0)), (1, .int (nI (((lst (tk1 s)) + (i + 1)) % 4))), (2, .int (nI (i + 1 + 1))), (3, .int (nI (((lst (tk1 s)) + (i + 1)) % 4))), (4, .int (nI 1))]) dX5_ticksOnce_96 2 rfl (nI_1 _) (by decide) [1, 2, 0, 3, 4] rfl ?_
                refine j_goto (tgt := 21) dX5_ticksOnce_99 (by decide) ?_
                refine j_lv (lv2 := [(0, .ref (M 0)), (1, .int (nI (((lst (tk1 s)) + (i + 1)) % 4))), (2, .int (nI (i + 1 + 1)))]) [0, 1, 2] rfl ?_
                have hh := ih (i + 1) (by omega) (by omega)
                rw [show whoN (tk1 s) (i + 1) = some ((lst (tk1 s) + (i + 1)) % 4) from (by show wst (tk1 s) (whoN (tk1 s) i) _ = some ((lst (tk1 s) + (i + 1)) % 4); rw [hb]; exact wst_y h44 (Int32.not_le.mp h75))] at hh
                exact hh
    exact L21 5 0 (by omega) (by omega)
  refine j_aload_n dX5_ticksOnce_0 0 rfl ?_
  refine g_X5_7 rfl dX5_ticksOnce_1 0 rfl rfl ?_
  refine j_sipush (v := nI 428) dX5_ticksOnce_4 (by decide) ?_
  refine j_iald (v := s 428) dX5_ticksOnce_7 1 428 rfl (rfl) (by omega) (Nat.le_of_ble_eq_true rfl) (rfl) ?_
  refine j_if_le (tgt := 16) dX5_ticksOnce_8 (by decide) (fun h8 => ?_) (fun h8 => ?_)
  · skip
    refine j_w (w2 := (MO D M q) ++ (AR D (M 1) 455 (tk1 s))) (by rw [show tk1 s = s from if_pos (q_le hI h8)]) ?_
    exact K16 
  · skip
    refine j_aload_n dX5_ticksOnce_11 0 rfl ?_
    refine j_iconst (v := nI 0) dX5_ticksOnce_12 (by decide) ?_
    have hqu := hI.qu_ (q_gt h8)
    refine j_V (w2 := (MO D M q) ++ (AR D (M 1) 455 (wbF s (qu s)))) (st2 := []) (c_X5_writes M q s (qu s) hqu.2.2 hqu.1 hqu.2.1) rfl cw_X5_127 dX5_ticksOnce_13 [] rfl [0, 1] rfl rfl rfl 5 ?_ ⟨rfl, ⟨Nat.le_of_ble_eq_true rfl, Nat.le_of_ble_eq_true rfl⟩, ⟨rfl, rfl⟩, ⟨Nat.le_of_ble_eq_true rfl, Nat.le_of_ble_eq_true rfl⟩, Nat.le_of_ble_eq_true rfl, rfl, rfl⟩ rfl rfl rfl
    refine j_w (w2 := (MO D M q) ++ (AR D (M 1) 455 (tk1 s))) (by rw [show tk1 s = wbF s (qu s) from if_neg (q_gt h8)]) ?_
    exact K16 

end MD1
