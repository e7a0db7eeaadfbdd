section HI1
variable {D : DX}
set_option maxHeartbeats 4000000 in
set_option maxRecDepth 100000 in
theorem c_X1_remember (Y : Nat → Nat) (P : Nat → Nat → Nat) (nw kn j : Nat) (t : SS) (E : Nat → Nat) (s : SS) (hj : j = (nw + 1) % 6) (hnw : nw < 6) (hkn : kn ≤ 6) : Ct D yX1_remember cX1_remember 2 none ({ frames := 2, cells := 0, slots := 0, locals := 81 } : Room) [.ref (Y 0), .ref (E 0)] ((HO D Y P nw kn) ++ (EW D (P j) t) ++ (EW D E s)) (fun v_ u_ => v_ = none ∧ u_ = (HO D Y P j (min (kn + 1) 6)) ++ (EW D (P j) s) ++ (EW D E s)) := by
  refine ct_of (by decide) (Nat.le_of_ble_eq_true rfl) (lv0 := [(0, .ref (Y 0)), (1, .ref (E 0))]) rfl (fun Γ => ?_)
  refine j_aload_n dX1_remember_0 0 rfl ?_
  refine j_aload_n dX1_remember_1 0 rfl ?_
  refine g_X1_16 rfl dX1_remember_2 0 rfl rfl ?_
  refine j_iconst (v := nI 5) dX1_remember_5 (by decide) ?_
  refine j_icmp_lt_N (tgt := 13) dX1_remember_6 (by decide) ⟨by omega, by omega⟩ (fun h6 => ?_) (fun h6 => ?_)
  · skip
    refine j_aload_n dX1_remember_13 0 rfl ?_
    refine g_X1_16 rfl dX1_remember_14 0 rfl rfl ?_
    refine j_iconst (v := nI 1) dX1_remember_17 (by decide) ?_
    refine j_iadd (v := nI (nw + 1)) dX1_remember_18 (nI_add _ _) ?_
    refine j_topi (v := nI j) (congrArg nI (by omega)) ?_
    refine p_X1_16 (w2 := (HO D Y P j kn) ++ (EW D (P j) t) ++ (EW D E s)) rfl dX1_remember_19 0 rfl (Nat.le_of_ble_eq_true rfl) (rfl) ?_
    refine j_aload_n dX1_remember_22 0 rfl ?_
    refine g_X1_11 rfl dX1_remember_23 0 rfl rfl ?_
    refine j_aload_n dX1_remember_26 0 rfl ?_
    refine g_X1_16 rfl dX1_remember_27 0 rfl rfl ?_
    refine j_aald (b := ((P j) 0)) dX1_remember_30 1 j rfl (rfl) (by omega) (Nat.le_of_ble_eq_true rfl) (rfl) ?_
    refine j_aload_n dX1_remember_31 1 rfl ?_
    refine j_V (w2 := (HO D Y P j kn) ++ (EW D (P j) s) ++ (EW D E s)) (st2 := []) (c_X0_copyFrom (P j) E t s) rfl cw_X1_23 dX1_remember_32 [] rfl [2, 3, 4, 5, 6, 7, 8, 9, 10, 11] rfl rfl rfl 0 ?_ ⟨rfl, ⟨Nat.le_of_ble_eq_true rfl, Nat.le_of_ble_eq_true rfl⟩, ⟨rfl, rfl⟩, ⟨Nat.le_of_ble_eq_true rfl, Nat.le_of_ble_eq_true rfl⟩, Nat.le_of_ble_eq_true rfl, rfl, rfl⟩ rfl rfl rfl
    refine j_aload_n dX1_remember_35 0 rfl ?_
    refine j_aload_n dX1_remember_36 0 rfl ?_
    refine g_X1_20 rfl dX1_remember_37 0 rfl rfl ?_
    refine j_iconst (v := nI 1) dX1_remember_40 (by decide) ?_
    refine j_iadd (v := nI (kn + 1)) dX1_remember_41 (nI_add _ _) ?_
    refine j_bipush (v := nI 6) dX1_remember_42 (by decide) ?_
    refine j_S (w2 := (HO D Y P j kn) ++ (EW D (P j) s) ++ (EW D E s)) (st2 := [.int (nI (min (kn + 1) 6)), .ref (Y 0)]) (c_J9_min_7cf53 (kn + 1) 6 (by omega) (by omega)) rfl cw_X1_27 dX1_remember_44 [.ref (Y 0)] rfl [] rfl rfl rfl ?_ ⟨rfl, ⟨Nat.le_of_ble_eq_true rfl, Nat.le_of_ble_eq_true rfl⟩, ⟨rfl, rfl⟩, ⟨Nat.le_of_ble_eq_true rfl, Nat.le_of_ble_eq_true rfl⟩, Nat.le_of_ble_eq_true rfl, rfl, rfl⟩
    refine p_X1_20 (w2 := (HO D Y P j (min (kn + 1) 6)) ++ (EW D (P j) s) ++ (EW D E s)) rfl dX1_remember_47 0 rfl (Nat.le_of_ble_eq_true rfl) (rfl) ?_
    exact j_vret dX1_remember_50 ⟨rfl, rfl⟩ ⟨rfl, rfl⟩
  · skip
    refine j_iconst (v := nI 0) dX1_remember_9 (by decide) ?_
    refine j_goto (tgt := 19) dX1_remember_10 (by decide) ?_
    refine j_topi (v := nI j) (congrArg nI (by omega)) ?_
    refine p_X1_16 (w2 := (HO D Y P j kn) ++ (EW D (P j) t) ++ (EW D E s)) rfl dX1_remember_19 0 rfl (Nat.le_of_ble_eq_true rfl) (rfl) ?_
    refine j_aload_n dX1_remember_22 0 rfl ?_
    refine g_X1_11 rfl dX1_remember_23 0 rfl rfl ?_
    refine j_aload_n dX1_remember_26 0 rfl ?_
    refine g_X1_16 rfl dX1_remember_27 0 rfl rfl ?_
    refine j_aald (b := ((P j) 0)) dX1_remember_30 1 j rfl (rfl) (by omega) (Nat.le_of_ble_eq_true rfl) (rfl) ?_
    refine j_aload_n dX1_remember_31 1 rfl ?_
    refine j_V (w2 := (HO D Y P j kn) ++ (EW D (P j) s) ++ (EW D E s)) (st2 := []) (c_X0_copyFrom (P j) E t s) rfl cw_X1_23 dX1_remember_32 [] rfl [2, 3, 4, 5, 6, 7, 8, 9, 10, 11] rfl rfl rfl 0 ?_ ⟨rfl, ⟨Nat.le_of_ble_eq_true rfl, Nat.le_of_ble_eq_true rfl⟩, ⟨rfl, rfl⟩, ⟨Nat.le_of_ble_eq_true rfl, Nat.le_of_ble_eq_true rfl⟩, Nat.le_of_ble_eq_true rfl, rfl, rfl⟩ rfl rfl rfl
    refine j_aload_n dX1_remember_35 0 rfl ?_
    refine j_aload_n dX1_remember_36 0 rfl ?_
    refine g_X1_20 rfl dX1_remember_37 0 rfl rfl ?_
    refine j_iconst (v := nI 1) dX1_remember_40 (by decide) ?_
    refine j_iadd (v := nI (kn + 1)) dX1_remember_41 (nI_add _ _) ?_
    refine j_bipush (v := nI 6) dX1_remember_42 (by decide) ?_
    refine j_S (w2 := (HO D Y P j kn) ++ (EW D (P j) s) ++ (EW D E s)) (st2 := [.int (nI (min (kn + 1) 6)), .ref (Y 0)]) (c_J9_min_7cf53 (kn + 1) 6 (by omega) (by omega)) rfl cw_X1_27 dX1_remember_44 [.ref (Y 0)] rfl [] rfl rfl rfl ?_ ⟨rfl, ⟨Nat.le_of_ble_eq_true rfl, Nat.le_of_ble_eq_true rfl⟩, ⟨rfl, rfl⟩, ⟨Nat.le_of_ble_eq_true rfl, Nat.le_of_ble_eq_true rfl⟩, Nat.le_of_ble_eq_true rfl, rfl, rfl⟩
    refine p_X1_20 (w2 := (HO D Y P j (min (kn + 1) 6)) ++ (EW D (P j) s) ++ (EW D E s)) rfl dX1_remember_47 0 rfl (Nat.le_of_ble_eq_true rfl) (rfl) ?_
    exact j_vret dX1_remember_50 ⟨rfl, rfl⟩ ⟨rfl, rfl⟩

set_option maxHeartbeats 4000000 in
set_option maxRecDepth 100000 in
theorem c_X1_restore (Y : Nat → Nat) (P : Nat → Nat → Nat) (nw kn j : Nat) (t : SS) (E : Nat → Nat) (s : SS) (hj : j = (nw + 5) % 6) (hnw : nw < 6) (hkn : 1 ≤ kn ∧ kn ≤ 6) : Ct D yX1_restore cX1_restore 2 (some .boolean) ({ frames := 2, cells := 0, slots := 0, locals := 81 } : Room) [.ref (Y 0), .ref (E 0)] ((HO D Y P nw kn) ++ (EW D (P nw) t) ++ (EW D E s)) (fun v_ u_ => v_ = some (.int (bI true)) ∧ u_ = (HO D Y P j (kn - 1)) ++ (EW D (P nw) t) ++ (EW D E t)) := by
  refine ct_of (by decide) (Nat.le_of_ble_eq_true rfl) (lv0 := [(0, .ref (Y 0)), (1, .ref (E 0))]) rfl (fun Γ => ?_)
  refine j_aload_n dX1_restore_0 0 rfl ?_
  refine g_X1_20 rfl dX1_restore_1 0 rfl rfl ?_
  refine j_if_ne_N (tgt := 9) dX1_restore_4 (by decide) (by omega) (fun h4 => ?_) (fun h4 => absurd h4 (by omega))
  refine j_aload_n dX1_restore_9 1 rfl ?_
  refine j_aload_n dX1_restore_10 0 rfl ?_
  refine g_X1_11 rfl dX1_restore_11 0 rfl rfl ?_
  refine j_aload_n dX1_restore_14 0 rfl ?_
  refine g_X1_16 rfl dX1_restore_15 0 rfl rfl ?_
  refine j_aald (b := ((P nw) 0)) dX1_restore_18 1 nw rfl (rfl) (by omega) (Nat.le_of_ble_eq_true rfl) (rfl) ?_
  refine j_V (w2 := (HO D Y P nw kn) ++ (EW D (P nw) t) ++ (EW D E t)) (st2 := []) (c_X0_copyFrom E (P nw) s t) rfl cw_X1_23 dX1_restore_19 [] rfl [7, 8, 9, 10, 11, 2, 3, 4, 5, 6] rfl rfl rfl 0 ?_ ⟨rfl, ⟨Nat.le_of_ble_eq_true rfl, Nat.le_of_ble_eq_true rfl⟩, ⟨rfl, rfl⟩, ⟨Nat.le_of_ble_eq_true rfl, Nat.le_of_ble_eq_true rfl⟩, Nat.le_of_ble_eq_true rfl, rfl, rfl⟩ rfl rfl rfl
  refine j_aload_n dX1_restore_22 0 rfl ?_
  refine j_aload_n dX1_restore_23 0 rfl ?_
  refine g_X1_16 rfl dX1_restore_24 0 rfl rfl ?_
  refine j_if_gt_N (tgt := 34) dX1_restore_27 (by decide) (by omega) (fun h27 => ?_) (fun h27 => ?_)
  · skip
    refine j_aload_n dX1_restore_34 0 rfl ?_
    refine g_X1_16 rfl dX1_restore_35 0 rfl rfl ?_
    refine j_iconst (v := nI 1) dX1_restore_38 (by decide) ?_
    refine j_isub (v := nI (nw - 1)) dX1_restore_39 (pk_sub (by omega)) ?_
    refine j_topi (v := nI j) (congrArg nI (by omega)) ?_
    refine p_X1_16 (w2 := (HO D Y P j kn) ++ (EW D (P nw) t) ++ (EW D E t)) rfl dX1_restore_40 0 rfl (Nat.le_of_ble_eq_true rfl) (rfl) ?_
    refine j_aload_n dX1_restore_43 0 rfl ?_
    refine j_dup dX1_restore_44 rfl ?_
    refine g_X1_20 rfl dX1_restore_45 0 rfl rfl ?_
    refine j_iconst (v := nI 1) dX1_restore_48 (by decide) ?_
    refine j_isub (v := nI (kn - 1)) dX1_restore_49 (pk_sub (by omega)) ?_
    refine p_X1_20 (w2 := (HO D Y P j (kn - 1)) ++ (EW D (P nw) t) ++ (EW D E t)) rfl dX1_restore_50 0 rfl (Nat.le_of_ble_eq_true rfl) (rfl) ?_
    refine j_iconst (v := nI 1) dX1_restore_53 (by decide) ?_
    exact j_zret dX1_restore_54 (rfl) ⟨rfl, rfl⟩ ⟨rfl, rfl⟩
  · skip
    refine j_iconst (v := nI 5) dX1_restore_30 (by decide) ?_
    refine j_goto (tgt := 40) dX1_restore_31 (by decide) ?_
    refine j_topi (v := nI j) (congrArg nI (by omega)) ?_
    refine p_X1_16 (w2 := (HO D Y P j kn) ++ (EW D (P nw) t) ++ (EW D E t)) rfl dX1_restore_40 0 rfl (Nat.le_of_ble_eq_true rfl) (rfl) ?_
    refine j_aload_n dX1_restore_43 0 rfl ?_
    refine j_dup dX1_restore_44 rfl ?_
    refine g_X1_20 rfl dX1_restore_45 0 rfl rfl ?_
    refine j_iconst (v := nI 1) dX1_restore_48 (by decide) ?_
    refine j_isub (v := nI (kn - 1)) dX1_restore_49 (pk_sub (by omega)) ?_
    refine p_X1_20 (w2 := (HO D Y P j (kn - 1)) ++ (EW D (P nw) t) ++ (EW D E t)) rfl dX1_restore_50 0 rfl (Nat.le_of_ble_eq_true rfl) (rfl) ?_
    refine j_iconst (v := nI 1) dX1_restore_53 (by decide) ?_
    exact j_zret dX1_restore_54 (rfl) ⟨rfl, rfl⟩ ⟨rfl, rfl⟩

set_option maxHeartbeats 4000000 in
set_option maxRecDepth 100000 in
theorem c_X1_restore_none (Y : Nat → Nat) (P : Nat → Nat → Nat) (nw kn : Nat) (E : Nat → Nat) (s : SS) (hkn : kn = 0) : Ct D yX1_restore cX1_restore 2 (some .boolean) ({ frames := 0, cells := 0, slots := 0, locals := 0 } : Room) [.ref (Y 0), .ref (E 0)] ((HO D Y P nw kn) ++ (EW D E s)) (fun v_ u_ => v_ = some (.int (bI false)) ∧ u_ = (HO D Y P nw kn) ++ (EW D E s)) := by
  refine ct_of (by decide) (Nat.le_of_ble_eq_true rfl) (lv0 := [(0, .ref (Y 0)), (1, .ref (E 0))]) rfl (fun Γ => ?_)
  refine j_aload_n dX1_restore_0 0 rfl ?_
  refine g_X1_20 rfl dX1_restore_1 0 rfl rfl ?_
  refine j_if_ne_N (tgt := 9) dX1_restore_4 (by decide) (by omega) (fun h4 => absurd hkn h4) (fun h4 => ?_)
  refine j_iconst (v := nI 0) dX1_restore_7 (by decide) ?_
  exact j_zret dX1_restore_8 (rfl) ⟨rfl, rfl⟩ ⟨rfl, rfl⟩

set_option maxHeartbeats 4000000 in
set_option maxRecDepth 100000 in
theorem c_X1_lose (Y : Nat → Nat) (P : Nat → Nat → Nat) (nw kn : Nat) : Ct D yX1_lose cX1_lose 1 none ({ frames := 0, cells := 0, slots := 0, locals := 0 } : Room) [.ref (Y 0)] (HO D Y P nw kn) (fun v_ u_ => v_ = none ∧ u_ = HO D Y P nw 0) := by
  refine ct_of (by decide) (Nat.le_of_ble_eq_true rfl) (lv0 := [(0, .ref (Y 0))]) rfl (fun Γ => ?_)
  refine j_aload_n dX1_lose_0 0 rfl ?_
  refine j_iconst (v := nI 0) dX1_lose_1 (by decide) ?_
  refine p_X1_20 (w2 := HO D Y P nw 0) rfl dX1_lose_2 0 rfl (Nat.le_of_ble_eq_true rfl) (rfl) ?_
  exact j_vret dX1_lose_5 ⟨rfl, rfl⟩ ⟨rfl, rfl⟩

set_option maxHeartbeats 4000000 in
set_option maxRecDepth 100000 in
theorem c_X2_drop (Z : Nat → Nat) (tk wh : SS) (m : Nat) : Ct D yX2_drop cX2_drop 1 none ({ frames := 0, cells := 0, slots := 0, locals := 0 } : Room) [.ref (Z 0)] (ZW D Z tk wh m) (fun v_ u_ => v_ = none ∧ u_ = ZW D Z tk wh 0) := by
  refine ct_of (by decide) (Nat.le_of_ble_eq_true rfl) (lv0 := [(0, .ref (Z 0))]) rfl (fun Γ => ?_)
  refine j_aload_n dX2_drop_0 0 rfl ?_
  refine j_iconst (v := nI 0) dX2_drop_1 (by decide) ?_
  refine p_X2_16 (w2 := ZW D Z tk wh 0) rfl dX2_drop_2 0 rfl (Nat.le_of_ble_eq_true rfl) (rfl) ?_
  exact j_vret dX2_drop_5 ⟨rfl, rfl⟩ ⟨rfl, rfl⟩

set_option maxHeartbeats 4000000 in
set_option maxRecDepth 100000 in
theorem c_X2_note (Z : Nat → Nat) (tk wh : SS) (m : Nat) (a b : Int32) (hm : m < 6) : Ct D yX2_note cX2_note 3 (some .boolean) ({ frames := 0, cells := 0, slots := 0, locals := 0 } : Room) [.ref (Z 0), .int a, .int b] (ZW D Z tk wh m) (fun v_ u_ => v_ = some (.int (bI true)) ∧ u_ = ZW D Z (upd tk m a) (upd wh m b) (m + 1)) := by
  refine ct_of (by decide) (Nat.le_of_ble_eq_true rfl) (lv0 := [(0, .ref (Z 0)), (1, .int a), (2, .int b)]) rfl (fun Γ => ?_)
  refine j_aload_n dX2_note_0 0 rfl ?_
  refine g_X2_16 rfl dX2_note_1 0 rfl rfl ?_
  refine j_bipush (v := nI 6) dX2_note_4 (by decide) ?_
  refine j_icmp_lt_N (tgt := 11) dX2_note_6 (by decide) ⟨by omega, by omega⟩ (fun h6 => ?_) (fun h6 => absurd hm h6)
  refine j_aload_n dX2_note_11 0 rfl ?_
  refine g_X2_9 rfl dX2_note_12 0 rfl rfl ?_
  refine j_aload_n dX2_note_15 0 rfl ?_
  refine g_X2_16 rfl dX2_note_16 0 rfl rfl ?_
  refine j_iload_n dX2_note_19 1 rfl ?_
  refine j_iast (w2 := ZW D Z (upd tk m a) wh m) dX2_note_20 1 m rfl (rfl) (by omega) (Nat.le_of_ble_eq_true rfl) (rfl) ?_
  refine j_aload_n dX2_note_21 0 rfl ?_
  refine g_X2_13 rfl dX2_note_22 0 rfl rfl ?_
  refine j_aload_n dX2_note_25 0 rfl ?_
  refine g_X2_16 rfl dX2_note_26 0 rfl rfl ?_
  refine j_iload_n dX2_note_29 2 rfl ?_
  refine j_iast (w2 := ZW D Z (upd tk m a) (upd wh m b) m) dX2_note_30 2 m rfl (rfl) (by omega) (Nat.le_of_ble_eq_true rfl) (rfl) ?_
  refine j_aload_n dX2_note_31 0 rfl ?_
  refine j_dup dX2_note_32 rfl ?_
  refine g_X2_16 rfl dX2_note_33 0 rfl rfl ?_
  refine j_iconst (v := nI 1) dX2_note_36 (by decide) ?_
  refine j_iadd (v := nI (m + 1)) dX2_note_37 (nI_add _ _) ?_
  refine p_X2_16 (w2 := ZW D Z (upd tk m a) (upd wh m b) (m + 1)) rfl dX2_note_38 0 rfl (Nat.le_of_ble_eq_true rfl) (rfl) ?_
  refine j_iconst (v := nI 1) dX2_note_41 (by decide) ?_
  exact j_zret dX2_note_42 (rfl) ⟨rfl, rfl⟩ ⟨rfl, rfl⟩

set_option maxHeartbeats 4000000 in
set_option maxRecDepth 100000 in
theorem c_X2_note_full (Z : Nat → Nat) (tk wh : SS) (m : Nat) (a b : Int32) (hm : m = 6) : Ct D yX2_note cX2_note 3 (some .boolean) ({ frames := 0, cells := 0, slots := 0, locals := 0 } : Room) [.ref (Z 0), .int a, .int b] (ZW D Z tk wh m) (fun v_ u_ => v_ = some (.int (bI false)) ∧ u_ = ZW D Z tk wh m) := by
  refine ct_of (by decide) (Nat.le_of_ble_eq_true rfl) (lv0 := [(0, .ref (Z 0)), (1, .int a), (2, .int b)]) rfl (fun Γ => ?_)
  refine j_aload_n dX2_note_0 0 rfl ?_
  refine g_X2_16 rfl dX2_note_1 0 rfl rfl ?_
  refine j_bipush (v := nI 6) dX2_note_4 (by decide) ?_
  refine j_icmp_lt_N (tgt := 11) dX2_note_6 (by decide) ⟨by omega, by omega⟩ (fun h6 => absurd h6 (by omega)) (fun h6 => ?_)
  refine j_iconst (v := nI 0) dX2_note_9 (by decide) ?_
  exact j_zret dX2_note_10 (rfl) ⟨rfl, rfl⟩ ⟨rfl, rfl⟩

set_option maxHeartbeats 4000000 in
set_option maxRecDepth 100000 in
theorem c_X2_lastTick (Z : Nat → Nat) (tk wh : SS) (m : Nat) (hs : SeOk tk wh m) : Ct D yX2_lastTick cX2_lastTick 3 (some .int) ({ frames := 1, cells := 0, slots := 0, locals := 21 } : Room) [.ref (Z 0)] (ZW D Z tk wh m) (fun v_ u_ => v_ = some (.int (nI (mxT tk m))) ∧ u_ = ZW D Z tk wh m) := by
  have hm6 := hs.1
  refine ct_of (by decide) (Nat.le_of_ble_eq_true rfl) (lv0 := [(0, .ref (Z 0))]) rfl (fun Γ => ?_)
  refine j_iconst (v := nI 0) dX2_lastTick_0 (by decide) ?_
  refine j_istore_n (lv2 := [(0, .ref (Z 0)), (1, .int (nI 0))]) dX2_lastTick_1 (by decide) [1, 0] rfl ?_
  refine j_iconst (v := nI 0) dX2_lastTick_2 (by decide) ?_
  refine j_istore_n (lv2 := [(0, .ref (Z 0)), (1, .int (nI 0)), (2, .int (nI 0))]) dX2_lastTick_3 (by decide) [1, 2, 0] rfl ?_
  have L4 : ∀ (fuel : Nat) (i : Nat), i ≤ m → m - i < fuel → J D Γ yX2_lastTick cX2_lastTick 3 (some .int) ({ frames := 1, cells := 0, slots := 0, locals := 21 } : Room) (Qf D Γ ({ frames := 1, cells := 0, slots := 0, locals := 21 } : Room) (fun v_ u_ => v_ = some (.int (nI (mxT tk m))) ∧ u_ = ZW D Z tk wh m)) 0 0 (ZW D Z tk wh m) 4 [(0, .ref (Z 0)), (1, .int (nI (mxT tk i))), (2, .int (nI i))] [] := by
    intro fuel
    induction fuel with
    | zero => intro i hi hm; exact absurd hm (Nat.not_lt_zero _)
    | succ fuel ih =>
      intro i hi hm
      have hmx := mxT_le i (fun j hj => hs.2 j (by omega))
      refine j_iload_n dX2_lastTick_4 2 rfl ?_
      refine j_aload_n dX2_lastTick_5 0 rfl ?_
      refine g_X2_16 rfl dX2_lastTick_6 0 rfl rfl ?_
      refine j_icmp_ge_N (tgt := 29) dX2_lastTick_9 (by decide) ⟨by omega, by omega⟩ (fun h9 => ?_) (fun h9 => ?_)
      · skip
        refine j_iload_n dX2_lastTick_29 1 rfl ?_
        exact j_iret dX2_lastTick_30 ⟨rfl, rfl⟩ ⟨by rw [show i = m by omega], rfl⟩
      · skip
        have ht := (hs.2 i (by omega)).to (by decide)
        have ht2 := ht.2.2
        refine j_iload_n dX2_lastTick_12 1 rfl ?_
        refine j_aload_n dX2_lastTick_13 0 rfl ?_
        refine g_X2_9 rfl dX2_lastTick_14 0 rfl rfl ?_
        refine j_iload_n dX2_lastTick_17 2 rfl ?_
        refine j_iald (v := nI ((tk i).toNatClampNeg)) dX2_lastTick_18 1 i rfl (rfl) (by omega) (Nat.le_of_ble_eq_true rfl) (ht.1) ?_
        refine j_S (w2 := ZW D Z tk wh m) (st2 := [.int (nI (max (mxT tk i) ((tk i).toNatClampNeg)))]) (c_J9_max_7cf53 (mxT tk i) ((tk i).toNatClampNeg) (by omega) (by omega)) rfl cw_X2_34 dX2_lastTick_19 [] rfl [] rfl rfl rfl ?_ ⟨rfl, ⟨Nat.le_of_ble_eq_true rfl, Nat.le_of_ble_eq_true rfl⟩, ⟨rfl, rfl⟩, ⟨Nat.le_of_ble_eq_true rfl, Nat.le_of_ble_eq_true rfl⟩, Nat.le_of_ble_eq_true rfl, rfl, rfl⟩
        refine j_istore_n (lv2 := [(0, .ref (Z 0)), (1, .int (nI (max (mxT tk i) ((tk i).toNatClampNeg)))), (2, .int (nI i))]) dX2_lastTick_22 (by decide) [1, 0, 2] rfl ?_
        refine j_iinc (v := nI (i + 1)) (lv2 := [(0, .ref (Z 0)), (1, .int (nI (max (mxT tk i) ((tk i).toNatClampNeg)))), (2, .int (nI (i + 1)))]) dX2_lastTick_23 2 rfl (nI_1 _) (by decide) [1, 2, 0] rfl ?_
        refine j_goto (tgt := 4) dX2_lastTick_26 (by decide) ?_
        exact ih (i + 1) (by omega) (by omega)
  exact L4 (m + 1) 0 (by omega) (by omega)

set_option maxHeartbeats 4000000 in
set_option maxRecDepth 100000 in
theorem c_X2_allowsInTick (Z : Nat → Nat) (tk wh : SS) (m : Nat) (k : Nat) (a : Int32) (hm6 : m ≤ 6) : Ct D yX2_allowsInTick cX2_allowsInTick 4 (some .boolean) ({ frames := 0, cells := 0, slots := 0, locals := 0 } : Room) [.ref (Z 0), .int (nI k), .int a] (ZW D Z tk wh m) (fun v_ u_ => v_ = some (.int (bI (swN tk wh k a m))) ∧ u_ = ZW D Z tk wh m) := by
  refine ct_of (by decide) (Nat.le_of_ble_eq_true rfl) (lv0 := [(0, .ref (Z 0)), (1, .int (nI k)), (2, .int a)]) rfl (fun Γ => ?_)
  refine j_iconst (v := nI 0) dX2_allowsInTick_0 (by decide) ?_
  refine j_istore_n (lv2 := [(0, .ref (Z 0)), (1, .int (nI k)), (2, .int a), (3, .int (nI 0))]) dX2_allowsInTick_1 (by decide) [1, 2, 3, 0] rfl ?_
  have L2 : ∀ (fuel : Nat) (i : Nat), i ≤ m → swN tk wh k a i = true → m - i < fuel → J D Γ yX2_allowsInTick cX2_allowsInTick 4 (some .boolean) ({ frames := 0, cells := 0, slots := 0, locals := 0 } : Room) (Qf D Γ ({ frames := 0, cells := 0, slots := 0, locals := 0 } : Room) (fun v_ u_ => v_ = some (.int (bI (swN tk wh k a m))) ∧ u_ = ZW D Z tk wh m)) 0 0 (ZW D Z tk wh m) 2 [(0, .ref (Z 0)), (1, .int (nI k)), (2, .int a), (3, .int (nI i))] [] := by
    intro fuel
    induction fuel with
    | zero => intro i hi he hm; exact absurd hm (Nat.not_lt_zero _)
    | succ fuel ih =>
      intro i hi he hm
      refine j_iload_n dX2_allowsInTick_2 3 rfl ?_
      refine j_aload_n dX2_allowsInTick_3 0 rfl ?_
      refine g_X2_16 rfl dX2_allowsInTick_4 0 rfl rfl ?_
      refine j_icmp_ge_N (tgt := 38) dX2_allowsInTick_7 (by decide) ⟨by omega, by omega⟩ (fun h7 => ?_) (fun h7 => ?_)
      · skip
        refine j_iconst (v := nI 1) dX2_allowsInTick_38 (by decide) ?_
        exact j_zret dX2_allowsInTick_39 (rfl) ⟨rfl, rfl⟩ ⟨rv_t (by rw [← he, show i = m by omega]), rfl⟩
      · skip
        refine j_aload_n dX2_allowsInTick_10 0 rfl ?_
        refine g_X2_9 rfl dX2_allowsInTick_11 0 rfl rfl ?_
        refine j_iload_n dX2_allowsInTick_14 3 rfl ?_
        refine j_iald (v := tk i) dX2_allowsInTick_15 1 i rfl (rfl) (by omega) (Nat.le_of_ble_eq_true rfl) (rfl) ?_
        refine j_iload_n dX2_allowsInTick_16 1 rfl ?_
        refine j_icmp_ne (tgt := 32) dX2_allowsInTick_17 (by decide) (fun h17 => ?_) (fun h17 => ?_)
        · skip
          refine j_iinc (v := nI (i + 1)) (lv2 := [(0, .ref (Z 0)), (1, .int (nI k)), (2, .int a), (3, .int (nI (i + 1)))]) dX2_allowsInTick_32 3 rfl (nI_1 _) (by decide) [1, 2, 3, 0] rfl ?_
          refine j_goto (tgt := 2) dX2_allowsInTick_35 (by decide) ?_
          exact ih (i + 1) (by omega) (by rw [swN_n h17]; exact he) (by omega)
        · skip
          refine j_aload_n dX2_allowsInTick_20 0 rfl ?_
          refine g_X2_13 rfl dX2_allowsInTick_21 0 rfl rfl ?_
          refine j_iload_n dX2_allowsInTick_24 3 rfl ?_
          refine j_iald (v := wh i) dX2_allowsInTick_25 2 i rfl (rfl) (by omega) (Nat.le_of_ble_eq_true rfl) (rfl) ?_
          refine j_iload_n dX2_allowsInTick_26 2 rfl ?_
          refine j_icmp_eq (tgt := 32) dX2_allowsInTick_27 (by decide) (fun h27 => ?_) (fun h27 => ?_)
          · skip
            refine j_iinc (v := nI (i + 1)) (lv2 := [(0, .ref (Z 0)), (1, .int (nI k)), (2, .int a), (3, .int (nI (i + 1)))]) dX2_allowsInTick_32 3 rfl (nI_1 _) (by decide) [1, 2, 3, 0] rfl ?_
            refine j_goto (tgt := 2) dX2_allowsInTick_35 (by decide) ?_
            exact ih (i + 1) (by omega) (by rw [swN_y h27]; exact he) (by omega)
          · skip
            refine j_iconst (v := nI 0) dX2_allowsInTick_30 (by decide) ?_
            exact j_zret dX2_allowsInTick_31 (rfl) ⟨rfl, rfl⟩ ⟨rv_f (by rw [show m = i + 1 + (m - (i + 1)) by omega]; exact swN_up (swN_f h17 h27) _), rfl⟩
  exact L2 (m + 1) 0 (by omega) rfl (by omega)

set_option maxHeartbeats 4000000 in
set_option maxRecDepth 100000 in
theorem c_X2_comeTrue (Z : Nat → Nat) (tk wh : SS) (m : Nat) (E : Nat → Nat) (s : SS) (hs : SeOk tk wh m) (hI : Inv s) : Ct D yX2_comeTrue cX2_comeTrue 4 (some .boolean) ({ frames := 5, cells := 0, slots := 0, locals := 120 } : Room) [.ref (Z 0), .ref (E 0)] ((ZW D Z tk wh m) ++ (EW D E s)) (fun v_ u_ => v_ = some (.int (bI (caT s tk wh m (mxT tk m)))) ∧ ∃ t : SS, u_ = (ZW D Z tk wh m) ++ (EW D E t)) := by
  have hm6 := hs.1
  have hmx := mxT_le m hs.2
  refine ct_of (by decide) (Nat.le_of_ble_eq_true rfl) (lv0 := [(0, .ref (Z 0)), (1, .ref (E 0))]) rfl (fun Γ => ?_)
  refine j_aload_n dX2_comeTrue_0 0 rfl ?_
  refine j_V (w2 := (ZW D Z tk wh m) ++ (EW D E s)) (st2 := [.int (nI (mxT tk m))]) (c_X2_lastTick Z tk wh m hs) rfl cw_X2_20 dX2_comeTrue_1 [] rfl [0, 1, 2] rfl rfl rfl 2 ?_ ⟨rfl, ⟨Nat.le_of_ble_eq_true rfl, Nat.le_of_ble_eq_true rfl⟩, ⟨rfl, rfl⟩, ⟨Nat.le_of_ble_eq_true rfl, Nat.le_of_ble_eq_true rfl⟩, Nat.le_of_ble_eq_true rfl, rfl, rfl⟩ rfl rfl rfl
  refine j_istore_n (lv2 := [(0, .ref (Z 0)), (1, .ref (E 0)), (2, .int (nI (mxT tk m)))]) dX2_comeTrue_4 (by decide) [1, 2, 0] rfl ?_
  refine j_iconst (v := nI 1) dX2_comeTrue_5 (by decide) ?_
  refine j_istore_n (lv2 := [(0, .ref (Z 0)), (1, .ref (E 0)), (2, .int (nI (mxT tk m))), (3, .int (nI 1))]) dX2_comeTrue_6 (by decide) [1, 2, 3, 0] rfl ?_
  have L7 : ∀ (fuel : Nat) (k : Nat), k ≤ mxT tk m → caT s tk wh m k = true → mxT tk m - k < fuel → J D Γ yX2_comeTrue cX2_comeTrue 4 (some .boolean) ({ frames := 5, cells := 0, slots := 0, locals := 120 } : Room) (Qf D Γ ({ frames := 5, cells := 0, slots := 0, locals := 120 } : Room) (fun v_ u_ => v_ = some (.int (bI (caT s tk wh m (mxT tk m)))) ∧ ∃ t : SS, u_ = (ZW D Z tk wh m) ++ (EW D E t))) 0 0 ((ZW D Z tk wh m) ++ (EW D E (itk false s k))) 7 [(0, .ref (Z 0)), (1, .ref (E 0)), (2, .int (nI (mxT tk m))), (3, .int (nI (k + 1)))] [] := by
    intro fuel
    induction fuel with
    | zero => intro k hk he hm; exact absurd hm (Nat.not_lt_zero _)
    | succ fuel ih =>
      intro k hk he hm
      refine j_iload_n dX2_comeTrue_7 3 rfl ?_
      refine j_iload_n dX2_comeTrue_8 2 rfl ?_
      refine j_icmp_gt_N (tgt := 33) dX2_comeTrue_9 (by decide) ⟨by omega, by omega⟩ (fun h9 => ?_) (fun h9 => ?_)
      · skip
        refine j_iconst (v := nI 1) dX2_comeTrue_33 (by decide) ?_
        exact j_zret dX2_comeTrue_34 (rfl) ⟨rfl, rfl⟩ ⟨rv_t (by rw [← he, show k = mxT tk m by omega]), _, rfl⟩
      · skip
        refine j_aload_n dX2_comeTrue_12 0 rfl ?_
        refine j_iload_n dX2_comeTrue_13 3 rfl ?_
        refine j_aload_n dX2_comeTrue_14 1 rfl ?_
        refine j_iconst (v := nI 0) dX2_comeTrue_15 (by decide) ?_
        refine j_V (w2 := (ZW D Z tk wh m) ++ (EW D E (tkF false (itk false s k)))) (st2 := [.int (oN (tkW (itk false s k))), .int (nI (k + 1)), .ref (Z 0)]) (c_X0_tick E (itk false s k) false (Inv_it hI k)) rfl cw_X2_24 dX2_comeTrue_16 [.int (nI (k + 1)), .ref (Z 0)] rfl [3, 4, 5, 6, 7] rfl rfl rfl 0 ?_ ⟨rfl, ⟨Nat.le_of_ble_eq_true rfl, Nat.le_of_ble_eq_true rfl⟩, ⟨rfl, rfl⟩, ⟨Nat.le_of_ble_eq_true rfl, Nat.le_of_ble_eq_true rfl⟩, Nat.le_of_ble_eq_true rfl, rfl, rfl⟩ rfl rfl rfl
        refine j_w (w2 := (ZW D Z tk wh m) ++ (EW D E (itk false s (k + 1)))) (rfl) ?_
        refine j_V (w2 := (ZW D Z tk wh m) ++ (EW D E (itk false s (k + 1)))) (st2 := [.int (bI (swN tk wh (k + 1) (oN (tkW (itk false s k))) m))]) (c_X2_allowsInTick Z tk wh m (k + 1) (oN (tkW (itk false s k))) (by omega)) rfl cw_X2_30 dX2_comeTrue_19 [] rfl [0, 1, 2] rfl rfl rfl 2 ?_ ⟨rfl, ⟨Nat.le_of_ble_eq_true rfl, Nat.le_of_ble_eq_true rfl⟩, ⟨rfl, rfl⟩, ⟨Nat.le_of_ble_eq_true rfl, Nat.le_of_ble_eq_true rfl⟩, Nat.le_of_ble_eq_true rfl, rfl, rfl⟩ rfl rfl rfl
        refine j_if_ne_B (tgt := 27) dX2_comeTrue_22 (by decide) (fun h22 => ?_) (fun h22 => ?_)
        · skip
          refine j_iinc (v := nI (k + 1 + 1)) (lv2 := [(0, .ref (Z 0)), (1, .ref (E 0)), (2, .int (nI (mxT tk m))), (3, .int (nI (k + 1 + 1)))]) dX2_comeTrue_27 3 rfl (nI_1 _) (by decide) [1, 2, 3, 0] rfl ?_
          refine j_goto (tgt := 7) dX2_comeTrue_30 (by decide) ?_
          exact ih (k + 1) (by omega) (by show (caT s tk wh m k && _) = true; rw [he, h22]; rfl) (by omega)
        · skip
          refine j_iconst (v := nI 0) dX2_comeTrue_25 (by decide) ?_
          exact j_zret dX2_comeTrue_26 (rfl) ⟨rfl, rfl⟩ ⟨rv_f (by rw [show mxT tk m = k + 1 + (mxT tk m - (k + 1)) by omega]; exact caT_up (by show (caT s tk wh m k && _) = false; rw [h22, Bool.and_false]) _), _, rfl⟩
  exact L7 (mxT tk m + 1) 0 (by omega) rfl (by omega)

end HI1
