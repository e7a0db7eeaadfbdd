abbrev TW (D : DX) (X : Nat → Nat) (sg kd nu : SS) (k n ic : Nat) : va_W := [(X 0, .inr (3, [.ref (X 1), .ref (X 2), .ref (X 3), .int (nI k), .int (nI n), .int (nI ic)])), (X 1, .inl (dI D, 120, .inl sg)), (X 2, .inl (dI D, 24, .inl kd)), (X 3, .inl (dI D, 240, .inl nu))]
def rnU (sg : SS) (n k : Nat) (lo hi : Int32) (nu : SS) (into : Nat) : SS := if rdk sg n k lo hi = true then upd nu into (nval sg n k) else nu
def rnP (sg : SS) (n k : Nat) (lo hi : Int32) : Nat := if rdk sg n k lo hi = true then nend sg n k else k
theorem rnU_t {sg nu : SS} {n k into : Nat} {lo hi : Int32} (h : rdk sg n k lo hi = true) : rnU sg n k lo hi nu into = upd nu into (nval sg n k) := if_pos h
theorem rnP_t {sg : SS} {n k : Nat} {lo hi : Int32} (h : rdk sg n k lo hi = true) : rnP sg n k lo hi = nend sg n k := if_pos h
theorem rnU_f {sg nu : SS} {n k into : Nat} {lo hi : Int32} (h : rdk sg n k lo hi = false) : rnU sg n k lo hi nu into = nu := if_neg (by rw [h]; decide)
theorem rnP_f {sg : SS} {n k : Nat} {lo hi : Int32} (h : rdk sg n k lo hi = false) : rnP sg n k lo hi = k := if_neg (by rw [h]; decide)
theorem rnW_t {D : DX} {X : Nat → Nat} {sg kd nu : SS} {n k into ic : Nat} {lo hi : Int32} (h : rdk sg n k lo hi = true) : TW D X sg kd (rnU sg n k lo hi nu into) (rnP sg n k lo hi) n ic = TW D X sg kd (upd nu into (nval sg n k)) (nend sg n k) n ic := by rw [rnU_t h, rnP_t h]
theorem rnW_f {D : DX} {X : Nat → Nat} {sg kd nu : SS} {n k into ic : Nat} {lo hi : Int32} (h : rdk sg n k lo hi = false) : TW D X sg kd (rnU sg n k lo hi nu into) (rnP sg n k lo hi) n ic = TW D X sg kd nu k n ic := by rw [rnU_f h, rnP_f h]
section TX1
variable {D : DX}
set_option maxHeartbeats 4000000 in
set_option maxRecDepth 100000 in
theorem c_X4_within (v lo hi : Int32) : Ct D yX4_within cX4_within 3 (some .boolean) ({ frames := 0, cells := 0, slots := 0, locals := 0 } : Room) [.int v, .int lo, .int hi] (([] : va_W)) (fun v_ u_ => v_ = some (.int (bI (inR v lo hi))) ∧ u_ = ([] : va_W)) := by
  refine ct_of (by decide) (Nat.le_of_ble_eq_true rfl) (lv0 := [(0, .int v), (1, .int lo), (2, .int hi)]) rfl (fun Γ => ?_)
  refine j_iload_n dX4_within_0 0 rfl ?_
  refine j_iload_n dX4_within_1 1 rfl ?_
  refine j_icmp_lt (tgt := 14) dX4_within_2 (by decide) (fun h2 => ?_) (fun h2 => ?_)
  · skip
    refine j_iconst (v := nI 0) dX4_within_14 (by decide) ?_
    exact j_zret dX4_within_15 (rfl) ⟨rfl, rfl⟩ ⟨rv_f (inR_f1 h2), rfl⟩
  · skip
    refine j_iload_n dX4_within_5 0 rfl ?_
    refine j_iload_n dX4_within_6 2 rfl ?_
    refine j_icmp_gt (tgt := 14) dX4_within_7 (by decide) (fun h7 => ?_) (fun h7 => ?_)
    · skip
      refine j_iconst (v := nI 0) dX4_within_14 (by decide) ?_
      exact j_zret dX4_within_15 (rfl) ⟨rfl, rfl⟩ ⟨rv_f (inR_f2 h7), rfl⟩
    · skip
      refine j_iconst (v := nI 1) dX4_within_10 (by decide) ?_
      refine j_goto (tgt := 15) dX4_within_11 (by decide) ?_
      exact j_zret dX4_within_15 (rfl) ⟨rfl, rfl⟩ ⟨rv_t (inR_t h2 h7), rfl⟩

set_option maxHeartbeats 4000000 in
set_option maxRecDepth 100000 in
theorem c_X4_isChannel (v : Int32) : Ct D yX4_isChannel cX4_isChannel 1 (some .boolean) ({ frames := 1, cells := 0, slots := 0, locals := 22 } : Room) [.int v] (([] : va_W)) (fun v_ u_ => v_ = some (.int (bI (inR v (nI 0) (nI 3)))) ∧ u_ = ([] : va_W)) := by
  refine ct_of (by decide) (Nat.le_of_ble_eq_true rfl) (lv0 := [(0, .int v)]) rfl (fun Γ => ?_)
  refine j_iload_n dX4_isChannel_0 0 rfl ?_
  refine j_iconst (v := nI 0) dX4_isChannel_1 (by decide) ?_
  refine j_iconst (v := nI 3) dX4_isChannel_2 (by decide) ?_
  refine j_S (w2 := ([] : va_W)) (st2 := [.int (bI (inR v (nI 0) (nI 3)))]) (c_X4_within v (nI 0) (nI 3)) rfl cw_X4_48 dX4_isChannel_3 [] rfl [] rfl rfl rfl ?_ ⟨rfl, ⟨Nat.le_of_ble_eq_true rfl, Nat.le_of_ble_eq_true rfl⟩, ⟨rfl, rfl⟩, ⟨Nat.le_of_ble_eq_true rfl, Nat.le_of_ble_eq_true rfl⟩, Nat.le_of_ble_eq_true rfl, rfl, rfl⟩
  exact j_zret dX4_isChannel_6 (nar_b _) ⟨rfl, rfl⟩ ⟨rfl, rfl⟩

set_option maxHeartbeats 4000000 in
set_option maxRecDepth 100000 in
theorem c_X4_isSlot (v z : Int32) : Ct D yX4_isSlot cX4_isSlot 2 (some .boolean) ({ frames := 2, cells := 0, slots := 0, locals := 42 } : Room) [.int v, .int z] (([] : va_W)) (fun v_ u_ => v_ = some (.int (bI (inR v (nI 0) (nI 3) && inR z (nI 0) (nI 5)))) ∧ u_ = ([] : va_W)) := by
  refine ct_of (by decide) (Nat.le_of_ble_eq_true rfl) (lv0 := [(0, .int v), (1, .int z)]) rfl (fun Γ => ?_)
  refine j_iload_n dX4_isSlot_0 0 rfl ?_
  refine j_S (w2 := ([] : va_W)) (st2 := [.int (bI (inR v (nI 0) (nI 3)))]) (c_X4_isChannel v) rfl cw_X4_85 dX4_isSlot_1 [] rfl [] rfl rfl rfl ?_ ⟨rfl, ⟨Nat.le_of_ble_eq_true rfl, Nat.le_of_ble_eq_true rfl⟩, ⟨rfl, rfl⟩, ⟨Nat.le_of_ble_eq_true rfl, Nat.le_of_ble_eq_true rfl⟩, Nat.le_of_ble_eq_true rfl, rfl, rfl⟩
  refine j_if_eq_B (tgt := 20) dX4_isSlot_4 (by decide) (fun h4 => ?_) (fun h4 => ?_)
  · skip
    refine j_iconst (v := nI 0) dX4_isSlot_20 (by decide) ?_
    exact j_zret dX4_isSlot_21 (rfl) ⟨rfl, rfl⟩ ⟨rv_f (by rw [h4]; rfl), rfl⟩
  · skip
    refine j_iload_n dX4_isSlot_7 1 rfl ?_
    refine j_iconst (v := nI 0) dX4_isSlot_8 (by decide) ?_
    refine j_iconst (v := nI 5) dX4_isSlot_9 (by decide) ?_
    refine j_S (w2 := ([] : va_W)) (st2 := [.int (bI (inR z (nI 0) (nI 5)))]) (c_X4_within z (nI 0) (nI 5)) rfl cw_X4_48 dX4_isSlot_10 [] rfl [] rfl rfl rfl ?_ ⟨rfl, ⟨Nat.le_of_ble_eq_true rfl, Nat.le_of_ble_eq_true rfl⟩, ⟨rfl, rfl⟩, ⟨Nat.le_of_ble_eq_true rfl, Nat.le_of_ble_eq_true rfl⟩, Nat.le_of_ble_eq_true rfl, rfl, rfl⟩
    refine j_if_eq_B (tgt := 20) dX4_isSlot_13 (by decide) (fun h13 => ?_) (fun h13 => ?_)
    · skip
      refine j_iconst (v := nI 0) dX4_isSlot_20 (by decide) ?_
      exact j_zret dX4_isSlot_21 (rfl) ⟨rfl, rfl⟩ ⟨rv_f (by rw [h13, Bool.and_false]), rfl⟩
    · skip
      refine j_iconst (v := nI 1) dX4_isSlot_16 (by decide) ?_
      refine j_goto (tgt := 21) dX4_isSlot_17 (by decide) ?_
      exact j_zret dX4_isSlot_21 (rfl) ⟨rfl, rfl⟩ ⟨rv_t (by rw [h4, h13]; rfl), rfl⟩

set_option maxHeartbeats 4000000 in
set_option maxRecDepth 100000 in
theorem c_X3_isFigure (v : Int32) : Ct D yX3_isFigure cX3_isFigure 1 (some .boolean) ({ frames := 1, cells := 0, slots := 0, locals := 22 } : Room) [.int v] (([] : va_W)) (fun v_ u_ => v_ = some (.int (bI (dgt v))) ∧ u_ = ([] : va_W)) := by
  refine ct_of (by decide) (Nat.le_of_ble_eq_true rfl) (lv0 := [(0, .int v)]) rfl (fun Γ => ?_)
  refine j_iload_n dX3_isFigure_0 0 rfl ?_
  refine j_bipush (v := nI 48) dX3_isFigure_1 (by decide) ?_
  refine j_bipush (v := nI 57) dX3_isFigure_3 (by decide) ?_
  refine j_N (w2 := ([] : va_W)) (st2 := [.int (bI (inR v (nI 48) (nI 57)))]) (c_X4_within v (nI 48) (nI 57)) rfl dX3_isFigure_5 [] rfl [] rfl rfl rfl ?_ ⟨rfl, ⟨Nat.le_of_ble_eq_true rfl, Nat.le_of_ble_eq_true rfl⟩, ⟨rfl, rfl⟩, ⟨Nat.le_of_ble_eq_true rfl, Nat.le_of_ble_eq_true rfl⟩, Nat.le_of_ble_eq_true rfl, rfl, rfl⟩
  exact j_zret dX3_isFigure_8 (nar_b _) ⟨rfl, rfl⟩ ⟨rfl, rfl⟩

set_option maxHeartbeats 4000000 in
set_option maxRecDepth 100000 in
theorem c_X3_kind (X : Nat → Nat) (sg kd nu : SS) (k n ic : Nat) (i : Nat) (hi : i < 24) : Ct D yX3_kind cX3_kind 2 (some .int) ({ frames := 0, cells := 0, slots := 0, locals := 0 } : Room) [.ref (X 0), .int (nI i)] (TW D X sg kd nu k n ic) (fun v_ u_ => v_ = some (.int (kd i)) ∧ u_ = TW D X sg kd nu k n ic) := by
  refine ct_of (by decide) (Nat.le_of_ble_eq_true rfl) (lv0 := [(0, .ref (X 0)), (1, .int (nI i))]) rfl (fun Γ => ?_)
  refine j_aload_n dX3_kind_0 0 rfl ?_
  refine g_X3_13 rfl dX3_kind_1 0 rfl rfl ?_
  refine j_iload_n dX3_kind_4 1 rfl ?_
  refine j_iald (v := kd i) dX3_kind_5 2 i rfl (rfl) (by omega) (Nat.le_of_ble_eq_true rfl) (rfl) ?_
  exact j_iret dX3_kind_6 ⟨rfl, rfl⟩ ⟨rfl, rfl⟩

set_option maxHeartbeats 4000000 in
set_option maxRecDepth 100000 in
theorem c_X3_number (X : Nat → Nat) (sg kd nu : SS) (k n ic : Nat) (i j : Nat) (hi : i < 24) (hj : j < 10) : Ct D yX3_number cX3_number 3 (some .int) ({ frames := 0, cells := 0, slots := 0, locals := 0 } : Room) [.ref (X 0), .int (nI i), .int (nI j)] (TW D X sg kd nu k n ic) (fun v_ u_ => v_ = some (.int (nu (i * 10 + j))) ∧ u_ = TW D X sg kd nu k n ic) := by
  refine ct_of (by decide) (Nat.le_of_ble_eq_true rfl) (lv0 := [(0, .ref (X 0)), (1, .int (nI i)), (2, .int (nI j))]) rfl (fun Γ => ?_)
  refine j_aload_n dX3_number_0 0 rfl ?_
  refine g_X3_16 rfl dX3_number_1 0 rfl rfl ?_
  refine j_iload_n dX3_number_4 1 rfl ?_
  refine j_bipush (v := nI 10) dX3_number_5 (by decide) ?_
  refine j_imul (v := nI (i * 10)) dX3_number_7 (pk_mul _ _) ?_
  refine j_iload_n dX3_number_8 2 rfl ?_
  refine j_iadd (v := nI (i * 10 + j)) dX3_number_9 (nI_add _ _) ?_
  refine j_iald (v := nu (i * 10 + j)) dX3_number_10 3 (i * 10 + j) rfl (rfl) (by omega) (Nat.le_of_ble_eq_true rfl) (rfl) ?_
  exact j_iret dX3_number_11 ⟨rfl, rfl⟩ ⟨rfl, rfl⟩

set_option maxHeartbeats 4000000 in
set_option maxRecDepth 100000 in
theorem c_X3_wipe (X : Nat → Nat) (sg kd nu : SS) (k n ic : Nat) : Ct D yX3_wipe cX3_wipe 1 none ({ frames := 0, cells := 0, slots := 0, locals := 0 } : Room) [.ref (X 0)] (TW D X sg kd nu k n ic) (fun v_ u_ => v_ = none ∧ u_ = TW D X sg kd nu k 0 ic) := by
  refine ct_of (by decide) (Nat.le_of_ble_eq_true rfl) (lv0 := [(0, .ref (X 0))]) rfl (fun Γ => ?_)
  refine j_aload_n dX3_wipe_0 0 rfl ?_
  refine j_iconst (v := nI 0) dX3_wipe_1 (by decide) ?_
  refine p_X3_23 (w2 := TW D X sg kd nu k 0 ic) rfl dX3_wipe_2 0 rfl (Nat.le_of_ble_eq_true rfl) (rfl) ?_
  exact j_vret dX3_wipe_5 ⟨rfl, rfl⟩ ⟨rfl, rfl⟩

set_option maxHeartbeats 4000000 in
set_option maxRecDepth 100000 in
theorem c_X3_append (X : Nat → Nat) (sg kd nu : SS) (k n ic : Nat) (v : Int32) (hn : n < 120) : Ct D yX3_append cX3_append 2 (some .boolean) ({ frames := 0, cells := 0, slots := 0, locals := 0 } : Room) [.ref (X 0), .int v] (TW D X sg kd nu k n ic) (fun v_ u_ => v_ = some (.int (bI true)) ∧ u_ = TW D X (upd sg n v) kd nu k (n + 1) ic) := by
  refine ct_of (by decide) (Nat.le_of_ble_eq_true rfl) (lv0 := [(0, .ref (X 0)), (1, .int v)]) rfl (fun Γ => ?_)
  refine j_aload_n dX3_append_0 0 rfl ?_
  refine g_X3_23 rfl dX3_append_1 0 rfl rfl ?_
  refine j_bipush (v := nI 120) dX3_append_4 (by decide) ?_
  refine j_icmp_lt_N (tgt := 11) dX3_append_6 (by decide) ⟨by omega, by omega⟩ (fun h6 => ?_) (fun h6 => absurd hn h6)
  refine j_aload_n dX3_append_11 0 rfl ?_
  refine g_X3_9 rfl dX3_append_12 0 rfl rfl ?_
  refine j_aload_n dX3_append_15 0 rfl ?_
  refine g_X3_23 rfl dX3_append_16 0 rfl rfl ?_
  refine j_iload_n dX3_append_19 1 rfl ?_
  refine j_iast (w2 := TW D X (upd sg n v) kd nu k n ic) dX3_append_20 1 n rfl (rfl) (by omega) (Nat.le_of_ble_eq_true rfl) (rfl) ?_
  refine j_aload_n dX3_append_21 0 rfl ?_
  refine j_dup dX3_append_22 rfl ?_
  refine g_X3_23 rfl dX3_append_23 0 rfl rfl ?_
  refine j_iconst (v := nI 1) dX3_append_26 (by decide) ?_
  refine j_iadd (v := nI (n + 1)) dX3_append_27 (nI_add _ _) ?_
  refine p_X3_23 (w2 := TW D X (upd sg n v) kd nu k (n + 1) ic) rfl dX3_append_28 0 rfl (Nat.le_of_ble_eq_true rfl) (rfl) ?_
  refine j_iconst (v := nI 1) dX3_append_31 (by decide) ?_
  exact j_zret dX3_append_32 (rfl) ⟨rfl, rfl⟩ ⟨rfl, rfl⟩

set_option maxHeartbeats 4000000 in
set_option maxRecDepth 100000 in
theorem c_X3_append_full (X : Nat → Nat) (sg kd nu : SS) (k n ic : Nat) (v : Int32) (hn : n = 120) : Ct D yX3_append cX3_append 2 (some .boolean) ({ frames := 0, cells := 0, slots := 0, locals := 0 } : Room) [.ref (X 0), .int v] (TW D X sg kd nu k n ic) (fun v_ u_ => v_ = some (.int (bI false)) ∧ u_ = TW D X sg kd nu k n ic) := by
  refine ct_of (by decide) (Nat.le_of_ble_eq_true rfl) (lv0 := [(0, .ref (X 0)), (1, .int v)]) rfl (fun Γ => ?_)
  refine j_aload_n dX3_append_0 0 rfl ?_
  refine g_X3_23 rfl dX3_append_1 0 rfl rfl ?_
  refine j_bipush (v := nI 120) dX3_append_4 (by decide) ?_
  refine j_icmp_lt_N (tgt := 11) dX3_append_6 (by decide) ⟨by omega, by omega⟩ (fun h6 => absurd h6 (by omega)) (fun h6 => ?_)
  refine j_iconst (v := nI 0) dX3_append_9 (by decide) ?_
  exact j_zret dX3_append_10 (rfl) ⟨rfl, rfl⟩ ⟨rfl, rfl⟩

set_option maxHeartbeats 4000000 in
set_option maxRecDepth 100000 in
theorem c_X3_skipBlanks (X : Nat → Nat) (sg kd nu : SS) (k n ic : Nat) (hn : n ≤ 120) (hk : k ≤ n) : Ct D yX3_skipBlanks cX3_skipBlanks 1 none ({ frames := 0, cells := 0, slots := 0, locals := 0 } : Room) [.ref (X 0)] (TW D X sg kd nu k n ic) (fun v_ u_ => v_ = none ∧ u_ = TW D X sg kd nu (sk sg n k) n ic) := by
  refine ct_of (by decide) (Nat.le_of_ble_eq_true rfl) (lv0 := [(0, .ref (X 0))]) rfl (fun Γ => ?_)
  have L0 : ∀ (fuel : Nat) (j : Nat), j ≤ n → sk sg n k = sk sg n j → n - j < fuel → J D Γ yX3_skipBlanks cX3_skipBlanks 1 none ({ frames := 0, cells := 0, slots := 0, locals := 0 } : Room) (Qf D Γ ({ frames := 0, cells := 0, slots := 0, locals := 0 } : Room) (fun v_ u_ => v_ = none ∧ u_ = TW D X sg kd nu (sk sg n k) n ic)) 0 0 (TW D X sg kd nu j n ic) 0 [(0, .ref (X 0))] [] := by
    intro fuel
    induction fuel with
    | zero => intro j hj he hm; exact absurd hm (Nat.not_lt_zero _)
    | succ fuel ih =>
      intro j hj he hm
      refine j_aload_n dX3_skipBlanks_0 0 rfl ?_
      refine g_X3_19 rfl dX3_skipBlanks_1 0 rfl rfl ?_
      refine j_aload_n dX3_skipBlanks_4 0 rfl ?_
      refine g_X3_23 rfl dX3_skipBlanks_5 0 rfl rfl ?_
      refine j_icmp_ge_N (tgt := 38) dX3_skipBlanks_8 (by decide) ⟨by omega, by omega⟩ (fun h8 => ?_) (fun h8 => ?_)
      · skip
        exact j_vret dX3_skipBlanks_38 ⟨rfl, rfl⟩ ⟨rfl, by rw [he, sk_stop (fun q => by omega)]⟩
      · skip
        refine j_aload_n dX3_skipBlanks_11 0 rfl ?_
        refine g_X3_9 rfl dX3_skipBlanks_12 0 rfl rfl ?_
        refine j_aload_n dX3_skipBlanks_15 0 rfl ?_
        refine g_X3_19 rfl dX3_skipBlanks_16 0 rfl rfl ?_
        refine j_iald (v := sg j) dX3_skipBlanks_19 1 j rfl (rfl) (by omega) (Nat.le_of_ble_eq_true rfl) (rfl) ?_
        refine j_bipush (v := nI 32) dX3_skipBlanks_20 (by decide) ?_
        refine j_icmp_ne (tgt := 38) dX3_skipBlanks_22 (by decide) (fun h22 => ?_) (fun h22 => ?_)
        · skip
          exact j_vret dX3_skipBlanks_38 ⟨rfl, rfl⟩ ⟨rfl, by rw [he, sk_stop (fun q => h22 q.2)]⟩
        · skip
          refine j_aload_n dX3_skipBlanks_25 0 rfl ?_
          refine j_dup dX3_skipBlanks_26 rfl ?_
          refine g_X3_19 rfl dX3_skipBlanks_27 0 rfl rfl ?_
          refine j_iconst (v := nI 1) dX3_skipBlanks_30 (by decide) ?_
          refine j_iadd (v := nI (j + 1)) dX3_skipBlanks_31 (nI_add _ _) ?_
          refine p_X3_19 (w2 := TW D X sg kd nu (j + 1) n ic) rfl dX3_skipBlanks_32 0 rfl (Nat.le_of_ble_eq_true rfl) (rfl) ?_
          refine j_goto (tgt := 0) dX3_skipBlanks_35 (by decide) ?_
          exact ih (j + 1) (by omega) (by rw [he, sk_go (by omega) h22]) (by omega)
  exact L0 (n + 1) k hk rfl (by omega)

set_option maxHeartbeats 4000000 in
set_option maxRecDepth 100000 in
theorem c_X3_readNumber (X : Nat → Nat) (sg kd nu : SS) (k n ic : Nat) (into : Nat) (lo hi : Int32) (hn : n ≤ 120) (hk : k ≤ n) (hi0 : into < 240) : Ct D yX3_readNumber cX3_readNumber 8 (some .boolean) ({ frames := 2, cells := 0, slots := 0, locals := 42 } : Room) [.ref (X 0), .int (nI into), .int lo, .int hi] (TW D X sg kd nu k n ic) (fun v_ u_ => v_ = some (.int (bI (rdk sg n k lo hi))) ∧ u_ = TW D X sg kd (rnU sg n k lo hi nu into) (rnP sg n k lo hi) n ic) := by
  have hf1 := fsx_le (sg := sg) hk
  have hf2 := nend_le (sg := sg) hk
  unfold nend at hf2
  refine ct_of (by decide) (Nat.le_of_ble_eq_true rfl) (lv0 := [(0, .ref (X 0)), (1, .int (nI into)), (2, .int lo), (3, .int hi)]) rfl (fun Γ => ?_)
  have K157 : wf sg n k = true → J D Γ yX3_readNumber cX3_readNumber 8 (some .boolean) ({ frames := 2, cells := 0, slots := 0, locals := 42 } : Room) (Qf D Γ ({ frames := 2, cells := 0, slots := 0, locals := 42 } : Room) (fun v_ u_ => v_ = some (.int (bI (rdk sg n k lo hi))) ∧ u_ = TW D X sg kd (rnU sg n k lo hi nu into) (rnP sg n k lo hi) n ic)) 0 0 (TW D X sg kd nu k n ic) 157 [(0, .ref (X 0)), (1, .int (nI into)), (2, .int lo), (3, .int hi), (4, .int (bI (bel sg n k))), (5, .int (nI (fsx sg n k))), (6, .int (nI (fm sg n k))), (7, .int (nv sg (fsx sg n k) (min (fm sg n k) 3)))] [] := by
    intro hwf
    obtain ⟨hw1, hw2, hw3⟩ := wf_iff.mp hwf
    refine j_iload dX3_readNumber_157 4 rfl ?_
    refine j_if_eq_B (tgt := 168) dX3_readNumber_159 (by decide) (fun h159 => ?_) (fun h159 => ?_)
    · skip
      refine j_iload dX3_readNumber_168 7 rfl ?_
      refine j_topi (v := nval sg n k) (by rw [nval_f h159, show min (fm sg n k) 3 = fm sg n k by omega]) ?_
      refine j_istore (lv2 := [(0, .ref (X 0)), (1, .int (nI into)), (2, .int lo), (3, .int hi), (4, .int (bI (bel sg n k))), (5, .int (nI (fsx sg n k))), (6, .int (nI (fm sg n k))), (7, .int (nval sg n k))]) dX3_readNumber_170 (by decide) [1, 2, 3, 4, 5, 6, 7, 0] rfl ?_
      refine j_iload dX3_readNumber_172 7 rfl ?_
      refine j_iload_n dX3_readNumber_174 2 rfl ?_
      refine j_iload_n dX3_readNumber_175 3 rfl ?_
      refine j_N (w2 := TW D X sg kd nu k n ic) (st2 := [.int (bI (inR (nval sg n k) lo hi))]) (c_X4_within (nval sg n k) lo hi) rfl dX3_readNumber_176 [] rfl [] rfl rfl rfl ?_ ⟨rfl, ⟨Nat.le_of_ble_eq_true rfl, Nat.le_of_ble_eq_true rfl⟩, ⟨rfl, rfl⟩, ⟨Nat.le_of_ble_eq_true rfl, Nat.le_of_ble_eq_true rfl⟩, Nat.le_of_ble_eq_true rfl, rfl, rfl⟩
      refine j_if_ne_B (tgt := 184) dX3_readNumber_179 (by decide) (fun h179 => ?_) (fun h179 => ?_)
      · skip
        refine j_aload_n dX3_readNumber_184 0 rfl ?_
        refine g_X3_16 rfl dX3_readNumber_185 0 rfl rfl ?_
        refine j_iload_n dX3_readNumber_188 1 rfl ?_
        refine j_iload dX3_readNumber_189 7 rfl ?_
        refine j_iast (w2 := TW D X sg kd (upd nu into (nval sg n k)) k n ic) dX3_readNumber_191 3 into rfl (rfl) (by omega) (Nat.le_of_ble_eq_true rfl) (rfl) ?_
        refine j_aload_n dX3_readNumber_192 0 rfl ?_
        refine j_iload dX3_readNumber_193 5 rfl ?_
        refine j_iload dX3_readNumber_195 6 rfl ?_
        refine j_iadd (v := nI (fsx sg n k + (fm sg n k))) dX3_readNumber_197 (nI_add _ _) ?_
        refine p_X3_19 (w2 := TW D X sg kd (upd nu into (nval sg n k)) (fsx sg n k + fm sg n k) n ic) rfl dX3_readNumber_198 0 rfl (Nat.le_of_ble_eq_true rfl) (rfl) ?_
        refine j_iconst (v := nI 1) dX3_readNumber_201 (by decide) ?_
        exact j_zret dX3_readNumber_202 (rfl) ⟨rfl, rfl⟩ ⟨rv_t (rdk_t hwf h179), by rw [rnW_t (rdk_t hwf h179)]; rfl⟩
      · skip
        refine j_iconst (v := nI 0) dX3_readNumber_182 (by decide) ?_
        exact j_zret dX3_readNumber_183 (rfl) ⟨rfl, rfl⟩ ⟨rv_f (rdk_f2 h179), by rw [rnW_f (rdk_f2 h179)]⟩
    · skip
      refine j_iload dX3_readNumber_162 7 rfl ?_
      refine j_ineg (v := -(nv sg (fsx sg n k) (min (fm sg n k) 3))) dX3_readNumber_164 (rfl) ?_
      refine j_goto (tgt := 170) dX3_readNumber_165 (by decide) ?_
      refine j_topi (v := nval sg n k) (by rw [nval_t h159, show min (fm sg n k) 3 = fm sg n k by omega]) ?_
      refine j_istore (lv2 := [(0, .ref (X 0)), (1, .int (nI into)), (2, .int lo), (3, .int hi), (4, .int (bI (bel sg n k))), (5, .int (nI (fsx sg n k))), (6, .int (nI (fm sg n k))), (7, .int (nval sg n k))]) dX3_readNumber_170 (by decide) [1, 2, 3, 4, 5, 6, 7, 0] rfl ?_
      refine j_iload dX3_readNumber_172 7 rfl ?_
      refine j_iload_n dX3_readNumber_174 2 rfl ?_
      refine j_iload_n dX3_readNumber_175 3 rfl ?_
      refine j_N (w2 := TW D X sg kd nu k n ic) (st2 := [.int (bI (inR (nval sg n k) lo hi))]) (c_X4_within (nval sg n k) lo hi) rfl dX3_readNumber_176 [] rfl [] rfl rfl rfl ?_ ⟨rfl, ⟨Nat.le_of_ble_eq_true rfl, Nat.le_of_ble_eq_true rfl⟩, ⟨rfl, rfl⟩, ⟨Nat.le_of_ble_eq_true rfl, Nat.le_of_ble_eq_true rfl⟩, Nat.le_of_ble_eq_true rfl, rfl, rfl⟩
      refine j_if_ne_B (tgt := 184) dX3_readNumber_179 (by decide) (fun h179 => ?_) (fun h179 => ?_)
      · skip
        refine j_aload_n dX3_readNumber_184 0 rfl ?_
        refine g_X3_16 rfl dX3_readNumber_185 0 rfl rfl ?_
        refine j_iload_n dX3_readNumber_188 1 rfl ?_
        refine j_iload dX3_readNumber_189 7 rfl ?_
        refine j_iast (w2 := TW D X sg kd (upd nu into (nval sg n k)) k n ic) dX3_readNumber_191 3 into rfl (rfl) (by omega) (Nat.le_of_ble_eq_true rfl) (rfl) ?_
        refine j_aload_n dX3_readNumber_192 0 rfl ?_
        refine j_iload dX3_readNumber_193 5 rfl ?_
        refine j_iload dX3_readNumber_195 6 rfl ?_
        refine j_iadd (v := nI (fsx sg n k + (fm sg n k))) dX3_readNumber_197 (nI_add _ _) ?_
        refine p_X3_19 (w2 := TW D X sg kd (upd nu into (nval sg n k)) (fsx sg n k + fm sg n k) n ic) rfl dX3_readNumber_198 0 rfl (Nat.le_of_ble_eq_true rfl) (rfl) ?_
        refine j_iconst (v := nI 1) dX3_readNumber_201 (by decide) ?_
        exact j_zret dX3_readNumber_202 (rfl) ⟨rfl, rfl⟩ ⟨rv_t (rdk_t hwf h179), by rw [rnW_t (rdk_t hwf h179)]; rfl⟩
      · skip
        refine j_iconst (v := nI 0) dX3_readNumber_182 (by decide) ?_
        exact j_zret dX3_readNumber_183 (rfl) ⟨rfl, rfl⟩ ⟨rv_f (rdk_f2 h179), by rw [rnW_f (rdk_f2 h179)]⟩
  have K119 : J D Γ yX3_readNumber cX3_readNumber 8 (some .boolean) ({ frames := 2, cells := 0, slots := 0, locals := 42 } : Room) (Qf D Γ ({ frames := 2, cells := 0, slots := 0, locals := 42 } : Room) (fun v_ u_ => v_ = some (.int (bI (rdk sg n k lo hi))) ∧ u_ = TW D X sg kd (rnU sg n k lo hi nu into) (rnP sg n k lo hi) n ic)) 0 0 (TW D X sg kd nu k n ic) 119 [(0, .ref (X 0)), (1, .int (nI into)), (2, .int lo), (3, .int hi), (4, .int (bI (bel sg n k))), (5, .int (nI (fsx sg n k))), (6, .int (nI (fm sg n k))), (7, .int (nv sg (fsx sg n k) (min (fm sg n k) 3)))] [] := by
    refine j_iload dX3_readNumber_119 6 rfl ?_
    refine j_if_eq_N (tgt := 130) dX3_readNumber_121 (by decide) (by omega) (fun h121 => ?_) (fun h121 => ?_)
    · skip
      refine j_iconst (v := nI 0) dX3_readNumber_130 (by decide) ?_
      exact j_zret dX3_readNumber_131 (rfl) ⟨rfl, rfl⟩ ⟨rv_f (rdk_f1 (wf_no (fun q => by omega))), by rw [rnW_f (rdk_f1 (wf_no (fun q => by omega)))]⟩
    · skip
      refine j_iload dX3_readNumber_124 6 rfl ?_
      refine j_iconst (v := nI 3) dX3_readNumber_126 (by decide) ?_
      refine j_icmp_le_N (tgt := 132) dX3_readNumber_127 (by decide) ⟨by omega, by omega⟩ (fun h127 => ?_) (fun h127 => ?_)
      · skip
        refine j_aload_n dX3_readNumber_132 0 rfl ?_
        refine g_X3_9 rfl dX3_readNumber_133 0 rfl rfl ?_
        refine j_iload dX3_readNumber_136 5 rfl ?_
        refine j_iald (v := sg (fsx sg n k)) dX3_readNumber_138 1 (fsx sg n k) rfl (rfl) (by omega) (Nat.le_of_ble_eq_true rfl) (rfl) ?_
        refine j_bipush (v := nI 48) dX3_readNumber_139 (by decide) ?_
        refine j_icmp_ne (tgt := 157) dX3_readNumber_141 (by decide) (fun h141 => ?_) (fun h141 => ?_)
        · skip
          exact K157 (wf_iff.mpr ⟨by omega, by omega, fun q => h141 q.1⟩)
        · skip
          refine j_iload dX3_readNumber_144 6 rfl ?_
          refine j_iconst (v := nI 1) dX3_readNumber_146 (by decide) ?_
          refine j_icmp_gt_N (tgt := 155) dX3_readNumber_147 (by decide) ⟨by omega, by omega⟩ (fun h147 => ?_) (fun h147 => ?_)
          · skip
            refine j_iconst (v := nI 0) dX3_readNumber_155 (by decide) ?_
            exact j_zret dX3_readNumber_156 (rfl) ⟨rfl, rfl⟩ ⟨rv_f (rdk_f1 (wf_no (fun q => q.2.2 ⟨h141, Or.inl h147⟩))), by rw [rnW_f (rdk_f1 (wf_no (fun q => q.2.2 ⟨h141, Or.inl h147⟩)))]⟩
          · skip
            refine j_iload dX3_readNumber_150 4 rfl ?_
            refine j_if_eq_B (tgt := 157) dX3_readNumber_152 (by decide) (fun h152 => ?_) (fun h152 => ?_)
            · skip
              exact K157 (wf_iff.mpr ⟨by omega, by omega, fun q => q.2.elim (fun z => by omega) (fun z => by rw [h152] at z; cases z)⟩)
            · skip
              refine j_iconst (v := nI 0) dX3_readNumber_155 (by decide) ?_
              exact j_zret dX3_readNumber_156 (rfl) ⟨rfl, rfl⟩ ⟨rv_f (rdk_f1 (wf_no (fun q => q.2.2 ⟨h141, Or.inr h152⟩))), by rw [rnW_f (rdk_f1 (wf_no (fun q => q.2.2 ⟨h141, Or.inr h152⟩)))]⟩
      · skip
        refine j_iconst (v := nI 0) dX3_readNumber_130 (by decide) ?_
        exact j_zret dX3_readNumber_131 (rfl) ⟨rfl, rfl⟩ ⟨rv_f (rdk_f1 (wf_no (fun q => by omega))), by rw [rnW_f (rdk_f1 (wf_no (fun q => by omega)))]⟩
  have K50 : J D Γ yX3_readNumber cX3_readNumber 8 (some .boolean) ({ frames := 2, cells := 0, slots := 0, locals := 42 } : Room) (Qf D Γ ({ frames := 2, cells := 0, slots := 0, locals := 42 } : Room) (fun v_ u_ => v_ = some (.int (bI (rdk sg n k lo hi))) ∧ u_ = TW D X sg kd (rnU sg n k lo hi nu into) (rnP sg n k lo hi) n ic)) 0 0 (TW D X sg kd nu k n ic) 50 [(0, .ref (X 0)), (1, .int (nI into)), (2, .int lo), (3, .int hi), (4, .int (bI (bel sg n k)))] [.int (nI (fsx sg n k))] := by
    refine j_istore (lv2 := [(0, .ref (X 0)), (1, .int (nI into)), (2, .int lo), (3, .int hi), (4, .int (bI (bel sg n k))), (5, .int (nI (fsx sg n k)))]) dX3_readNumber_50 (by decide) [1, 2, 3, 4, 5, 0] rfl ?_
    refine j_iconst (v := nI 0) dX3_readNumber_52 (by decide) ?_
    refine j_istore (lv2 := [(0, .ref (X 0)), (1, .int (nI into)), (2, .int lo), (3, .int hi), (4, .int (bI (bel sg n k))), (5, .int (nI (fsx sg n k))), (6, .int (nI 0))]) dX3_readNumber_53 (by decide) [1, 2, 3, 4, 5, 6, 0] rfl ?_
    refine j_iconst (v := nI 0) dX3_readNumber_55 (by decide) ?_
    refine j_istore (lv2 := [(0, .ref (X 0)), (1, .int (nI into)), (2, .int lo), (3, .int hi), (4, .int (bI (bel sg n k))), (5, .int (nI (fsx sg n k))), (6, .int (nI 0)), (7, .int (nI 0))]) dX3_readNumber_56 (by decide) [1, 2, 3, 4, 5, 6, 7, 0] rfl ?_
    have L58 : ∀ (fuel : Nat) (i : Nat), fsx sg n k + i ≤ n → fm sg n k = fg sg n (fsx sg n k + i) + i → n - (fsx sg n k + i) < fuel → J D Γ yX3_readNumber cX3_readNumber 8 (some .boolean) ({ frames := 2, cells := 0, slots := 0, locals := 42 } : Room) (Qf D Γ ({ frames := 2, cells := 0, slots := 0, locals := 42 } : Room) (fun v_ u_ => v_ = some (.int (bI (rdk sg n k lo hi))) ∧ u_ = TW D X sg kd (rnU sg n k lo hi nu into) (rnP sg n k lo hi) n ic)) 0 0 (TW D X sg kd nu k n ic) 58 [(0, .ref (X 0)), (1, .int (nI into)), (2, .int lo), (3, .int hi), (4, .int (bI (bel sg n k))), (5, .int (nI (fsx sg n k))), (6, .int (nI i)), (7, .int (nv sg (fsx sg n k) (min i 3)))] [] := by
      intro fuel
      induction fuel with
      | zero => intro i hi1 he hm; exact absurd hm (Nat.not_lt_zero _)
      | succ fuel ih =>
        intro i hi1 he hm
        refine j_iload dX3_readNumber_58 5 rfl ?_
        refine j_iload dX3_readNumber_60 6 rfl ?_
        refine j_iadd (v := nI (fsx sg n k + i)) dX3_readNumber_62 (nI_add _ _) ?_
        refine j_aload_n dX3_readNumber_63 0 rfl ?_
        refine g_X3_23 rfl dX3_readNumber_64 0 rfl rfl ?_
        refine j_icmp_ge_N (tgt := 119) dX3_readNumber_67 (by decide) ⟨by omega, by omega⟩ (fun h67 => ?_) (fun h67 => ?_)
        · skip
          rw [show i = fm sg n k by rw [he, fg_stop (fun q => by omega)]; omega]
          exact K119
        · skip
          refine j_aload_n dX3_readNumber_70 0 rfl ?_
          refine g_X3_9 rfl dX3_readNumber_71 0 rfl rfl ?_
          refine j_iload dX3_readNumber_74 5 rfl ?_
          refine j_iload dX3_readNumber_76 6 rfl ?_
          refine j_iadd (v := nI (fsx sg n k + i)) dX3_readNumber_78 (nI_add _ _) ?_
          refine j_iald (v := sg (fsx sg n k + i)) dX3_readNumber_79 1 (fsx sg n k + i) rfl (rfl) (by omega) (Nat.le_of_ble_eq_true rfl) (rfl) ?_
          refine j_S (w2 := TW D X sg kd nu k n ic) (st2 := [.int (bI (dgt (sg (fsx sg n k + i))))]) (c_X3_isFigure (sg (fsx sg n k + i))) rfl cw_X3_62 dX3_readNumber_80 [] rfl [] rfl rfl rfl ?_ ⟨rfl, ⟨Nat.le_of_ble_eq_true rfl, Nat.le_of_ble_eq_true rfl⟩, ⟨rfl, rfl⟩, ⟨Nat.le_of_ble_eq_true rfl, Nat.le_of_ble_eq_true rfl⟩, Nat.le_of_ble_eq_true rfl, rfl, rfl⟩
          refine j_if_eq_B (tgt := 119) dX3_readNumber_83 (by decide) (fun h83 => ?_) (fun h83 => ?_)
          · skip
            rw [show i = fm sg n k by rw [he, fg_stop (fun q => by rw [h83] at q; exact absurd q.2 (by decide))]; omega]
            exact K119
          · skip
            refine j_iload dX3_readNumber_86 6 rfl ?_
            refine j_iconst (v := nI 3) dX3_readNumber_88 (by decide) ?_
            refine j_icmp_ge_N (tgt := 113) dX3_readNumber_89 (by decide) ⟨by omega, by omega⟩ (fun h89 => ?_) (fun h89 => ?_)
            · skip
              refine j_iinc (v := nI (i + 1)) (lv2 := [(0, .ref (X 0)), (1, .int (nI into)), (2, .int lo), (3, .int hi), (4, .int (bI (bel sg n k))), (5, .int (nI (fsx sg n k))), (6, .int (nI (i + 1))), (7, .int (nv sg (fsx sg n k) (min i 3)))]) dX3_readNumber_113 6 rfl (nI_1 _) (by decide) [1, 2, 3, 4, 5, 6, 0, 7] rfl ?_
              refine j_goto (tgt := 58) dX3_readNumber_116 (by decide) ?_
              have hh := ih (i + 1) (by omega) (by rw [he, fg_go (by omega) h83]; show fg sg n (fsx sg n k + i + 1) + 1 + i = fg sg n (fsx sg n k + i + 1) + (i + 1); omega) (by omega)
              rw [show min (i + 1) 3 = min i 3 by omega] at hh
              exact hh
            · skip
              refine j_iload dX3_readNumber_92 7 rfl ?_
              refine j_bipush (v := nI 10) dX3_readNumber_94 (by decide) ?_
              refine j_imul (v := (nv sg (fsx sg n k) (min i 3)) * (nI 10)) dX3_readNumber_96 (rfl) ?_
              refine j_aload_n dX3_readNumber_97 0 rfl ?_
              refine g_X3_9 rfl dX3_readNumber_98 0 rfl rfl ?_
              refine j_iload dX3_readNumber_101 5 rfl ?_
              refine j_iload dX3_readNumber_103 6 rfl ?_
              refine j_iadd (v := nI (fsx sg n k + i)) dX3_readNumber_105 (nI_add _ _) ?_
              refine j_iald (v := sg (fsx sg n k + i)) dX3_readNumber_106 1 (fsx sg n k + i) rfl (rfl) (by omega) (Nat.le_of_ble_eq_true rfl) (rfl) ?_
              refine j_iadd (v := ((nv sg (fsx sg n k) (min i 3)) * (nI 10)) + (sg (fsx sg n k + i))) dX3_readNumber_107 (rfl) ?_
              refine j_bipush (v := nI 48) dX3_readNumber_108 (by decide) ?_
              refine j_isub (v := (((nv sg (fsx sg n k) (min i 3)) * (nI 10)) + (sg (fsx sg n k + i))) - (nI 48)) dX3_readNumber_110 (rfl) ?_
              refine j_topi (v := nv sg (fsx sg n k) (min (i + 1) 3)) (by rw [show min (i + 1) 3 = min i 3 + 1 by omega, show min i 3 = i by omega]; rfl) ?_
              refine j_istore (lv2 := [(0, .ref (X 0)), (1, .int (nI into)), (2, .int lo), (3, .int hi), (4, .int (bI (bel sg n k))), (5, .int (nI (fsx sg n k))), (6, .int (nI i)), (7, .int (nv sg (fsx sg n k) (min (i + 1) 3)))]) dX3_readNumber_111 (by decide) [1, 2, 3, 4, 5, 6, 7, 0] rfl ?_
              refine j_iinc (v := nI (i + 1)) (lv2 := [(0, .ref (X 0)), (1, .int (nI into)), (2, .int lo), (3, .int hi), (4, .int (bI (bel sg n k))), (5, .int (nI (fsx sg n k))), (6, .int (nI (i + 1))), (7, .int (nv sg (fsx sg n k) (min (i + 1) 3)))]) dX3_readNumber_113 6 rfl (nI_1 _) (by decide) [1, 2, 3, 4, 5, 6, 0, 7] rfl ?_
              refine j_goto (tgt := 58) dX3_readNumber_116 (by decide) ?_
              exact ih (i + 1) (by omega) (by rw [he, fg_go (by omega) h83]; show fg sg n (fsx sg n k + i + 1) + 1 + i = fg sg n (fsx sg n k + i + 1) + (i + 1); omega) (by omega)
    exact L58 (n + 1) 0 (by omega) rfl (by omega)
  have K30 : J D Γ yX3_readNumber cX3_readNumber 8 (some .boolean) ({ frames := 2, cells := 0, slots := 0, locals := 42 } : Room) (Qf D Γ ({ frames := 2, cells := 0, slots := 0, locals := 42 } : Room) (fun v_ u_ => v_ = some (.int (bI (rdk sg n k lo hi))) ∧ u_ = TW D X sg kd (rnU sg n k lo hi nu into) (rnP sg n k lo hi) n ic)) 0 0 (TW D X sg kd nu k n ic) 30 [(0, .ref (X 0)), (1, .int (nI into)), (2, .int lo), (3, .int hi)] [.int (bI (bel sg n k))] := by
    refine j_istore (lv2 := [(0, .ref (X 0)), (1, .int (nI into)), (2, .int lo), (3, .int hi), (4, .int (bI (bel sg n k)))]) dX3_readNumber_30 (by decide) [1, 2, 3, 4, 0] rfl ?_
    refine j_iload dX3_readNumber_32 4 rfl ?_
    refine j_if_eq_B (tgt := 46) dX3_readNumber_34 (by decide) (fun h34 => ?_) (fun h34 => ?_)
    · skip
      refine j_aload_n dX3_readNumber_46 0 rfl ?_
      refine g_X3_19 rfl dX3_readNumber_47 0 rfl rfl ?_
      refine j_topi (v := nI (fsx sg n k)) (by rw [fsx_f h34]) ?_
      exact K50 
    · skip
      refine j_aload_n dX3_readNumber_37 0 rfl ?_
      refine g_X3_19 rfl dX3_readNumber_38 0 rfl rfl ?_
      refine j_iconst (v := nI 1) dX3_readNumber_41 (by decide) ?_
      refine j_iadd (v := nI (k + 1)) dX3_readNumber_42 (nI_add _ _) ?_
      refine j_goto (tgt := 50) dX3_readNumber_43 (by decide) ?_
      refine j_topi (v := nI (fsx sg n k)) (by rw [fsx_t h34]) ?_
      exact K50 
  refine j_aload_n dX3_readNumber_0 0 rfl ?_
  refine g_X3_19 rfl dX3_readNumber_1 0 rfl rfl ?_
  refine j_aload_n dX3_readNumber_4 0 rfl ?_
  refine g_X3_23 rfl dX3_readNumber_5 0 rfl rfl ?_
  refine j_icmp_ge_N (tgt := 29) dX3_readNumber_8 (by decide) ⟨by omega, by omega⟩ (fun h8 => ?_) (fun h8 => ?_)
  · skip
    refine j_iconst (v := nI 0) dX3_readNumber_29 (by decide) ?_
    refine j_topi (v := bI (bel sg n k)) (by rw [bel_f1 h8]; rfl) ?_
    exact K30 
  · skip
    refine j_aload_n dX3_readNumber_11 0 rfl ?_
    refine g_X3_9 rfl dX3_readNumber_12 0 rfl rfl ?_
    refine j_aload_n dX3_readNumber_15 0 rfl ?_
    refine g_X3_19 rfl dX3_readNumber_16 0 rfl rfl ?_
    refine j_iald (v := sg k) dX3_readNumber_19 1 k rfl (rfl) (by omega) (Nat.le_of_ble_eq_true rfl) (rfl) ?_
    refine j_bipush (v := nI 45) dX3_readNumber_20 (by decide) ?_
    refine j_icmp_ne (tgt := 29) dX3_readNumber_22 (by decide) (fun h22 => ?_) (fun h22 => ?_)
    · skip
      refine j_iconst (v := nI 0) dX3_readNumber_29 (by decide) ?_
      refine j_topi (v := bI (bel sg n k)) (by rw [bel_f2 h22]; rfl) ?_
      exact K30 
    · skip
      refine j_iconst (v := nI 1) dX3_readNumber_25 (by decide) ?_
      refine j_goto (tgt := 30) dX3_readNumber_26 (by decide) ?_
      refine j_topi (v := bI (bel sg n k)) (by rw [bel_t (by omega) h22]; rfl) ?_
      exact K30 

end TX1
