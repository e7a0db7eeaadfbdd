section EN3
variable {D : DX}
set_option maxHeartbeats 4000000 in
set_option maxRecDepth 100000 in
theorem c_X0_writeBack (E : Nat → Nat) (s : SS) (p : Nat) (hp : p < 24) (h8 : s 428 = 1) (h9 : s 429 = nI p) : Ct D yX0_writeBack cX0_writeBack 4 none ({ frames := 1, cells := 0, slots := 0, locals := 23 } : Room) [.ref (E 0), .int (nI 0)] (EW D E s) (fun v_ u_ => v_ = none ∧ u_ = EW D E (wbF s p)) := by
  refine ct_of (by decide) (Nat.le_of_ble_eq_true rfl) (lv0 := [(0, .ref (E 0)), (1, .int (nI 0))]) rfl (fun Γ => ?_)
  refine j_aload_n dX0_writeBack_0 0 rfl ?_
  refine g_X0_21 rfl dX0_writeBack_1 0 rfl rfl ?_
  refine j_iload_n dX0_writeBack_4 1 rfl ?_
  refine j_iald (v := nI p) dX0_writeBack_5 4 0 rfl (rfl) (by omega) (Nat.le_of_ble_eq_true rfl) (Eq.trans (vQ_at (by decide)) h9) ?_
  refine j_istore_n (lv2 := [(0, .ref (E 0)), (1, .int (nI 0)), (2, .int (nI p))]) dX0_writeBack_6 (by decide) [1, 2, 0] rfl ?_
  refine j_aload_n dX0_writeBack_7 0 rfl ?_
  refine j_iload_n dX0_writeBack_8 2 rfl ?_
  refine j_bipush (v := nI 9) dX0_writeBack_9 (by decide) ?_
  refine j_iconst (v := nI 0) dX0_writeBack_11 (by decide) ?_
  refine j_V (w2 := EW D E (upd s (93 + 14 * p + 9) (nI 0))) (st2 := []) (c_X0_setLetter E s p 9 (nI 0) (by omega) (by omega)) rfl cw_X0_95 dX0_writeBack_12 [] rfl [0, 1, 2, 3, 4] rfl rfl rfl 0 ?_ ⟨rfl, ⟨Nat.le_of_ble_eq_true rfl, Nat.le_of_ble_eq_true rfl⟩, ⟨rfl, rfl⟩, ⟨Nat.le_of_ble_eq_true rfl, Nat.le_of_ble_eq_true rfl⟩, Nat.le_of_ble_eq_true rfl, rfl, rfl⟩ rfl rfl rfl
  refine j_aload_n dX0_writeBack_15 0 rfl ?_
  refine j_iload_n dX0_writeBack_16 2 rfl ?_
  refine j_bipush (v := nI 10) dX0_writeBack_17 (by decide) ?_
  refine j_iconst (v := nI 1) dX0_writeBack_19 (by decide) ?_
  refine j_V (w2 := EW D E (upd (upd s (93 + 14 * p + 9) (nI 0)) (93 + 14 * p + 10) (nI 1))) (st2 := []) (c_X0_setLetter E (upd s (93 + 14 * p + 9) (nI 0)) p 10 (nI 1) (by omega) (by omega)) rfl cw_X0_95 dX0_writeBack_20 [] rfl [0, 1, 2, 3, 4] rfl rfl rfl 0 ?_ ⟨rfl, ⟨Nat.le_of_ble_eq_true rfl, Nat.le_of_ble_eq_true rfl⟩, ⟨rfl, rfl⟩, ⟨Nat.le_of_ble_eq_true rfl, Nat.le_of_ble_eq_true rfl⟩, Nat.le_of_ble_eq_true rfl, rfl, rfl⟩ rfl rfl rfl
  refine j_aload_n dX0_writeBack_23 0 rfl ?_
  refine j_iload_n dX0_writeBack_24 2 rfl ?_
  refine j_bipush (v := nI 12) dX0_writeBack_25 (by decide) ?_
  refine j_iconst (v := nI 0) dX0_writeBack_27 (by decide) ?_
  refine j_V (w2 := EW D E (upd (upd (upd s (93 + 14 * p + 9) (nI 0)) (93 + 14 * p + 10) (nI 1)) (93 + 14 * p + 12) (nI 0))) (st2 := []) (c_X0_setLetter E (upd (upd s (93 + 14 * p + 9) (nI 0)) (93 + 14 * p + 10) (nI 1)) p 12 (nI 0) (by omega) (by omega)) rfl cw_X0_95 dX0_writeBack_28 [] rfl [0, 1, 2, 3, 4] rfl rfl rfl 0 ?_ ⟨rfl, ⟨Nat.le_of_ble_eq_true rfl, Nat.le_of_ble_eq_true rfl⟩, ⟨rfl, rfl⟩, ⟨Nat.le_of_ble_eq_true rfl, Nat.le_of_ble_eq_true rfl⟩, Nat.le_of_ble_eq_true rfl, rfl, rfl⟩ rfl rfl rfl
  refine j_w (w2 := EW D E (wb1 s p)) (rfl) ?_
  refine j_aload_n dX0_writeBack_31 0 rfl ?_
  refine j_iload_n dX0_writeBack_32 2 rfl ?_
  refine j_bipush (v := nI 8) dX0_writeBack_33 (by decide) ?_
  refine j_V (w2 := EW D E (wb1 s p)) (st2 := [.int (gL (wb1 s p) p 8)]) (c_X0_ofLetter E (wb1 s p) p 8 (by omega) (by omega)) rfl cw_X0_40 dX0_writeBack_35 [] rfl [0, 1, 2, 3, 4] rfl rfl rfl 0 ?_ ⟨rfl, ⟨Nat.le_of_ble_eq_true rfl, Nat.le_of_ble_eq_true rfl⟩, ⟨rfl, rfl⟩, ⟨Nat.le_of_ble_eq_true rfl, Nat.le_of_ble_eq_true rfl⟩, Nat.le_of_ble_eq_true rfl, rfl, rfl⟩ rfl rfl rfl
  refine j_if_ne (tgt := 50) dX0_writeBack_38 (by decide) (fun h38 => ?_) (fun h38 => ?_)
  · skip
    refine j_w (w2 := EW D E (wb2 s p)) (by rw [wb2_n h38]) ?_
    refine j_aload_n dX0_writeBack_50 0 rfl ?_
    refine j_dup dX0_writeBack_51 rfl ?_
    refine g_X0_24 rfl dX0_writeBack_52 0 rfl rfl ?_
    refine j_topi (v := nI 1) ((wb2_ne ⟨by omega, by omega, by omega, by omega⟩).trans h8) ?_
    refine j_iconst (v := nI 1) dX0_writeBack_55 (by decide) ?_
    refine j_isub (v := nI (1 - 1)) dX0_writeBack_56 (pk_sub (by omega)) ?_
    refine p_X0_24 (w2 := EW D E (wbF s p)) rfl dX0_writeBack_57 0 rfl (Nat.le_of_ble_eq_true rfl) (EW_q (s := wb2 s p) (x := nI (1 - 1))) ?_
    refine j_iload_n dX0_writeBack_60 1 rfl ?_
    refine j_istore_n (lv2 := [(0, .ref (E 0)), (1, .int (nI 0)), (2, .int (nI p)), (3, .int (nI 0))]) dX0_writeBack_61 (by decide) [1, 2, 3, 0] rfl ?_
    refine j_iload_n dX0_writeBack_62 3 rfl ?_
    refine j_aload_n dX0_writeBack_63 0 rfl ?_
    refine g_X0_24 rfl dX0_writeBack_64 0 rfl rfl ?_
    refine j_topi (v := nI 0) (up_eq) ?_
    refine j_icmp_ge_N (tgt := 90) dX0_writeBack_67 (by decide) ⟨by omega, by omega⟩ (fun h67 => ?_) (fun h67 => absurd (Nat.le_refl 0) h67)
    exact j_vret dX0_writeBack_90 ⟨rfl, rfl⟩ ⟨rfl, rfl⟩
  · skip
    refine j_aload_n dX0_writeBack_41 0 rfl ?_
    refine j_iload_n dX0_writeBack_42 2 rfl ?_
    refine j_bipush (v := nI 6) dX0_writeBack_43 (by decide) ?_
    refine j_idiv (v := nI (p / 6)) dX0_writeBack_45 (by decide) (pk_div (by omega) (by omega) (by omega)) ?_
    refine j_iconst (v := nI 5) dX0_writeBack_46 (by decide) ?_
    refine j_V (w2 := EW D E (upd (wb1 s p) (64 + 7 * (p / 6) + 5) (gC (wb1 s p) (p / 6) 5 + 1))) (st2 := []) (c_X0_addOneTo E (wb1 s p) (p / 6) 5 (by omega) (by omega)) rfl cw_X0_113 dX0_writeBack_47 [] rfl [0, 1, 2, 3, 4] rfl rfl rfl 0 ?_ ⟨rfl, ⟨Nat.le_of_ble_eq_true rfl, Nat.le_of_ble_eq_true rfl⟩, ⟨rfl, rfl⟩, ⟨Nat.le_of_ble_eq_true rfl, Nat.le_of_ble_eq_true rfl⟩, Nat.le_of_ble_eq_true rfl, rfl, rfl⟩ rfl rfl rfl
    refine j_w (w2 := EW D E (wb2 s p)) (by rw [wb2_y h38]) ?_
    refine j_aload_n dX0_writeBack_50 0 rfl ?_
    refine j_dup dX0_writeBack_51 rfl ?_
    refine g_X0_24 rfl dX0_writeBack_52 0 rfl rfl ?_
    refine j_topi (v := nI 1) ((wb2_ne ⟨by omega, by omega, by omega, by omega⟩).trans h8) ?_
    refine j_iconst (v := nI 1) dX0_writeBack_55 (by decide) ?_
    refine j_isub (v := nI (1 - 1)) dX0_writeBack_56 (pk_sub (by omega)) ?_
    refine p_X0_24 (w2 := EW D E (wbF s p)) rfl dX0_writeBack_57 0 rfl (Nat.le_of_ble_eq_true rfl) (EW_q (s := wb2 s p) (x := nI (1 - 1))) ?_
    refine j_iload_n dX0_writeBack_60 1 rfl ?_
    refine j_istore_n (lv2 := [(0, .ref (E 0)), (1, .int (nI 0)), (2, .int (nI p)), (3, .int (nI 0))]) dX0_writeBack_61 (by decide) [1, 2, 3, 0] rfl ?_
    refine j_iload_n dX0_writeBack_62 3 rfl ?_
    refine j_aload_n dX0_writeBack_63 0 rfl ?_
    refine g_X0_24 rfl dX0_writeBack_64 0 rfl rfl ?_
    refine j_topi (v := nI 0) (up_eq) ?_
    refine j_icmp_ge_N (tgt := 90) dX0_writeBack_67 (by decide) ⟨by omega, by omega⟩ (fun h67 => ?_) (fun h67 => absurd (Nat.le_refl 0) h67)
    exact j_vret dX0_writeBack_90 ⟨rfl, rfl⟩ ⟨rfl, rfl⟩

set_option maxHeartbeats 4000000 in
set_option maxRecDepth 100000 in
theorem c_X0_letWait (E : Nat → Nat) (s : SS) (hI : Inv s) (c p : Nat) (hc : c < 4) (hp : p < 24) (hq : s 428 = 0) : Ct D yX0_letWait cX0_letWait 3 none ({ frames := 1, cells := 0, slots := 0, locals := 23 } : Room) [.ref (E 0), .int (nI c), .int (nI p)] (EW D E s) (fun v_ u_ => v_ = none ∧ u_ = EW D E (wtF s c p)) := by
  have hh := (hI.hd_ hc).2
  refine ct_of (by decide) (Nat.le_of_ble_eq_true rfl) (lv0 := [(0, .ref (E 0)), (1, .int (nI c)), (2, .int (nI p))]) rfl (fun Γ => ?_)
  refine j_aload_n dX0_letWait_0 0 rfl ?_
  refine j_iload_n dX0_letWait_1 2 rfl ?_
  refine j_bipush (v := nI 12) dX0_letWait_2 (by decide) ?_
  refine j_iconst (v := nI 1) dX0_letWait_4 (by decide) ?_
  refine j_V (w2 := EW D E (upd s (93 + 14 * p + 12) (nI 1))) (st2 := []) (c_X0_setLetter E s p 12 (nI 1) (by omega) (by omega)) rfl cw_X0_95 dX0_letWait_5 [] rfl [0, 1, 2, 3, 4] rfl rfl rfl 0 ?_ ⟨rfl, ⟨Nat.le_of_ble_eq_true rfl, Nat.le_of_ble_eq_true rfl⟩, ⟨rfl, rfl⟩, ⟨Nat.le_of_ble_eq_true rfl, Nat.le_of_ble_eq_true rfl⟩, Nat.le_of_ble_eq_true rfl, rfl, rfl⟩ rfl rfl rfl
  refine j_aload_n dX0_letWait_8 0 rfl ?_
  refine g_X0_24 rfl dX0_letWait_9 0 rfl rfl ?_
  refine j_topi (v := nI 0) ((up_ne (by omega)).trans hq) ?_
  refine j_bipush (v := nI 24) dX0_letWait_12 (by decide) ?_
  refine j_icmp_ge_N (tgt := 37) dX0_letWait_14 (by decide) ⟨by omega, by omega⟩ (fun h14 => absurd h14 (by omega)) (fun h14 => ?_)
  refine j_aload_n dX0_letWait_17 0 rfl ?_
  refine g_X0_21 rfl dX0_letWait_18 0 rfl rfl ?_
  refine j_aload_n dX0_letWait_21 0 rfl ?_
  refine g_X0_24 rfl dX0_letWait_22 0 rfl rfl ?_
  refine j_topi (v := nI 0) ((up_ne (by omega)).trans hq) ?_
  refine j_iload_n dX0_letWait_25 2 rfl ?_
  refine j_iast (w2 := EW D E (upd (upd s (93 + 14 * p + 12) (nI 1)) 429 (nI p))) dX0_letWait_26 4 0 rfl (rfl) (by omega) (Nat.le_of_ble_eq_true rfl) (EW_Q (k := 0) (by decide)) ?_
  refine j_aload_n dX0_letWait_27 0 rfl ?_
  refine j_dup dX0_letWait_28 rfl ?_
  refine g_X0_24 rfl dX0_letWait_29 0 rfl rfl ?_
  refine j_topi (v := nI 0) ((up_ne (by omega)).trans ((up_ne (by omega)).trans hq)) ?_
  refine j_iconst (v := nI 1) dX0_letWait_32 (by decide) ?_
  refine j_iadd (v := nI (0 + 1)) dX0_letWait_33 (nI_add _ _) ?_
  refine p_X0_24 (w2 := EW D E (upd (upd (upd s (93 + 14 * p + 12) (nI 1)) 429 (nI p)) 428 (nI (0 + 1)))) rfl dX0_letWait_34 0 rfl (Nat.le_of_ble_eq_true rfl) (EW_q) ?_
  refine j_aload_n dX0_letWait_37 0 rfl ?_
  refine j_iload_n dX0_letWait_38 1 rfl ?_
  refine j_iconst (v := nI 4) dX0_letWait_39 (by decide) ?_
  refine j_aload_n dX0_letWait_40 0 rfl ?_
  refine j_iload_n dX0_letWait_41 1 rfl ?_
  refine j_iconst (v := nI 4) dX0_letWait_42 (by decide) ?_
  refine j_V (w2 := EW D E (upd (upd (upd s (93 + 14 * p + 12) (nI 1)) 429 (nI p)) 428 (nI (0 + 1)))) (st2 := [.int (gC (upd (upd (upd s (93 + 14 * p + 12) (nI 1)) 429 (nI p)) 428 (nI (0 + 1))) c 4), .int (nI 4), .int (nI c), .ref (E 0)]) (c_X0_ofChannel E (upd (upd (upd s (93 + 14 * p + 12) (nI 1)) 429 (nI p)) 428 (nI (0 + 1))) c 4 (by omega) (by omega)) rfl cw_X0_73 dX0_letWait_43 [.int (nI 4), .int (nI c), .ref (E 0)] rfl [0, 1, 2, 3, 4] rfl rfl rfl 0 ?_ ⟨rfl, ⟨Nat.le_of_ble_eq_true rfl, Nat.le_of_ble_eq_true rfl⟩, ⟨rfl, rfl⟩, ⟨Nat.le_of_ble_eq_true rfl, Nat.le_of_ble_eq_true rfl⟩, Nat.le_of_ble_eq_true rfl, rfl, rfl⟩ rfl rfl rfl
  refine j_topi (v := nI (hd s c)) ((up_ne (by omega)).trans ((up_ne (by omega)).trans ((up_ne (by omega)).trans (hI.hd_ hc).1))) ?_
  refine j_S (w2 := EW D E (upd (upd (upd s (93 + 14 * p + 12) (nI 1)) 429 (nI p)) 428 (nI (0 + 1)))) (st2 := [.int (nI ((hd s c + 1) % 6)), .int (nI 4), .int (nI c), .ref (E 0)]) (c_X0_slotBehind (hd s c) (by omega)) rfl cw_X0_98 dX0_letWait_46 [.int (nI 4), .int (nI c), .ref (E 0)] rfl [] rfl rfl rfl ?_ ⟨rfl, ⟨Nat.le_of_ble_eq_true rfl, Nat.le_of_ble_eq_true rfl⟩, ⟨rfl, rfl⟩, ⟨Nat.le_of_ble_eq_true rfl, Nat.le_of_ble_eq_true rfl⟩, Nat.le_of_ble_eq_true rfl, rfl, rfl⟩
  refine j_V (w2 := EW D E (upd (upd (upd (upd s (93 + 14 * p + 12) (nI 1)) 429 (nI p)) 428 (nI (0 + 1))) (64 + 7 * c + 4) (nI ((hd s c + 1) % 6)))) (st2 := []) (c_X0_setChannel E (upd (upd (upd s (93 + 14 * p + 12) (nI 1)) 429 (nI p)) 428 (nI (0 + 1))) c 4 (nI ((hd s c + 1) % 6)) (by omega) (by omega)) rfl cw_X0_91 dX0_letWait_49 [] rfl [0, 1, 2, 3, 4] rfl rfl rfl 0 ?_ ⟨rfl, ⟨Nat.le_of_ble_eq_true rfl, Nat.le_of_ble_eq_true rfl⟩, ⟨rfl, rfl⟩, ⟨Nat.le_of_ble_eq_true rfl, Nat.le_of_ble_eq_true rfl⟩, Nat.le_of_ble_eq_true rfl, rfl, rfl⟩ rfl rfl rfl
  exact j_vret dX0_letWait_52 ⟨rfl, rfl⟩ ⟨rfl, rfl⟩

set_option maxHeartbeats 4000000 in
set_option maxRecDepth 100000 in
theorem c_X0_carry (E : Nat → Nat) (s : SS) (p first many : Nat) (hp : p < 24) (hL : gL s p 2 = nI (nn s p) ∧ 1 ≤ nn s p ∧ nn s p < 17) (hb : first + many ≤ 64) : Ct D yX0_carry cX0_carry 5 none ({ frames := 2, cells := 0, slots := 0, locals := 49 } : Room) [.ref (E 0), .int (nI p), .int (nI first), .int (nI many)] (EW D E s) (fun v_ u_ => v_ = none ∧ u_ = EW D E (caF p many first s)) := by
  refine ct_of (by decide) (Nat.le_of_ble_eq_true rfl) (lv0 := [(0, .ref (E 0)), (1, .int (nI p)), (2, .int (nI first)), (3, .int (nI many))]) rfl (fun Γ => ?_)
  refine j_iload_n dX0_carry_0 2 rfl ?_
  refine j_istore (lv2 := [(0, .ref (E 0)), (1, .int (nI p)), (2, .int (nI first)), (3, .int (nI many)), (4, .int (nI first))]) dX0_carry_1 (by decide) [1, 2, 3, 4, 0] rfl ?_
  have L3 : ∀ (fuel : Nat) (i : Nat) (t : SS), i ≤ many → caF p many first s = caF p (many - i) (first + i) t → (∀ j, 64 ≤ j → t j = s j) → many - i < fuel → J D Γ yX0_carry cX0_carry 5 none ({ frames := 2, cells := 0, slots := 0, locals := 49 } : Room) (Qf D Γ ({ frames := 2, cells := 0, slots := 0, locals := 49 } : Room) (fun v_ u_ => v_ = none ∧ u_ = EW D E (caF p many first s))) 0 0 (EW D E t) 3 [(0, .ref (E 0)), (1, .int (nI p)), (2, .int (nI first)), (3, .int (nI many)), (4, .int (nI (first + i)))] [] := by
    intro fuel
    induction fuel with
    | zero => intro i t hi he hfr hm; exact absurd hm (Nat.not_lt_zero _)
    | succ fuel ih =>
      intro i t hi he hfr hm
      have hn : gL t p 2 = nI (nn t p) := by unfold nn gL; rw [hfr _ (by omega)]; exact hL.1
      have h12 : 1 ≤ nn t p ∧ nn t p < 17 := by unfold nn gL; rw [hfr _ (by omega)]; exact hL.2
      obtain ⟨h1, h2⟩ := h12
      refine j_iload dX0_carry_3 4 rfl ?_
      refine j_iload_n dX0_carry_5 2 rfl ?_
      refine j_iload_n dX0_carry_6 3 rfl ?_
      refine j_iadd (v := nI (first + many)) dX0_carry_7 (nI_add _ _) ?_
      refine j_icmp_ge_N (tgt := 43) dX0_carry_8 (by decide) ⟨by omega, by omega⟩ (fun h8 => ?_) (fun h8 => ?_)
      · skip
        exact j_vret dX0_carry_43 ⟨rfl, rfl⟩ ⟨rfl, by have e : many - i = 0 := (by omega); rw [he, e]; rfl⟩
      · skip
        refine j_aload_n dX0_carry_11 0 rfl ?_
        refine g_X0_9 rfl dX0_carry_12 0 rfl rfl ?_
        refine j_aload_n dX0_carry_15 0 rfl ?_
        refine j_iload_n dX0_carry_16 1 rfl ?_
        refine j_iload dX0_carry_17 4 rfl ?_
        refine j_iconst (v := nI 1) dX0_carry_19 (by decide) ?_
        refine j_V (w2 := EW D E t) (st2 := [.int (nI (ad t p (first + i) 1)), .ref (E 1)]) (c_X0_addressOf E t p (first + i) 1 (by omega) hn (by omega) (by omega) (by omega) (by omega)) rfl cw_X0_53 dX0_carry_20 [.ref (E 1)] rfl [0, 1, 2, 3, 4] rfl rfl rfl 0 ?_ ⟨rfl, ⟨Nat.le_of_ble_eq_true rfl, Nat.le_of_ble_eq_true rfl⟩, ⟨rfl, rfl⟩, ⟨Nat.le_of_ble_eq_true rfl, Nat.le_of_ble_eq_true rfl⟩, Nat.le_of_ble_eq_true rfl, rfl, rfl⟩ rfl rfl rfl
        refine j_aload_n dX0_carry_23 0 rfl ?_
        refine g_X0_9 rfl dX0_carry_24 0 rfl rfl ?_
        refine j_aload_n dX0_carry_27 0 rfl ?_
        refine j_iload_n dX0_carry_28 1 rfl ?_
        refine j_iload dX0_carry_29 4 rfl ?_
        refine j_iconst (v := nI 0) dX0_carry_31 (by decide) ?_
        refine j_V (w2 := EW D E t) (st2 := [.int (nI (ad t p (first + i) 0)), .ref (E 1), .int (nI (ad t p (first + i) 1)), .ref (E 1)]) (c_X0_addressOf E t p (first + i) 0 (by omega) hn (by omega) (by omega) (by omega) (by omega)) rfl cw_X0_53 dX0_carry_32 [.ref (E 1), .int (nI (ad t p (first + i) 1)), .ref (E 1)] rfl [0, 1, 2, 3, 4] rfl rfl rfl 0 ?_ ⟨rfl, ⟨Nat.le_of_ble_eq_true rfl, Nat.le_of_ble_eq_true rfl⟩, ⟨rfl, rfl⟩, ⟨Nat.le_of_ble_eq_true rfl, Nat.le_of_ble_eq_true rfl⟩, Nat.le_of_ble_eq_true rfl, rfl, rfl⟩ rfl rfl rfl
        refine j_iald (v := t (ad t p (first + i) 0)) dX0_carry_35 1 (ad t p (first + i) 0) rfl (rfl) (ad_lt _ _ _ _) (Nat.le_of_ble_eq_true rfl) (vM_at (ad_lt _ _ _ _)) ?_
        refine j_iast (w2 := EW D E (upd t (ad t p (first + i) 1) (t (ad t p (first + i) 0)))) dX0_carry_36 1 (ad t p (first + i) 1) rfl (rfl) (ad_lt _ _ _ _) (Nat.le_of_ble_eq_true rfl) (EW_M (ad_lt _ _ _ _)) ?_
        refine j_iinc (v := nI (first + i + 1)) (lv2 := [(0, .ref (E 0)), (1, .int (nI p)), (2, .int (nI first)), (3, .int (nI many)), (4, .int (nI (first + i + 1)))]) dX0_carry_37 4 rfl (nI_1 _) (by decide) [1, 2, 3, 4, 0] rfl ?_
        refine j_goto (tgt := 3) dX0_carry_40 (by decide) ?_
        exact ih (i + 1) _ (by omega) (by rw [he, show many - i = (many - (i + 1)) + 1 by omega]; rfl) (fun j hj => (up_ne (by have := ad_lt t p (first + i) 1; omega)).trans (hfr j hj)) (by omega)
  exact L3 (many + 1) 0 s (by omega) rfl (fun _ _ => rfl) (by omega)

set_option maxHeartbeats 4000000 in
set_option maxRecDepth 100000 in
theorem c_X0_grant (E : Nat → Nat) (s : SS) (b : Bool) (hI : Inv s) (c : Nat) (hc : c < 4) (ht : tc s (pl s c) = true) (hq : s 428 = 0) : Ct D yX0_grant cX0_grant 6 none ({ frames := 3, cells := 0, slots := 0, locals := 73 } : Room) [.ref (E 0), .int (nI c), .int (bI b)] (EW D E s) (fun v_ u_ => v_ = none ∧ u_ = EW D E (grF b s c)) := by
  have hpl := hI.pl_ hc
  have hle := hI.le hpl (hI.tc_ hpl ht)
  have hbu := (hI.bu_ hc).2
  have hre := hle.2.2.2.2
  have hun := un_lt hle.2.1.2.2 hle.2.2.1.2.2
  have hmn : mny s c ≤ re s (pl s c) := Nat.min_le_right _ _
  have hL : gL (gr1 s c) (pl s c) 2 = nI (nn (gr1 s c) (pl s c)) ∧ 1 ≤ nn (gr1 s c) (pl s c) ∧ nn (gr1 s c) (pl s c) < 17 := by
    unfold nn gL; rw [gr1_ne ⟨by omega, by omega⟩]; exact hle.2.1
  refine ct_of (by decide) (Nat.le_of_ble_eq_true rfl) (lv0 := [(0, .ref (E 0)), (1, .int (nI c)), (2, .int (bI b))]) rfl (fun Γ => ?_)
  refine j_aload_n dX0_grant_0 0 rfl ?_
  refine j_iload_n dX0_grant_1 1 rfl ?_
  refine j_V (w2 := EW D E s) (st2 := [.int (oN (prs s c))]) (c_X0_presentOf E s hI c (by omega)) rfl cw_X0_76 dX0_grant_2 [] rfl [0, 1, 2, 3, 4] rfl rfl rfl 0 ?_ ⟨rfl, ⟨Nat.le_of_ble_eq_true rfl, Nat.le_of_ble_eq_true rfl⟩, ⟨rfl, rfl⟩, ⟨Nat.le_of_ble_eq_true rfl, Nat.le_of_ble_eq_true rfl⟩, Nat.le_of_ble_eq_true rfl, rfl, rfl⟩ rfl rfl rfl
  refine j_topi (v := nI (pl s c)) (by rw [prs_t ht]; rfl) ?_
  refine j_istore_n (lv2 := [(0, .ref (E 0)), (1, .int (nI c)), (2, .int (bI b)), (3, .int (nI (pl s c)))]) dX0_grant_5 (by decide) [1, 2, 3, 0] rfl ?_
  refine j_iload_n dX0_grant_6 3 rfl ?_
  refine j_bipush (v := (-9)) dX0_grant_7 (by decide) ?_
  refine j_icmp_ne (tgt := 13) dX0_grant_9 (by decide) (fun h9 => ?_) (fun h9 => absurd h9 (nI_m9 (by omega)))
  refine j_aload_n dX0_grant_13 0 rfl ?_
  refine j_iload_n dX0_grant_14 1 rfl ?_
  refine p_X0_28 (w2 := EW D E (upd s 453 (nI c))) rfl dX0_grant_15 0 rfl (Nat.le_of_ble_eq_true rfl) (EW_l) ?_
  refine j_aload_n dX0_grant_18 0 rfl ?_
  refine j_iload_n dX0_grant_19 1 rfl ?_
  refine j_bipush (v := nI 6) dX0_grant_20 (by decide) ?_
  refine j_V (w2 := EW D E (upd (upd s 453 (nI c)) (64 + 7 * c + 6) (gC (upd s 453 (nI c)) c 6 + 1))) (st2 := []) (c_X0_addOneTo E (upd s 453 (nI c)) c 6 (by omega) (by omega)) rfl cw_X0_113 dX0_grant_22 [] rfl [0, 1, 2, 3, 4] rfl rfl rfl 0 ?_ ⟨rfl, ⟨Nat.le_of_ble_eq_true rfl, Nat.le_of_ble_eq_true rfl⟩, ⟨rfl, rfl⟩, ⟨Nat.le_of_ble_eq_true rfl, Nat.le_of_ble_eq_true rfl⟩, Nat.le_of_ble_eq_true rfl, rfl, rfl⟩ rfl rfl rfl
  refine j_w (w2 := EW D E (gr1 s c)) (rfl) ?_
  refine j_aload_n dX0_grant_25 0 rfl ?_
  refine j_iload_n dX0_grant_26 3 rfl ?_
  refine j_bipush (v := nI 11) dX0_grant_27 (by decide) ?_
  refine j_V (w2 := EW D E (gr1 s c)) (st2 := [.int (gL (gr1 s c) (pl s c) 11)]) (c_X0_ofLetter E (gr1 s c) (pl s c) 11 (by omega) (by omega)) rfl cw_X0_40 dX0_grant_29 [] rfl [0, 1, 2, 3, 4] rfl rfl rfl 0 ?_ ⟨rfl, ⟨Nat.le_of_ble_eq_true rfl, Nat.le_of_ble_eq_true rfl⟩, ⟨rfl, rfl⟩, ⟨Nat.le_of_ble_eq_true rfl, Nat.le_of_ble_eq_true rfl⟩, Nat.le_of_ble_eq_true rfl, rfl, rfl⟩ rfl rfl rfl
  refine j_topi (v := nI (re s (pl s c))) ((gr1_ne ⟨by omega, by omega⟩).trans hle.2.2.2.1) ?_
  refine j_istore (lv2 := [(0, .ref (E 0)), (1, .int (nI c)), (2, .int (bI b)), (3, .int (nI (pl s c))), (4, .int (nI (re s (pl s c))))]) dX0_grant_32 (by decide) [1, 2, 3, 4, 0] rfl ?_
  refine j_aload_n dX0_grant_34 0 rfl ?_
  refine j_iload_n dX0_grant_35 1 rfl ?_
  refine j_iconst (v := nI 2) dX0_grant_36 (by decide) ?_
  refine j_V (w2 := EW D E (gr1 s c)) (st2 := [.int (gC (gr1 s c) c 2)]) (c_X0_ofChannel E (gr1 s c) c 2 (by omega) (by omega)) rfl cw_X0_73 dX0_grant_37 [] rfl [0, 1, 2, 3, 4] rfl rfl rfl 0 ?_ ⟨rfl, ⟨Nat.le_of_ble_eq_true rfl, Nat.le_of_ble_eq_true rfl⟩, ⟨rfl, rfl⟩, ⟨Nat.le_of_ble_eq_true rfl, Nat.le_of_ble_eq_true rfl⟩, Nat.le_of_ble_eq_true rfl, rfl, rfl⟩ rfl rfl rfl
  refine j_topi (v := nI (bu s c)) ((gr1_ne ⟨by omega, by omega⟩).trans (hI.bu_ hc).1) ?_
  refine j_iload dX0_grant_40 4 rfl ?_
  refine j_S (w2 := EW D E (gr1 s c)) (st2 := [.int (nI (min (bu s c) (re s (pl s c))))]) (c_J9_min_7cf53 (bu s c) (re s (pl s c)) (by omega) (by omega)) rfl cw_X0_120 dX0_grant_42 [] rfl [] rfl rfl rfl ?_ ⟨rfl, ⟨Nat.le_of_ble_eq_true rfl, Nat.le_of_ble_eq_true rfl⟩, ⟨rfl, rfl⟩, ⟨Nat.le_of_ble_eq_true rfl, Nat.le_of_ble_eq_true rfl⟩, Nat.le_of_ble_eq_true rfl, rfl, rfl⟩
  refine j_topi (v := nI (mny s c)) (rfl) ?_
  refine j_istore (lv2 := [(0, .ref (E 0)), (1, .int (nI c)), (2, .int (bI b)), (3, .int (nI (pl s c))), (4, .int (nI (re s (pl s c)))), (5, .int (nI (mny s c)))]) dX0_grant_45 (by decide) [1, 2, 3, 4, 5, 0] rfl ?_
  refine j_iload_n dX0_grant_47 2 rfl ?_
  refine j_if_eq_B (tgt := 66) dX0_grant_48 (by decide) (fun h48 => ?_) (fun h48 => ?_)
  · skip
    refine j_w (w2 := EW D E (gr2 b s c)) (by rw [gr2_f h48]) ?_
    refine j_aload_n dX0_grant_66 0 rfl ?_
    refine j_iload_n dX0_grant_67 3 rfl ?_
    refine j_bipush (v := nI 11) dX0_grant_68 (by decide) ?_
    refine j_iload dX0_grant_70 4 rfl ?_
    refine j_iload dX0_grant_72 5 rfl ?_
    refine j_isub (v := nI ((re s (pl s c)) - (mny s c))) dX0_grant_74 (pk_sub (by omega)) ?_
    refine j_V (w2 := EW D E (upd (gr2 b s c) (93 + 14 * (pl s c) + 11) (nI ((re s (pl s c)) - (mny s c))))) (st2 := []) (c_X0_setLetter E (gr2 b s c) (pl s c) 11 (nI ((re s (pl s c)) - (mny s c))) (by omega) (by omega)) rfl cw_X0_95 dX0_grant_75 [] rfl [0, 1, 2, 3, 4] rfl rfl rfl 0 ?_ ⟨rfl, ⟨Nat.le_of_ble_eq_true rfl, Nat.le_of_ble_eq_true rfl⟩, ⟨rfl, rfl⟩, ⟨Nat.le_of_ble_eq_true rfl, Nat.le_of_ble_eq_true rfl⟩, Nat.le_of_ble_eq_true rfl, rfl, rfl⟩ rfl rfl rfl
    refine j_w (w2 := EW D E (gr3 b s c)) (rfl) ?_
    refine j_iload dX0_grant_78 4 rfl ?_
    refine j_iload dX0_grant_80 5 rfl ?_
    refine j_icmp_ne_N (tgt := 91) dX0_grant_82 (by decide) ⟨by omega, by omega⟩ (fun h82 => ?_) (fun h82 => ?_)
    · skip
      exact j_vret dX0_grant_91 ⟨rfl, rfl⟩ ⟨rfl, by rw [grF_n h82]⟩
    · skip
      refine j_aload_n dX0_grant_85 0 rfl ?_
      refine j_iload_n dX0_grant_86 1 rfl ?_
      refine j_iload_n dX0_grant_87 3 rfl ?_
      refine j_V (w2 := EW D E (wtF (gr3 b s c) c (pl s c))) (st2 := []) (c_X0_letWait E (gr3 b s c) (Inv_gr3 hI hc ht) c (pl s c) (by omega) (by omega) ((gr3_ne ⟨by omega, by omega, by omega⟩ (by omega)).trans hq)) rfl cw_X0_126 dX0_grant_88 [] rfl [0, 1, 2, 3, 4] rfl rfl rfl 0 ?_ ⟨rfl, ⟨Nat.le_of_ble_eq_true rfl, Nat.le_of_ble_eq_true rfl⟩, ⟨rfl, rfl⟩, ⟨Nat.le_of_ble_eq_true rfl, Nat.le_of_ble_eq_true rfl⟩, Nat.le_of_ble_eq_true rfl, rfl, rfl⟩ rfl rfl rfl
      exact j_vret dX0_grant_91 ⟨rfl, rfl⟩ ⟨rfl, by rw [grF_y h82]⟩
  · skip
    refine j_aload_n dX0_grant_51 0 rfl ?_
    refine j_iload_n dX0_grant_52 3 rfl ?_
    refine j_aload_n dX0_grant_53 0 rfl ?_
    refine j_iload_n dX0_grant_54 3 rfl ?_
    refine j_V (w2 := EW D E (gr1 s c)) (st2 := [.int (gL (gr1 s c) (pl s c) 2 * gL (gr1 s c) (pl s c) 5), .int (nI (pl s c)), .ref (E 0)]) (c_X0_unitsOf E (gr1 s c) (pl s c) (by omega)) rfl cw_X0_49 dX0_grant_55 [.int (nI (pl s c)), .ref (E 0)] rfl [0, 1, 2, 3, 4] rfl rfl rfl 0 ?_ ⟨rfl, ⟨Nat.le_of_ble_eq_true rfl, Nat.le_of_ble_eq_true rfl⟩, ⟨rfl, rfl⟩, ⟨Nat.le_of_ble_eq_true rfl, Nat.le_of_ble_eq_true rfl⟩, Nat.le_of_ble_eq_true rfl, rfl, rfl⟩ rfl rfl rfl
    refine j_topi (v := nI (un s (pl s c))) (by unfold gL; rw [gr1_ne (k := 93 + 14 * pl s c + 2) ⟨by omega, by omega⟩, gr1_ne (k := 93 + 14 * pl s c + 5) ⟨by omega, by omega⟩]; show gL s (pl s c) 2 * gL s (pl s c) 5 = _; rw [hle.2.1.1, hle.2.2.1.1, pk_mul]; rfl) ?_
    refine j_iload dX0_grant_58 4 rfl ?_
    refine j_isub (v := nI ((un s (pl s c)) - (re s (pl s c)))) dX0_grant_60 (pk_sub (by omega)) ?_
    refine j_iload dX0_grant_61 5 rfl ?_
    refine j_V (w2 := EW D E (caF (pl s c) (mny s c) ((un s (pl s c)) - (re s (pl s c))) (gr1 s c))) (st2 := []) (c_X0_carry E (gr1 s c) (pl s c) ((un s (pl s c)) - (re s (pl s c))) (mny s c) (by omega) hL (by omega)) rfl cw_X0_123 dX0_grant_63 [] rfl [0, 1, 2, 3, 4] rfl rfl rfl 0 ?_ ⟨rfl, ⟨Nat.le_of_ble_eq_true rfl, Nat.le_of_ble_eq_true rfl⟩, ⟨rfl, rfl⟩, ⟨Nat.le_of_ble_eq_true rfl, Nat.le_of_ble_eq_true rfl⟩, Nat.le_of_ble_eq_true rfl, rfl, rfl⟩ rfl rfl rfl
    refine j_w (w2 := EW D E (gr2 b s c)) (by rw [gr2_t h48]) ?_
    refine j_aload_n dX0_grant_66 0 rfl ?_
    refine j_iload_n dX0_grant_67 3 rfl ?_
    refine j_bipush (v := nI 11) dX0_grant_68 (by decide) ?_
    refine j_iload dX0_grant_70 4 rfl ?_
    refine j_iload dX0_grant_72 5 rfl ?_
    refine j_isub (v := nI ((re s (pl s c)) - (mny s c))) dX0_grant_74 (pk_sub (by omega)) ?_
    refine j_V (w2 := EW D E (upd (gr2 b s c) (93 + 14 * (pl s c) + 11) (nI ((re s (pl s c)) - (mny s c))))) (st2 := []) (c_X0_setLetter E (gr2 b s c) (pl s c) 11 (nI ((re s (pl s c)) - (mny s c))) (by omega) (by omega)) rfl cw_X0_95 dX0_grant_75 [] rfl [0, 1, 2, 3, 4] rfl rfl rfl 0 ?_ ⟨rfl, ⟨Nat.le_of_ble_eq_true rfl, Nat.le_of_ble_eq_true rfl⟩, ⟨rfl, rfl⟩, ⟨Nat.le_of_ble_eq_true rfl, Nat.le_of_ble_eq_true rfl⟩, Nat.le_of_ble_eq_true rfl, rfl, rfl⟩ rfl rfl rfl
    refine j_w (w2 := EW D E (gr3 b s c)) (rfl) ?_
    refine j_iload dX0_grant_78 4 rfl ?_
    refine j_iload dX0_grant_80 5 rfl ?_
    refine j_icmp_ne_N (tgt := 91) dX0_grant_82 (by decide) ⟨by omega, by omega⟩ (fun h82 => ?_) (fun h82 => ?_)
    · skip
      exact j_vret dX0_grant_91 ⟨rfl, rfl⟩ ⟨rfl, by rw [grF_n h82]⟩
    · skip
      refine j_aload_n dX0_grant_85 0 rfl ?_
      refine j_iload_n dX0_grant_86 1 rfl ?_
      refine j_iload_n dX0_grant_87 3 rfl ?_
      refine j_V (w2 := EW D E (wtF (gr3 b s c) c (pl s c))) (st2 := []) (c_X0_letWait E (gr3 b s c) (Inv_gr3 hI hc ht) c (pl s c) (by omega) (by omega) ((gr3_ne ⟨by omega, by omega, by omega⟩ (by omega)).trans hq)) rfl cw_X0_126 dX0_grant_88 [] rfl [0, 1, 2, 3, 4] rfl rfl rfl 0 ?_ ⟨rfl, ⟨Nat.le_of_ble_eq_true rfl, Nat.le_of_ble_eq_true rfl⟩, ⟨rfl, rfl⟩, ⟨Nat.le_of_ble_eq_true rfl, Nat.le_of_ble_eq_true rfl⟩, Nat.le_of_ble_eq_true rfl, rfl, rfl⟩ rfl rfl rfl
      exact j_vret dX0_grant_91 ⟨rfl, rfl⟩ ⟨rfl, by rw [grF_y h82]⟩

set_option maxHeartbeats 4000000 in
set_option maxRecDepth 100000 in
theorem c_X0_tick (E : Nat → Nat) (s : SS) (b : Bool) (hI : Inv s) : Ct D yX0_tick cX0_tick 3 (some .int) ({ frames := 4, cells := 0, slots := 0, locals := 98 } : Room) [.ref (E 0), .int (bI b)] (EW D E s) (fun v_ u_ => v_ = some (.int (oN (tkW s))) ∧ u_ = EW D E (tkF b s)) := by
  refine ct_of (by decide) (Nat.le_of_ble_eq_true rfl) (lv0 := [(0, .ref (E 0)), (1, .int (bI b))]) rfl (fun Γ => ?_)
  refine j_aload_n dX0_tick_0 0 rfl ?_
  refine j_dup dX0_tick_1 rfl ?_
  refine g_X0_31 rfl dX0_tick_2 0 rfl rfl ?_
  refine j_iconst (v := nI 1) dX0_tick_5 (by decide) ?_
  refine j_iadd (v := (s 454) + (nI 1)) dX0_tick_6 (rfl) ?_
  refine p_X0_31 (w2 := EW D E (tk0 s)) rfl dX0_tick_7 0 rfl (Nat.le_of_ble_eq_true rfl) (EW_t) ?_
  refine j_aload_n dX0_tick_10 0 rfl ?_
  refine g_X0_24 rfl dX0_tick_11 0 rfl rfl ?_
  refine j_if_le (tgt := 22) dX0_tick_14 (by decide) (fun h14 => ?_) (fun h14 => ?_)
  · skip
    refine j_w (w2 := EW D E (tk s)) (by rw [tk_n (q_le (Inv_tk0 hI) h14)]) ?_
    refine j_aload_n dX0_tick_22 0 rfl ?_
    refine j_V (w2 := EW D E (tk s)) (st2 := [.int (oN (who (tk s)))]) (c_X0_nextToGrant E (tk s) (Inv_tk hI)) rfl cw_X0_105 dX0_tick_23 [] rfl [0, 1, 2, 3, 4] rfl rfl rfl 0 ?_ ⟨rfl, ⟨Nat.le_of_ble_eq_true rfl, Nat.le_of_ble_eq_true rfl⟩, ⟨rfl, rfl⟩, ⟨Nat.le_of_ble_eq_true rfl, Nat.le_of_ble_eq_true rfl⟩, Nat.le_of_ble_eq_true rfl, rfl, rfl⟩ rfl rfl rfl
    refine j_topi (v := oN (tkW s)) (rfl) ?_
    refine j_istore_n (lv2 := [(0, .ref (E 0)), (1, .int (bI b)), (2, .int (oN (tkW s)))]) dX0_tick_26 (by decide) [1, 2, 0] rfl ?_
    rcases hw : tkW s with _ | c
    · skip
      refine j_iload_n dX0_tick_27 2 rfl ?_
      refine j_bipush (v := (-9)) dX0_tick_28 (by decide) ?_
      refine j_icmp_eq (tgt := 39) dX0_tick_30 (by decide) (fun h30 => ?_) (fun h30 => absurd rfl h30)
      refine j_iload_n dX0_tick_39 2 rfl ?_
      exact j_iret dX0_tick_40 ⟨rfl, rfl⟩ ⟨rfl, by rw [tkF_n hw]⟩
    · skip
      have hc4 := who_lt hw
      refine j_iload_n dX0_tick_27 2 rfl ?_
      refine j_bipush (v := (-9)) dX0_tick_28 (by decide) ?_
      refine j_icmp_eq (tgt := 39) dX0_tick_30 (by decide) (fun h30 => absurd h30 (nI_m9 (by omega))) (fun h30 => ?_)
      refine j_aload_n dX0_tick_33 0 rfl ?_
      refine j_iload_n dX0_tick_34 2 rfl ?_
      refine j_iload_n dX0_tick_35 1 rfl ?_
      refine j_V (w2 := EW D E (grF b (tk s) c)) (st2 := []) (c_X0_grant E (tk s) b (Inv_tk hI) c (who_lt hw) (who_tc hw) tk_q) rfl cw_X0_109 dX0_tick_36 [] rfl [0, 1, 2, 3, 4] rfl rfl rfl 0 ?_ ⟨rfl, ⟨Nat.le_of_ble_eq_true rfl, Nat.le_of_ble_eq_true rfl⟩, ⟨rfl, rfl⟩, ⟨Nat.le_of_ble_eq_true rfl, Nat.le_of_ble_eq_true rfl⟩, Nat.le_of_ble_eq_true rfl, rfl, rfl⟩ rfl rfl rfl
      refine j_iload_n dX0_tick_39 2 rfl ?_
      exact j_iret dX0_tick_40 ⟨rfl, rfl⟩ ⟨rfl, by rw [tkF_s hw]⟩
  · skip
    refine j_aload_n dX0_tick_17 0 rfl ?_
    refine j_iconst (v := nI 0) dX0_tick_18 (by decide) ?_
    have hqu := (Inv_tk0 hI).qu_ (q_gt h14)
    refine j_V (w2 := EW D E (wbF (tk0 s) (qu (tk0 s)))) (st2 := []) (c_X0_writeBack E (tk0 s) (qu (tk0 s)) hqu.2.2 hqu.1 hqu.2.1) rfl cw_X0_101 dX0_tick_19 [] rfl [0, 1, 2, 3, 4] rfl rfl rfl 0 ?_ ⟨rfl, ⟨Nat.le_of_ble_eq_true rfl, Nat.le_of_ble_eq_true rfl⟩, ⟨rfl, rfl⟩, ⟨Nat.le_of_ble_eq_true rfl, Nat.le_of_ble_eq_true rfl⟩, Nat.le_of_ble_eq_true rfl, rfl, rfl⟩ rfl rfl rfl
    refine j_w (w2 := EW D E (tk s)) (by rw [tk_y (q_gt h14)]) ?_
    refine j_aload_n dX0_tick_22 0 rfl ?_
    refine j_V (w2 := EW D E (tk s)) (st2 := [.int (oN (who (tk s)))]) (c_X0_nextToGrant E (tk s) (Inv_tk hI)) rfl cw_X0_105 dX0_tick_23 [] rfl [0, 1, 2, 3, 4] rfl rfl rfl 0 ?_ ⟨rfl, ⟨Nat.le_of_ble_eq_true rfl, Nat.le_of_ble_eq_true rfl⟩, ⟨rfl, rfl⟩, ⟨Nat.le_of_ble_eq_true rfl, Nat.le_of_ble_eq_true rfl⟩, Nat.le_of_ble_eq_true rfl, rfl, rfl⟩ rfl rfl rfl
    refine j_topi (v := oN (tkW s)) (rfl) ?_
    refine j_istore_n (lv2 := [(0, .ref (E 0)), (1, .int (bI b)), (2, .int (oN (tkW s)))]) dX0_tick_26 (by decide) [1, 2, 0] rfl ?_
    rcases hw : tkW s with _ | c
    · skip
      refine j_iload_n dX0_tick_27 2 rfl ?_
      refine j_bipush (v := (-9)) dX0_tick_28 (by decide) ?_
      refine j_icmp_eq (tgt := 39) dX0_tick_30 (by decide) (fun h30 => ?_) (fun h30 => absurd rfl h30)
      refine j_iload_n dX0_tick_39 2 rfl ?_
      exact j_iret dX0_tick_40 ⟨rfl, rfl⟩ ⟨rfl, by rw [tkF_n hw]⟩
    · skip
      have hc4 := who_lt hw
      refine j_iload_n dX0_tick_27 2 rfl ?_
      refine j_bipush (v := (-9)) dX0_tick_28 (by decide) ?_
      refine j_icmp_eq (tgt := 39) dX0_tick_30 (by decide) (fun h30 => absurd h30 (nI_m9 (by omega))) (fun h30 => ?_)
      refine j_aload_n dX0_tick_33 0 rfl ?_
      refine j_iload_n dX0_tick_34 2 rfl ?_
      refine j_iload_n dX0_tick_35 1 rfl ?_
      refine j_V (w2 := EW D E (grF b (tk s) c)) (st2 := []) (c_X0_grant E (tk s) b (Inv_tk hI) c (who_lt hw) (who_tc hw) tk_q) rfl cw_X0_109 dX0_tick_36 [] rfl [0, 1, 2, 3, 4] rfl rfl rfl 0 ?_ ⟨rfl, ⟨Nat.le_of_ble_eq_true rfl, Nat.le_of_ble_eq_true rfl⟩, ⟨rfl, rfl⟩, ⟨Nat.le_of_ble_eq_true rfl, Nat.le_of_ble_eq_true rfl⟩, Nat.le_of_ble_eq_true rfl, rfl, rfl⟩ rfl rfl rfl
      refine j_iload_n dX0_tick_39 2 rfl ?_
      exact j_iret dX0_tick_40 ⟨rfl, rfl⟩ ⟨rfl, by rw [tkF_s hw]⟩

set_option maxHeartbeats 4000000 in
set_option maxRecDepth 100000 in
theorem c_X0_writeBackAllOf (E : Nat → Nat) (s : SS) (hI : Inv s) (c : Nat) (hc : c < 4) : Ct D yX0_writeBackAllOf cX0_writeBackAllOf 4 none ({ frames := 2, cells := 0, slots := 0, locals := 46 } : Room) [.ref (E 0), .int (nI c)] (EW D E s) (fun v_ u_ => v_ = none ∧ u_ = EW D E (waF s c)) := by
  refine ct_of (by decide) (Nat.le_of_ble_eq_true rfl) (lv0 := [(0, .ref (E 0)), (1, .int (nI c))]) rfl (fun Γ => ?_)
  by_cases hq : s 428 = 0
  · skip
    refine j_iconst (v := nI 0) dX0_writeBackAllOf_0 (by decide) ?_
    refine j_istore_n (lv2 := [(0, .ref (E 0)), (1, .int (nI c)), (2, .int (nI 0))]) dX0_writeBackAllOf_1 (by decide) [1, 2, 0] rfl ?_
    refine j_aload_n dX0_writeBackAllOf_2 0 rfl ?_
    refine g_X0_24 rfl dX0_writeBackAllOf_3 0 rfl rfl ?_
    refine j_topi (v := nI 0) (hq) ?_
    refine j_istore_n (lv2 := [(0, .ref (E 0)), (1, .int (nI c)), (2, .int (nI 0)), (3, .int (nI 0))]) dX0_writeBackAllOf_6 (by decide) [1, 2, 3, 0] rfl ?_
    refine j_iload_n dX0_writeBackAllOf_7 3 rfl ?_
    refine j_if_le_N (tgt := 41) dX0_writeBackAllOf_8 (by decide) (by omega) (fun h8 => ?_) (fun h8 => absurd (Nat.le_refl 0) h8)
    exact j_vret dX0_writeBackAllOf_41 ⟨rfl, rfl⟩ ⟨rfl, by rw [waF_0 hq]⟩
  · skip
    have hqu := hI.qu_ hq
    have hq3 := hqu.2.2
    refine j_iconst (v := nI 0) dX0_writeBackAllOf_0 (by decide) ?_
    refine j_istore_n (lv2 := [(0, .ref (E 0)), (1, .int (nI c)), (2, .int (nI 0))]) dX0_writeBackAllOf_1 (by decide) [1, 2, 0] rfl ?_
    refine j_aload_n dX0_writeBackAllOf_2 0 rfl ?_
    refine g_X0_24 rfl dX0_writeBackAllOf_3 0 rfl rfl ?_
    refine j_topi (v := nI 1) (hqu.1) ?_
    refine j_istore_n (lv2 := [(0, .ref (E 0)), (1, .int (nI c)), (2, .int (nI 0)), (3, .int (nI 1))]) dX0_writeBackAllOf_6 (by decide) [1, 2, 3, 0] rfl ?_
    refine j_iload_n dX0_writeBackAllOf_7 3 rfl ?_
    refine j_if_le_N (tgt := 41) dX0_writeBackAllOf_8 (by decide) (by omega) (fun h8 => absurd h8 (by omega)) (fun h8 => ?_)
    refine j_aload_n dX0_writeBackAllOf_11 0 rfl ?_
    refine g_X0_21 rfl dX0_writeBackAllOf_12 0 rfl rfl ?_
    refine j_iload_n dX0_writeBackAllOf_15 2 rfl ?_
    refine j_iald (v := nI (qu s)) dX0_writeBackAllOf_16 4 0 rfl (rfl) (by omega) (Nat.le_of_ble_eq_true rfl) (Eq.trans (vQ_at (by decide)) hqu.2.1) ?_
    refine j_bipush (v := nI 6) dX0_writeBackAllOf_17 (by decide) ?_
    refine j_idiv (v := nI ((qu s) / 6)) dX0_writeBackAllOf_19 (by decide) (pk_div (by omega) (by omega) (by omega)) ?_
    refine j_iload_n dX0_writeBackAllOf_20 1 rfl ?_
    refine j_icmp_ne_N (tgt := 32) dX0_writeBackAllOf_21 (by decide) ⟨by omega, by omega⟩ (fun h21 => ?_) (fun h21 => ?_)
    · skip
      refine j_iinc (v := nI (0 + 1)) (lv2 := [(0, .ref (E 0)), (1, .int (nI c)), (2, .int (nI (0 + 1))), (3, .int (nI 1))]) dX0_writeBackAllOf_32 2 rfl (nI_1 _) (by decide) [1, 2, 0, 3] rfl ?_
      refine j_iinc (v := nI 0) (lv2 := [(0, .ref (E 0)), (1, .int (nI c)), (2, .int (nI (0 + 1))), (3, .int (nI 0))]) dX0_writeBackAllOf_35 3 rfl (by decide) (by decide) [1, 2, 3, 0] rfl ?_
      refine j_goto (tgt := 7) dX0_writeBackAllOf_38 (by decide) ?_
      refine j_iload_n dX0_writeBackAllOf_7 3 rfl ?_
      refine j_if_le_N (tgt := 41) dX0_writeBackAllOf_8 (by decide) (by omega) (fun h8 => ?_) (fun h8 => absurd (Nat.le_refl 0) h8)
      exact j_vret dX0_writeBackAllOf_41 ⟨rfl, rfl⟩ ⟨rfl, by rw [waF_n hq h21]⟩
    · skip
      refine j_aload_n dX0_writeBackAllOf_24 0 rfl ?_
      refine j_iload_n dX0_writeBackAllOf_25 2 rfl ?_
      refine j_V (w2 := EW D E (wbF s (qu s))) (st2 := []) (c_X0_writeBack E s (qu s) hqu.2.2 hqu.1 hqu.2.1) rfl cw_X0_101 dX0_writeBackAllOf_26 [] rfl [0, 1, 2, 3, 4] rfl rfl rfl 0 ?_ ⟨rfl, ⟨Nat.le_of_ble_eq_true rfl, Nat.le_of_ble_eq_true rfl⟩, ⟨rfl, rfl⟩, ⟨Nat.le_of_ble_eq_true rfl, Nat.le_of_ble_eq_true rfl⟩, Nat.le_of_ble_eq_true rfl, rfl, rfl⟩ rfl rfl rfl
      refine j_goto (tgt := 35) dX0_writeBackAllOf_29 (by decide) ?_
      refine j_iinc (v := nI 0) (lv2 := [(0, .ref (E 0)), (1, .int (nI c)), (2, .int (nI 0)), (3, .int (nI 0))]) dX0_writeBackAllOf_35 3 rfl (by decide) (by decide) [1, 2, 3, 0] rfl ?_
      refine j_goto (tgt := 7) dX0_writeBackAllOf_38 (by decide) ?_
      refine j_iload_n dX0_writeBackAllOf_7 3 rfl ?_
      refine j_if_le_N (tgt := 41) dX0_writeBackAllOf_8 (by decide) (by omega) (fun h8 => ?_) (fun h8 => absurd (Nat.le_refl 0) h8)
      exact j_vret dX0_writeBackAllOf_41 ⟨rfl, rfl⟩ ⟨rfl, by rw [waF_y hq h21]⟩

set_option maxHeartbeats 4000000 in
set_option maxRecDepth 100000 in
theorem c_X0_cancel (E : Nat → Nat) (s : SS) (hI : Inv s) (c : Nat) (hc : c < 4) : Ct D yX0_cancel cX0_cancel 7 (some .int) ({ frames := 3, cells := 0, slots := 0, locals := 69 } : Room) [.ref (E 0), .int (nI c)] (EW D E s) (fun v_ u_ => v_ = some (.int (cnA s c)) ∧ u_ = EW D E (cnF s c)) := by
  refine ct_of (by decide) (Nat.le_of_ble_eq_true rfl) (lv0 := [(0, .ref (E 0)), (1, .int (nI c))]) rfl (fun Γ => ?_)
  refine j_aload_n dX0_cancel_0 0 rfl ?_
  refine j_iload_n dX0_cancel_1 1 rfl ?_
  refine j_V (w2 := EW D E (waF s c)) (st2 := []) (c_X0_writeBackAllOf E s hI c (by omega)) rfl cw_X0_129 dX0_cancel_2 [] rfl [0, 1, 2, 3, 4] rfl rfl rfl 0 ?_ ⟨rfl, ⟨Nat.le_of_ble_eq_true rfl, Nat.le_of_ble_eq_true rfl⟩, ⟨rfl, rfl⟩, ⟨Nat.le_of_ble_eq_true rfl, Nat.le_of_ble_eq_true rfl⟩, Nat.le_of_ble_eq_true rfl, rfl, rfl⟩ rfl rfl rfl
  refine j_aload_n dX0_cancel_5 0 rfl ?_
  refine j_iload_n dX0_cancel_6 1 rfl ?_
  refine j_iconst (v := nI 4) dX0_cancel_7 (by decide) ?_
  refine j_V (w2 := EW D E (waF s c)) (st2 := [.int (gC (waF s c) c 4)]) (c_X0_ofChannel E (waF s c) c 4 (by omega) (by omega)) rfl cw_X0_73 dX0_cancel_8 [] rfl [0, 1, 2, 3, 4] rfl rfl rfl 0 ?_ ⟨rfl, ⟨Nat.le_of_ble_eq_true rfl, Nat.le_of_ble_eq_true rfl⟩, ⟨rfl, rfl⟩, ⟨Nat.le_of_ble_eq_true rfl, Nat.le_of_ble_eq_true rfl⟩, Nat.le_of_ble_eq_true rfl, rfl, rfl⟩ rfl rfl rfl
  refine j_topi (v := nI (hd (waF s c) c)) (((Inv_wa hI).hd_ hc).1) ?_
  refine j_istore_n (lv2 := [(0, .ref (E 0)), (1, .int (nI c)), (2, .int (nI (hd (waF s c) c)))]) dX0_cancel_11 (by decide) [1, 2, 0] rfl ?_
  refine j_iconst (v := nI 0) dX0_cancel_12 (by decide) ?_
  refine j_istore_n (lv2 := [(0, .ref (E 0)), (1, .int (nI c)), (2, .int (nI (hd (waF s c) c))), (3, .int (nI 0))]) dX0_cancel_13 (by decide) [1, 2, 3, 0] rfl ?_
  refine j_iconst (v := nI 1) dX0_cancel_14 (by decide) ?_
  refine j_topi (v := bI true) rfl ?_
  refine j_istore (lv2 := [(0, .ref (E 0)), (1, .int (nI c)), (2, .int (nI (hd (waF s c) c))), (3, .int (nI 0)), (4, .int (bI true))]) dX0_cancel_15 (by decide) [1, 2, 3, 4, 0] rfl ?_
  refine j_iconst (v := nI 0) dX0_cancel_17 (by decide) ?_
  refine j_istore (lv2 := [(0, .ref (E 0)), (1, .int (nI c)), (2, .int (nI (hd (waF s c) c))), (3, .int (nI 0)), (4, .int (bI true)), (5, .int (nI 0))]) dX0_cancel_18 (by decide) [1, 2, 3, 4, 5, 0] rfl ?_
  have L20 : ∀ (fuel : Nat) (i : Nat) (t : SS) (h : Nat) (a : Int32) (g : Bool), i ≤ 6 → h < 6 → cnS s c = (if g = true then caN (6 - i) t c h a else (t, h, a)) → 6 - i < fuel → J D Γ yX0_cancel cX0_cancel 7 (some .int) ({ frames := 3, cells := 0, slots := 0, locals := 69 } : Room) (Qf D Γ ({ frames := 3, cells := 0, slots := 0, locals := 69 } : Room) (fun v_ u_ => v_ = some (.int (cnA s c)) ∧ u_ = EW D E (cnF s c))) 0 0 (EW D E t) 20 [(0, .ref (E 0)), (1, .int (nI c)), (2, .int (nI h)), (3, .int a), (4, .int (bI g)), (5, .int (nI i))] [] := by
    intro fuel
    induction fuel with
    | zero => intro i t h a g hi hh he hm; exact absurd hm (Nat.not_lt_zero _)
    | succ fuel ih =>
      intro i t h a g hi hh he hm
      refine j_iload dX0_cancel_20 5 rfl ?_
      refine j_bipush (v := nI 6) dX0_cancel_22 (by decide) ?_
      refine j_icmp_ge_N (tgt := 110) dX0_cancel_24 (by decide) ⟨by omega, by omega⟩ (fun h24 => ?_) (fun h24 => ?_)
      · skip
        refine j_aload_n dX0_cancel_110 0 rfl ?_
        refine j_iload_n dX0_cancel_111 1 rfl ?_
        refine j_iconst (v := nI 4) dX0_cancel_112 (by decide) ?_
        refine j_iload_n dX0_cancel_113 2 rfl ?_
        refine j_V (w2 := EW D E (upd t (64 + 7 * c + 4) (nI h))) (st2 := []) (c_X0_setChannel E t c 4 (nI h) (by omega) (by omega)) rfl cw_X0_91 dX0_cancel_114 [] rfl [0, 1, 2, 3, 4] rfl rfl rfl 0 ?_ ⟨rfl, ⟨Nat.le_of_ble_eq_true rfl, Nat.le_of_ble_eq_true rfl⟩, ⟨rfl, rfl⟩, ⟨Nat.le_of_ble_eq_true rfl, Nat.le_of_ble_eq_true rfl⟩, Nat.le_of_ble_eq_true rfl, rfl, rfl⟩ rfl rfl rfl
        refine j_iload_n dX0_cancel_117 3 rfl ?_
        exact j_iret dX0_cancel_118 ⟨rfl, rfl⟩ ⟨by rw [show cnA s c = a from by unfold cnA; rw [he]; cases g <;> simp [show 6 - i = 0 by omega, caN]], by rw [show cnF s c = upd t (64 + 7 * c + 4) (nI h) from by unfold cnF; rw [he]; cases g <;> simp [show 6 - i = 0 by omega, caN]]⟩
      · skip
        refine j_iload dX0_cancel_27 4 rfl ?_
        refine j_if_eq_B (tgt := 110) dX0_cancel_29 (by decide) (fun h29 => ?_) (fun h29 => ?_)
        · skip
          refine j_aload_n dX0_cancel_110 0 rfl ?_
          refine j_iload_n dX0_cancel_111 1 rfl ?_
          refine j_iconst (v := nI 4) dX0_cancel_112 (by decide) ?_
          refine j_iload_n dX0_cancel_113 2 rfl ?_
          refine j_V (w2 := EW D E (upd t (64 + 7 * c + 4) (nI h))) (st2 := []) (c_X0_setChannel E t c 4 (nI h) (by omega) (by omega)) rfl cw_X0_91 dX0_cancel_114 [] rfl [0, 1, 2, 3, 4] rfl rfl rfl 0 ?_ ⟨rfl, ⟨Nat.le_of_ble_eq_true rfl, Nat.le_of_ble_eq_true rfl⟩, ⟨rfl, rfl⟩, ⟨Nat.le_of_ble_eq_true rfl, Nat.le_of_ble_eq_true rfl⟩, Nat.le_of_ble_eq_true rfl, rfl, rfl⟩ rfl rfl rfl
          refine j_iload_n dX0_cancel_117 3 rfl ?_
          exact j_iret dX0_cancel_118 ⟨rfl, rfl⟩ ⟨by rw [show cnA s c = a from by unfold cnA; rw [he, h29]; rfl], by rw [show cnF s c = upd t (64 + 7 * c + 4) (nI h) from by unfold cnF; rw [he, h29]; rfl]⟩
        · skip
          refine j_iload_n dX0_cancel_32 1 rfl ?_
          refine j_iload_n dX0_cancel_33 2 rfl ?_
          refine j_S (w2 := EW D E t) (st2 := [.int (nI (c * 6 + h))]) (c_X0_placeOf c h) rfl cw_X0_64 dX0_cancel_34 [] rfl [] rfl rfl rfl ?_ ⟨rfl, ⟨Nat.le_of_ble_eq_true rfl, Nat.le_of_ble_eq_true rfl⟩, ⟨rfl, rfl⟩, ⟨Nat.le_of_ble_eq_true rfl, Nat.le_of_ble_eq_true rfl⟩, Nat.le_of_ble_eq_true rfl, rfl, rfl⟩
          refine j_istore (lv2 := [(0, .ref (E 0)), (1, .int (nI c)), (2, .int (nI h)), (3, .int a), (4, .int (bI g)), (5, .int (nI i)), (6, .int (nI (c * 6 + h)))]) dX0_cancel_37 (by decide) [1, 2, 3, 4, 5, 6, 0] rfl ?_
          refine j_iload_n dX0_cancel_39 3 rfl ?_
          refine j_aload_n dX0_cancel_40 0 rfl ?_
          refine j_iload dX0_cancel_41 6 rfl ?_
          refine j_bipush (v := nI 11) dX0_cancel_43 (by decide) ?_
          refine j_V (w2 := EW D E t) (st2 := [.int (gL t (c * 6 + h) 11), .int a]) (c_X0_ofLetter E t (c * 6 + h) 11 (by omega) (by omega)) rfl cw_X0_40 dX0_cancel_45 [.int a] rfl [0, 1, 2, 3, 4] rfl rfl rfl 0 ?_ ⟨rfl, ⟨Nat.le_of_ble_eq_true rfl, Nat.le_of_ble_eq_true rfl⟩, ⟨rfl, rfl⟩, ⟨Nat.le_of_ble_eq_true rfl, Nat.le_of_ble_eq_true rfl⟩, Nat.le_of_ble_eq_true rfl, rfl, rfl⟩ rfl rfl rfl
          refine j_iadd (v := a + (gL t (c * 6 + h) 11)) dX0_cancel_48 (rfl) ?_
          refine j_istore_n (lv2 := [(0, .ref (E 0)), (1, .int (nI c)), (2, .int (nI h)), (3, .int (a + (gL t (c * 6 + h) 11))), (4, .int (bI g)), (5, .int (nI i)), (6, .int (nI (c * 6 + h)))]) dX0_cancel_49 (by decide) [1, 2, 3, 0, 4, 5, 6] rfl ?_
          refine j_aload_n dX0_cancel_50 0 rfl ?_
          refine j_iload dX0_cancel_51 6 rfl ?_
          refine j_bipush (v := nI 9) dX0_cancel_53 (by decide) ?_
          refine j_iconst (v := nI 0) dX0_cancel_55 (by decide) ?_
          refine j_V (w2 := EW D E (upd t (93 + 14 * (c * 6 + h) + 9) (nI 0))) (st2 := []) (c_X0_setLetter E t (c * 6 + h) 9 (nI 0) (by omega) (by omega)) rfl cw_X0_95 dX0_cancel_56 [] rfl [0, 1, 2, 3, 4] rfl rfl rfl 0 ?_ ⟨rfl, ⟨Nat.le_of_ble_eq_true rfl, Nat.le_of_ble_eq_true rfl⟩, ⟨rfl, rfl⟩, ⟨Nat.le_of_ble_eq_true rfl, Nat.le_of_ble_eq_true rfl⟩, Nat.le_of_ble_eq_true rfl, rfl, rfl⟩ rfl rfl rfl
          refine j_aload_n dX0_cancel_59 0 rfl ?_
          refine j_iload dX0_cancel_60 6 rfl ?_
          refine j_bipush (v := nI 10) dX0_cancel_62 (by decide) ?_
          refine j_iconst (v := nI 2) dX0_cancel_64 (by decide) ?_
          refine j_V (w2 := EW D E (upd (upd t (93 + 14 * (c * 6 + h) + 9) (nI 0)) (93 + 14 * (c * 6 + h) + 10) (nI 2))) (st2 := []) (c_X0_setLetter E (upd t (93 + 14 * (c * 6 + h) + 9) (nI 0)) (c * 6 + h) 10 (nI 2) (by omega) (by omega)) rfl cw_X0_95 dX0_cancel_65 [] rfl [0, 1, 2, 3, 4] rfl rfl rfl 0 ?_ ⟨rfl, ⟨Nat.le_of_ble_eq_true rfl, Nat.le_of_ble_eq_true rfl⟩, ⟨rfl, rfl⟩, ⟨Nat.le_of_ble_eq_true rfl, Nat.le_of_ble_eq_true rfl⟩, Nat.le_of_ble_eq_true rfl, rfl, rfl⟩ rfl rfl rfl
          refine j_w (w2 := EW D E (ca1 t (c * 6 + h))) (rfl) ?_
          refine j_iload_n dX0_cancel_68 2 rfl ?_
          refine j_S (w2 := EW D E (ca1 t (c * 6 + h))) (st2 := [.int (nI ((h + 1) % 6))]) (c_X0_slotBehind h (by omega)) rfl cw_X0_98 dX0_cancel_69 [] rfl [] rfl rfl rfl ?_ ⟨rfl, ⟨Nat.le_of_ble_eq_true rfl, Nat.le_of_ble_eq_true rfl⟩, ⟨rfl, rfl⟩, ⟨Nat.le_of_ble_eq_true rfl, Nat.le_of_ble_eq_true rfl⟩, Nat.le_of_ble_eq_true rfl, rfl, rfl⟩
          refine j_istore_n (lv2 := [(0, .ref (E 0)), (1, .int (nI c)), (2, .int (nI ((h + 1) % 6))), (3, .int (a + (gL t (c * 6 + h) 11))), (4, .int (bI g)), (5, .int (nI i)), (6, .int (nI (c * 6 + h)))]) dX0_cancel_72 (by decide) [1, 2, 0, 3, 4, 5, 6] rfl ?_
          refine j_aload_n dX0_cancel_73 0 rfl ?_
          refine j_iload dX0_cancel_74 6 rfl ?_
          refine j_bipush (v := nI 8) dX0_cancel_76 (by decide) ?_
          refine j_V (w2 := EW D E (ca1 t (c * 6 + h))) (st2 := [.int (gL (ca1 t (c * 6 + h)) (c * 6 + h) 8)]) (c_X0_ofLetter E (ca1 t (c * 6 + h)) (c * 6 + h) 8 (by omega) (by omega)) rfl cw_X0_40 dX0_cancel_78 [] rfl [0, 1, 2, 3, 4] rfl rfl rfl 0 ?_ ⟨rfl, ⟨Nat.le_of_ble_eq_true rfl, Nat.le_of_ble_eq_true rfl⟩, ⟨rfl, rfl⟩, ⟨Nat.le_of_ble_eq_true rfl, Nat.le_of_ble_eq_true rfl⟩, Nat.le_of_ble_eq_true rfl, rfl, rfl⟩ rfl rfl rfl
          refine j_iconst (v := nI 1) dX0_cancel_81 (by decide) ?_
          refine j_icmp_ne (tgt := 101) dX0_cancel_82 (by decide) (fun h82 => ?_) (fun h82 => ?_)
          · skip
            refine j_iconst (v := nI 0) dX0_cancel_101 (by decide) ?_
            refine j_topi (v := bI false) rfl ?_
            refine j_istore (lv2 := [(0, .ref (E 0)), (1, .int (nI c)), (2, .int (nI ((h + 1) % 6))), (3, .int (a + (gL t (c * 6 + h) 11))), (4, .int (bI false)), (5, .int (nI i)), (6, .int (nI (c * 6 + h)))]) dX0_cancel_102 (by decide) [1, 2, 3, 4, 0, 5, 6] rfl ?_
            refine j_iinc (v := nI (i + 1)) (lv2 := [(0, .ref (E 0)), (1, .int (nI c)), (2, .int (nI ((h + 1) % 6))), (3, .int (a + (gL t (c * 6 + h) 11))), (4, .int (bI false)), (5, .int (nI (i + 1))), (6, .int (nI (c * 6 + h)))]) dX0_cancel_104 5 rfl (nI_1 _) (by decide) [1, 2, 3, 4, 5, 0, 6] rfl ?_
            refine j_goto (tgt := 20) dX0_cancel_107 (by decide) ?_
            refine j_lv (lv2 := [(0, .ref (E 0)), (1, .int (nI c)), (2, .int (nI ((h + 1) % 6))), (3, .int (a + (gL t (c * 6 + h) 11))), (4, .int (bI false)), (5, .int (nI (i + 1)))]) [0, 1, 2, 3, 4, 5] rfl ?_
            exact ih (i + 1) (ca1 t (c * 6 + h)) ((h + 1) % 6) (a + gL t (c * 6 + h) 11) false (by omega) (Nat.mod_lt _ (by decide)) (by rw [he, if_pos h29, show 6 - i = (6 - (i + 1)) + 1 by omega]; exact caN_n (fun q => h82 q.1)) (by omega)
          · skip
            refine j_aload_n dX0_cancel_85 0 rfl ?_
            refine j_iload_n dX0_cancel_86 1 rfl ?_
            refine j_iload_n dX0_cancel_87 2 rfl ?_
            refine j_S (w2 := EW D E (ca1 t (c * 6 + h))) (st2 := [.int (nI (c * 6 + ((h + 1) % 6))), .ref (E 0)]) (c_X0_placeOf c ((h + 1) % 6)) rfl cw_X0_64 dX0_cancel_88 [.ref (E 0)] rfl [] rfl rfl rfl ?_ ⟨rfl, ⟨Nat.le_of_ble_eq_true rfl, Nat.le_of_ble_eq_true rfl⟩, ⟨rfl, rfl⟩, ⟨Nat.le_of_ble_eq_true rfl, Nat.le_of_ble_eq_true rfl⟩, Nat.le_of_ble_eq_true rfl, rfl, rfl⟩
            refine j_V (w2 := EW D E (ca1 t (c * 6 + h))) (st2 := [.int (bI (eng (ca1 t (c * 6 + h)) (c * 6 + ((h + 1) % 6))))]) (c_X0_isEngines E (ca1 t (c * 6 + h)) (c * 6 + ((h + 1) % 6)) (by omega)) rfl cw_X0_67 dX0_cancel_91 [] rfl [0, 1, 2, 3, 4] rfl rfl rfl 0 ?_ ⟨rfl, ⟨Nat.le_of_ble_eq_true rfl, Nat.le_of_ble_eq_true rfl⟩, ⟨rfl, rfl⟩, ⟨Nat.le_of_ble_eq_true rfl, Nat.le_of_ble_eq_true rfl⟩, Nat.le_of_ble_eq_true rfl, rfl, rfl⟩ rfl rfl rfl
            refine j_if_eq_B (tgt := 101) dX0_cancel_94 (by decide) (fun h94 => ?_) (fun h94 => ?_)
            · skip
              refine j_iconst (v := nI 0) dX0_cancel_101 (by decide) ?_
              refine j_topi (v := bI false) rfl ?_
              refine j_istore (lv2 := [(0, .ref (E 0)), (1, .int (nI c)), (2, .int (nI ((h + 1) % 6))), (3, .int (a + (gL t (c * 6 + h) 11))), (4, .int (bI false)), (5, .int (nI i)), (6, .int (nI (c * 6 + h)))]) dX0_cancel_102 (by decide) [1, 2, 3, 4, 0, 5, 6] rfl ?_
              refine j_iinc (v := nI (i + 1)) (lv2 := [(0, .ref (E 0)), (1, .int (nI c)), (2, .int (nI ((h + 1) % 6))), (3, .int (a + (gL t (c * 6 + h) 11))), (4, .int (bI false)), (5, .int (nI (i + 1))), (6, .int (nI (c * 6 + h)))]) dX0_cancel_104 5 rfl (nI_1 _) (by decide) [1, 2, 3, 4, 5, 0, 6] rfl ?_
              refine j_goto (tgt := 20) dX0_cancel_107 (by decide) ?_
              refine j_lv (lv2 := [(0, .ref (E 0)), (1, .int (nI c)), (2, .int (nI ((h + 1) % 6))), (3, .int (a + (gL t (c * 6 + h) 11))), (4, .int (bI false)), (5, .int (nI (i + 1)))]) [0, 1, 2, 3, 4, 5] rfl ?_
              exact ih (i + 1) (ca1 t (c * 6 + h)) ((h + 1) % 6) (a + gL t (c * 6 + h) 11) false (by omega) (Nat.mod_lt _ (by decide)) (by rw [he, if_pos h29, show 6 - i = (6 - (i + 1)) + 1 by omega]; exact caN_n (fun q => absurd q.2 (by rw [h94]; decide))) (by omega)
            · skip
              refine j_iconst (v := nI 1) dX0_cancel_97 (by decide) ?_
              refine j_goto (tgt := 102) dX0_cancel_98 (by decide) ?_
              refine j_topi (v := bI true) rfl ?_
              refine j_istore (lv2 := [(0, .ref (E 0)), (1, .int (nI c)), (2, .int (nI ((h + 1) % 6))), (3, .int (a + (gL t (c * 6 + h) 11))), (4, .int (bI true)), (5, .int (nI i)), (6, .int (nI (c * 6 + h)))]) dX0_cancel_102 (by decide) [1, 2, 3, 4, 0, 5, 6] rfl ?_
              refine j_iinc (v := nI (i + 1)) (lv2 := [(0, .ref (E 0)), (1, .int (nI c)), (2, .int (nI ((h + 1) % 6))), (3, .int (a + (gL t (c * 6 + h) 11))), (4, .int (bI true)), (5, .int (nI (i + 1))), (6, .int (nI (c * 6 + h)))]) dX0_cancel_104 5 rfl (nI_1 _) (by decide) [1, 2, 3, 4, 5, 0, 6] rfl ?_
              refine j_goto (tgt := 20) dX0_cancel_107 (by decide) ?_
              refine j_lv (lv2 := [(0, .ref (E 0)), (1, .int (nI c)), (2, .int (nI ((h + 1) % 6))), (3, .int (a + (gL t (c * 6 + h) 11))), (4, .int (bI true)), (5, .int (nI (i + 1)))]) [0, 1, 2, 3, 4, 5] rfl ?_
              exact ih (i + 1) (ca1 t (c * 6 + h)) ((h + 1) % 6) (a + gL t (c * 6 + h) 11) true (by omega) (Nat.mod_lt _ (by decide)) (by rw [he, if_pos h29, show 6 - i = (6 - (i + 1)) + 1 by omega]; exact caN_y h82 h94) (by omega)
  exact L20 7 0 (waF s c) (hd (waF s c) c) 0 true (by omega) ((Inv_wa hI).hd_ hc).2 rfl (by omega)

set_option maxHeartbeats 4000000 in
set_option maxRecDepth 100000 in
theorem c_X0_writtenBy (E : Nat → Nat) (s : SS) (hI : Inv s) (p : Nat) (hp : p < 24) (hh : s (92 + 14 * p) ≠ 0) : Ct D yX0_writtenBy cX0_writtenBy 6 (some .long) ({ frames := 2, cells := 0, slots := 0, locals := 49 } : Room) [.ref (E 0), .int (nI p)] (EW D E s) (fun v_ u_ => v_ = some (.long (wbs s p (un s p))) ∧ u_ = EW D E s) := by
  have hle := hI.le hp hh
  have hre := hle.2.2.2.2
  have hun := un_lt hle.2.1.2.2 hle.2.2.1.2.2
  obtain ⟨hn, h1, h2⟩ := hle.2.1
  refine ct_of (by decide) (Nat.le_of_ble_eq_true rfl) (lv0 := [(0, .ref (E 0)), (1, .int (nI p))]) rfl (fun Γ => ?_)
  refine j_lconst (v := 0) dX0_writtenBy_0 (by decide) ?_
  refine j_lstore_n (lv2 := [(0, .ref (E 0)), (1, .int (nI p)), (2, .long 0)]) dX0_writtenBy_1 (by decide) [1, 2, 0] rfl ?_
  refine j_aload_n dX0_writtenBy_2 0 rfl ?_
  refine j_iload_n dX0_writtenBy_3 1 rfl ?_
  refine j_V (w2 := EW D E s) (st2 := [.int (gL s p 2 * gL s p 5)]) (c_X0_unitsOf E s p (by omega)) rfl cw_X0_49 dX0_writtenBy_4 [] rfl [0, 1, 2, 3, 4] rfl rfl rfl 0 ?_ ⟨rfl, ⟨Nat.le_of_ble_eq_true rfl, Nat.le_of_ble_eq_true rfl⟩, ⟨rfl, rfl⟩, ⟨Nat.le_of_ble_eq_true rfl, Nat.le_of_ble_eq_true rfl⟩, Nat.le_of_ble_eq_true rfl, rfl, rfl⟩ rfl rfl rfl
  refine j_topi (v := nI (un s p)) (by rw [hn, hle.2.2.1.1, pk_mul]; rfl) ?_
  refine j_istore (lv2 := [(0, .ref (E 0)), (1, .int (nI p)), (2, .long 0), (4, .int (nI (un s p)))]) dX0_writtenBy_7 (by decide) [1, 2, 3, 0] rfl ?_
  refine j_iconst (v := nI 0) dX0_writtenBy_9 (by decide) ?_
  refine j_istore (lv2 := [(0, .ref (E 0)), (1, .int (nI p)), (2, .long 0), (4, .int (nI (un s p))), (5, .int (nI 0))]) dX0_writtenBy_10 (by decide) [1, 2, 3, 4, 0] rfl ?_
  have L12 : ∀ (fuel : Nat) (i : Nat), i ≤ un s p → un s p - i < fuel → J D Γ yX0_writtenBy cX0_writtenBy 6 (some .long) ({ frames := 2, cells := 0, slots := 0, locals := 49 } : Room) (Qf D Γ ({ frames := 2, cells := 0, slots := 0, locals := 49 } : Room) (fun v_ u_ => v_ = some (.long (wbs s p (un s p))) ∧ u_ = EW D E s)) 0 0 (EW D E s) 12 [(0, .ref (E 0)), (1, .int (nI p)), (2, .long (wbs s p i)), (4, .int (nI (un s p))), (5, .int (nI i))] [] := by
    intro fuel
    induction fuel with
    | zero => intro i hi hm; exact absurd hm (Nat.not_lt_zero _)
    | succ fuel ih =>
      intro i hi hm
      refine j_iload dX0_writtenBy_12 4 rfl ?_
      refine j_iload dX0_writtenBy_14 3 rfl ?_
      refine j_icmp_ge_N (tgt := 38) dX0_writtenBy_16 (by decide) ⟨by omega, by omega⟩ (fun h16 => ?_) (fun h16 => ?_)
      · skip
        refine j_lload_n dX0_writtenBy_38 2 rfl ?_
        exact j_lret dX0_writtenBy_39 ⟨rfl, rfl⟩ ⟨by rw [show i = un s p by omega], rfl⟩
      · skip
        refine j_lload_n dX0_writtenBy_19 2 rfl ?_
        refine j_lconst (v := 1) dX0_writtenBy_20 (by decide) ?_
        refine j_aload_n dX0_writtenBy_21 0 rfl ?_
        refine j_iload_n dX0_writtenBy_22 1 rfl ?_
        refine j_iload dX0_writtenBy_23 4 rfl ?_
        refine j_iconst (v := nI 1) dX0_writtenBy_25 (by decide) ?_
        refine j_V (w2 := EW D E s) (st2 := [.int (nI (ad s p i 1)), .long 1, .long (wbs s p i)]) (c_X0_addressOf E s p i 1 (by omega) hn (by omega) (by omega) (by omega) (by omega)) rfl cw_X0_53 dX0_writtenBy_26 [.long 1, .long (wbs s p i)] rfl [0, 1, 2, 3, 4] rfl rfl rfl 0 ?_ ⟨rfl, ⟨Nat.le_of_ble_eq_true rfl, Nat.le_of_ble_eq_true rfl⟩, ⟨rfl, rfl⟩, ⟨Nat.le_of_ble_eq_true rfl, Nat.le_of_ble_eq_true rfl⟩, Nat.le_of_ble_eq_true rfl, rfl, rfl⟩ rfl rfl rfl
        refine j_lshl (v := 1 <<< ((nI (ad s p i 1)).toInt64 &&& 63)) dX0_writtenBy_29 (rfl) ?_
        refine j_lor (v := wbs s p (i + 1)) dX0_writtenBy_30 (rfl) ?_
        refine j_lstore_n (lv2 := [(0, .ref (E 0)), (1, .int (nI p)), (2, .long (wbs s p (i + 1))), (4, .int (nI (un s p))), (5, .int (nI i))]) dX0_writtenBy_31 (by decide) [1, 2, 0, 3, 4] rfl ?_
        refine j_iinc (v := nI (i + 1)) (lv2 := [(0, .ref (E 0)), (1, .int (nI p)), (2, .long (wbs s p (i + 1))), (4, .int (nI (un s p))), (5, .int (nI (i + 1)))]) dX0_writtenBy_32 4 rfl (nI_1 _) (by decide) [1, 2, 3, 4, 0] rfl ?_
        refine j_goto (tgt := 12) dX0_writtenBy_35 (by decide) ?_
        exact ih (i + 1) (by omega) (by omega)
  exact L12 (un s p + 1) 0 (by omega) (by omega)

set_option maxHeartbeats 4000000 in
set_option maxRecDepth 100000 in
theorem c_X0_uncarriedBoundFor (E : Nat → Nat) (s : SS) (hI : Inv s) (p : Nat) (hp : p < 24) (hh : s (92 + 14 * p) ≠ 0) (a : Nat) (ha : a < 64) : Ct D yX0_uncarriedBoundFor cX0_uncarriedBoundFor 6 (some .int) ({ frames := 2, cells := 0, slots := 0, locals := 49 } : Room) [.ref (E 0), .int (nI p), .int (nI a)] (EW D E s) (fun v_ u_ => v_ = some (.int (nI (ucF s p a))) ∧ u_ = EW D E s) := by
  have hle := hI.le hp hh
  have hre := hle.2.2.2.2
  have hun := un_lt hle.2.1.2.2 hle.2.2.1.2.2
  obtain ⟨hn, h1, h2⟩ := hle.2.1
  refine ct_of (by decide) (Nat.le_of_ble_eq_true rfl) (lv0 := [(0, .ref (E 0)), (1, .int (nI p)), (2, .int (nI a))]) rfl (fun Γ => ?_)
  refine j_iconst (v := nI 0) dX0_uncarriedBoundFor_0 (by decide) ?_
  refine j_istore_n (lv2 := [(0, .ref (E 0)), (1, .int (nI p)), (2, .int (nI a)), (3, .int (nI 0))]) dX0_uncarriedBoundFor_1 (by decide) [1, 2, 3, 0] rfl ?_
  refine j_aload_n dX0_uncarriedBoundFor_2 0 rfl ?_
  refine j_iload_n dX0_uncarriedBoundFor_3 1 rfl ?_
  refine j_V (w2 := EW D E s) (st2 := [.int (gL s p 2 * gL s p 5)]) (c_X0_unitsOf E s p (by omega)) rfl cw_X0_49 dX0_uncarriedBoundFor_4 [] rfl [0, 1, 2, 3, 4] rfl rfl rfl 0 ?_ ⟨rfl, ⟨Nat.le_of_ble_eq_true rfl, Nat.le_of_ble_eq_true rfl⟩, ⟨rfl, rfl⟩, ⟨Nat.le_of_ble_eq_true rfl, Nat.le_of_ble_eq_true rfl⟩, Nat.le_of_ble_eq_true rfl, rfl, rfl⟩ rfl rfl rfl
  refine j_topi (v := nI (un s p)) (by rw [hn, hle.2.2.1.1, pk_mul]; rfl) ?_
  refine j_istore (lv2 := [(0, .ref (E 0)), (1, .int (nI p)), (2, .int (nI a)), (3, .int (nI 0)), (4, .int (nI (un s p)))]) dX0_uncarriedBoundFor_7 (by decide) [1, 2, 3, 4, 0] rfl ?_
  refine j_iload dX0_uncarriedBoundFor_9 4 rfl ?_
  refine j_aload_n dX0_uncarriedBoundFor_11 0 rfl ?_
  refine j_iload_n dX0_uncarriedBoundFor_12 1 rfl ?_
  refine j_bipush (v := nI 11) dX0_uncarriedBoundFor_13 (by decide) ?_
  refine j_V (w2 := EW D E s) (st2 := [.int (gL s p 11), .int (nI (un s p))]) (c_X0_ofLetter E s p 11 (by omega) (by omega)) rfl cw_X0_40 dX0_uncarriedBoundFor_15 [.int (nI (un s p))] rfl [0, 1, 2, 3, 4] rfl rfl rfl 0 ?_ ⟨rfl, ⟨Nat.le_of_ble_eq_true rfl, Nat.le_of_ble_eq_true rfl⟩, ⟨rfl, rfl⟩, ⟨Nat.le_of_ble_eq_true rfl, Nat.le_of_ble_eq_true rfl⟩, Nat.le_of_ble_eq_true rfl, rfl, rfl⟩ rfl rfl rfl
  refine j_topi (v := nI (re s p)) (hle.2.2.2.1) ?_
  refine j_isub (v := nI ((un s p) - (re s p))) dX0_uncarriedBoundFor_18 (pk_sub (by omega)) ?_
  refine j_istore (lv2 := [(0, .ref (E 0)), (1, .int (nI p)), (2, .int (nI a)), (3, .int (nI 0)), (4, .int (nI (un s p))), (5, .int (nI ((un s p) - (re s p))))]) dX0_uncarriedBoundFor_19 (by decide) [1, 2, 3, 4, 5, 0] rfl ?_
  have L21 : ∀ (fuel : Nat) (i : Nat), i ≤ re s p → re s p - i < fuel → J D Γ yX0_uncarriedBoundFor cX0_uncarriedBoundFor 6 (some .int) ({ frames := 2, cells := 0, slots := 0, locals := 49 } : Room) (Qf D Γ ({ frames := 2, cells := 0, slots := 0, locals := 49 } : Room) (fun v_ u_ => v_ = some (.int (nI (ucF s p a))) ∧ u_ = EW D E s)) 0 0 (EW D E s) 21 [(0, .ref (E 0)), (1, .int (nI p)), (2, .int (nI a)), (3, .int (nI (cnt (ucP s p a) i))), (4, .int (nI (un s p))), (5, .int (nI (un s p - re s p + i)))] [] := by
    intro fuel
    induction fuel with
    | zero => intro i hi hm; exact absurd hm (Nat.not_lt_zero _)
    | succ fuel ih =>
      intro i hi hm
      have hcn := cnt_le (ucP s p a) i
      have hal := ad_lt s p (un s p - re s p + i) 1
      refine j_iload dX0_uncarriedBoundFor_21 5 rfl ?_
      refine j_iload dX0_uncarriedBoundFor_23 4 rfl ?_
      refine j_icmp_ge_N (tgt := 49) dX0_uncarriedBoundFor_25 (by decide) ⟨by omega, by omega⟩ (fun h25 => ?_) (fun h25 => ?_)
      · skip
        refine j_iload_n dX0_uncarriedBoundFor_49 3 rfl ?_
        exact j_iret dX0_uncarriedBoundFor_50 ⟨rfl, rfl⟩ ⟨congrArg (fun z => some (Value.int (nI z))) (by show cnt _ _ = cnt _ _; rw [show i = re s p by omega]), rfl⟩
      · skip
        refine j_aload_n dX0_uncarriedBoundFor_28 0 rfl ?_
        refine j_iload_n dX0_uncarriedBoundFor_29 1 rfl ?_
        refine j_iload dX0_uncarriedBoundFor_30 5 rfl ?_
        refine j_iconst (v := nI 1) dX0_uncarriedBoundFor_32 (by decide) ?_
        refine j_V (w2 := EW D E s) (st2 := [.int (nI (ad s p (un s p - re s p + i) 1))]) (c_X0_addressOf E s p (un s p - re s p + i) 1 (by omega) hn (by omega) (by omega) (by omega) (by omega)) rfl cw_X0_53 dX0_uncarriedBoundFor_33 [] rfl [0, 1, 2, 3, 4] rfl rfl rfl 0 ?_ ⟨rfl, ⟨Nat.le_of_ble_eq_true rfl, Nat.le_of_ble_eq_true rfl⟩, ⟨rfl, rfl⟩, ⟨Nat.le_of_ble_eq_true rfl, Nat.le_of_ble_eq_true rfl⟩, Nat.le_of_ble_eq_true rfl, rfl, rfl⟩ rfl rfl rfl
        refine j_iload_n dX0_uncarriedBoundFor_36 2 rfl ?_
        refine j_icmp_ne_N (tgt := 43) dX0_uncarriedBoundFor_37 (by decide) ⟨by omega, by omega⟩ (fun h37 => ?_) (fun h37 => ?_)
        · skip
          refine j_iinc (v := nI (un s p - re s p + i + 1)) (lv2 := [(0, .ref (E 0)), (1, .int (nI p)), (2, .int (nI a)), (3, .int (nI (cnt (ucP s p a) i))), (4, .int (nI (un s p))), (5, .int (nI (un s p - re s p + i + 1)))]) dX0_uncarriedBoundFor_43 5 rfl (nI_1 _) (by decide) [1, 2, 3, 4, 5, 0] rfl ?_
          refine j_goto (tgt := 21) dX0_uncarriedBoundFor_46 (by decide) ?_
          have hh2 := ih (i + 1) (by omega) (by omega)
          rw [cnt_f (f := (ucP s p a)) (decide_eq_false h37)] at hh2
          exact hh2
        · skip
          refine j_iinc (v := nI (cnt (ucP s p a) i + 1)) (lv2 := [(0, .ref (E 0)), (1, .int (nI p)), (2, .int (nI a)), (3, .int (nI (cnt (ucP s p a) i + 1))), (4, .int (nI (un s p))), (5, .int (nI (un s p - re s p + i)))]) dX0_uncarriedBoundFor_40 3 rfl (nI_1 _) (by decide) [1, 2, 3, 0, 4, 5] rfl ?_
          refine j_iinc (v := nI (un s p - re s p + i + 1)) (lv2 := [(0, .ref (E 0)), (1, .int (nI p)), (2, .int (nI a)), (3, .int (nI (cnt (ucP s p a) i + 1))), (4, .int (nI (un s p))), (5, .int (nI (un s p - re s p + i + 1)))]) dX0_uncarriedBoundFor_43 5 rfl (nI_1 _) (by decide) [1, 2, 3, 4, 5, 0] rfl ?_
          refine j_goto (tgt := 21) dX0_uncarriedBoundFor_46 (by decide) ?_
          have hh2 := ih (i + 1) (by omega) (by omega)
          rw [cnt_t (f := (ucP s p a)) (decide_eq_true h37)] at hh2
          exact hh2
  exact L21 (re s p + 1) 0 (by omega) (by omega)

set_option maxHeartbeats 4000000 in
set_option maxRecDepth 100000 in
theorem c_X0_unitsBoundFor (E : Nat → Nat) (s : SS) (hI : Inv s) (a : Nat) (ha : a < 64) : Ct D yX0_unitsBoundFor cX0_unitsBoundFor 4 (some .int) ({ frames := 3, cells := 0, slots := 0, locals := 74 } : Room) [.ref (E 0), .int (nI a)] (EW D E s) (fun v_ u_ => v_ = some (.int (nI (lnd s a 24))) ∧ u_ = EW D E s) := by
  refine ct_of (by decide) (Nat.le_of_ble_eq_true rfl) (lv0 := [(0, .ref (E 0)), (1, .int (nI a))]) rfl (fun Γ => ?_)
  refine j_iconst (v := nI 0) dX0_unitsBoundFor_0 (by decide) ?_
  refine j_istore_n (lv2 := [(0, .ref (E 0)), (1, .int (nI a)), (2, .int (nI 0))]) dX0_unitsBoundFor_1 (by decide) [1, 2, 0] rfl ?_
  refine j_iconst (v := nI 0) dX0_unitsBoundFor_2 (by decide) ?_
  refine j_istore_n (lv2 := [(0, .ref (E 0)), (1, .int (nI a)), (2, .int (nI 0)), (3, .int (nI 0))]) dX0_unitsBoundFor_3 (by decide) [1, 2, 3, 0] rfl ?_
  have L4 : ∀ (fuel : Nat) (i : Nat), i ≤ 24 → 24 - i < fuel → J D Γ yX0_unitsBoundFor cX0_unitsBoundFor 4 (some .int) ({ frames := 3, cells := 0, slots := 0, locals := 74 } : Room) (Qf D Γ ({ frames := 3, cells := 0, slots := 0, locals := 74 } : Room) (fun v_ u_ => v_ = some (.int (nI (lnd s a 24))) ∧ u_ = EW D E s)) 0 0 (EW D E s) 4 [(0, .ref (E 0)), (1, .int (nI a)), (2, .int (nI (lnd s a i))), (3, .int (nI i))] [] := by
    intro fuel
    induction fuel with
    | zero => intro i hi hm; exact absurd hm (Nat.not_lt_zero _)
    | succ fuel ih =>
      intro i hi hm
      refine j_iload_n dX0_unitsBoundFor_4 3 rfl ?_
      refine j_bipush (v := nI 24) dX0_unitsBoundFor_5 (by decide) ?_
      refine j_icmp_ge_N (tgt := 33) dX0_unitsBoundFor_7 (by decide) ⟨by omega, by omega⟩ (fun h7 => ?_) (fun h7 => ?_)
      · skip
        refine j_iload_n dX0_unitsBoundFor_33 2 rfl ?_
        exact j_iret dX0_unitsBoundFor_34 ⟨rfl, rfl⟩ ⟨congrArg (fun z => some (Value.int (nI z))) (by rw [show i = 24 by omega]), rfl⟩
      · skip
        refine j_aload_n dX0_unitsBoundFor_10 0 rfl ?_
        refine j_iload_n dX0_unitsBoundFor_11 3 rfl ?_
        refine j_V (w2 := EW D E s) (st2 := [.int (bI (tc s i))]) (c_X0_isToCarry E s i (by omega)) rfl cw_X0_57 dX0_unitsBoundFor_12 [] rfl [0, 1, 2, 3, 4] rfl rfl rfl 0 ?_ ⟨rfl, ⟨Nat.le_of_ble_eq_true rfl, Nat.le_of_ble_eq_true rfl⟩, ⟨rfl, rfl⟩, ⟨Nat.le_of_ble_eq_true rfl, Nat.le_of_ble_eq_true rfl⟩, Nat.le_of_ble_eq_true rfl, rfl, rfl⟩ rfl rfl rfl
        refine j_if_eq_B (tgt := 27) dX0_unitsBoundFor_15 (by decide) (fun h15 => ?_) (fun h15 => ?_)
        · skip
          refine j_iinc (v := nI (i + 1)) (lv2 := [(0, .ref (E 0)), (1, .int (nI a)), (2, .int (nI (lnd s a i))), (3, .int (nI (i + 1)))]) dX0_unitsBoundFor_27 3 rfl (nI_1 _) (by decide) [1, 2, 3, 0] rfl ?_
          refine j_goto (tgt := 4) dX0_unitsBoundFor_30 (by decide) ?_
          have hh2 := ih (i + 1) (by omega) (by omega)
          rw [lnd_f h15] at hh2
          exact hh2
        · skip
          refine j_iload_n dX0_unitsBoundFor_18 2 rfl ?_
          refine j_aload_n dX0_unitsBoundFor_19 0 rfl ?_
          refine j_iload_n dX0_unitsBoundFor_20 3 rfl ?_
          refine j_iload_n dX0_unitsBoundFor_21 1 rfl ?_
          have hh := hI.tc_ (by omega) h15
          refine j_V (w2 := EW D E s) (st2 := [.int (nI (ucF s i a)), .int (nI (lnd s a i))]) (c_X0_uncarriedBoundFor E s hI i (by omega) hh a (by omega)) rfl cw_X0_61 dX0_unitsBoundFor_22 [.int (nI (lnd s a i))] rfl [0, 1, 2, 3, 4] rfl rfl rfl 0 ?_ ⟨rfl, ⟨Nat.le_of_ble_eq_true rfl, Nat.le_of_ble_eq_true rfl⟩, ⟨rfl, rfl⟩, ⟨Nat.le_of_ble_eq_true rfl, Nat.le_of_ble_eq_true rfl⟩, Nat.le_of_ble_eq_true rfl, rfl, rfl⟩ rfl rfl rfl
          refine j_iadd (v := nI (lnd s a i + (ucF s i a))) dX0_unitsBoundFor_25 (nI_add _ _) ?_
          refine j_istore_n (lv2 := [(0, .ref (E 0)), (1, .int (nI a)), (2, .int (nI (lnd s a i + (ucF s i a)))), (3, .int (nI i))]) dX0_unitsBoundFor_26 (by decide) [1, 2, 0, 3] rfl ?_
          refine j_iinc (v := nI (i + 1)) (lv2 := [(0, .ref (E 0)), (1, .int (nI a)), (2, .int (nI (lnd s a i + (ucF s i a)))), (3, .int (nI (i + 1)))]) dX0_unitsBoundFor_27 3 rfl (nI_1 _) (by decide) [1, 2, 3, 0] rfl ?_
          refine j_goto (tgt := 4) dX0_unitsBoundFor_30 (by decide) ?_
          have hh2 := ih (i + 1) (by omega) (by omega)
          rw [lnd_t h15] at hh2
          exact hh2
  exact L4 25 0 (by omega) (by omega)

end EN3
