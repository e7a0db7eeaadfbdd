theorem rv_tB {b : Bool} (h : b = true) : some (Value.int (bI true)) = some (Value.int (bI b)) := by rw [h]
theorem rv_fB {b : Bool} (h : b = false) : some (Value.int (bI false)) = some (Value.int (bI b)) := by rw [h]
section EN4
variable {D : DX}
set_option maxHeartbeats 4000000 in
set_option maxRecDepth 100000 in
theorem c_X0_post_full (E X : Nat → Nat) (s sg kd nu : SS) (k n ic : Nat) (hI : Inv s) (c i : Nat) (hc : c < 4) (hi : i < 24) (he : eng s (pp s c) = true) : Ct D yX0_post cX0_post 7 (some .boolean) ({ frames := 2, cells := 0, slots := 0, locals := 43 } : Room) [.ref (E 0), .int (nI c), .ref (X 0), .int (nI i)] ((EW D E s) ++ (TW D X sg kd nu k n ic)) (fun v_ u_ => v_ = some (.int (bI false)) ∧ u_ = (EW D E s) ++ (TW D X sg kd nu k n ic)) := by
  have hpp := hI.pp_ hc
  have hpo := (hI.po_ hc).2
  refine ct_of (by decide) (Nat.le_of_ble_eq_true rfl) (lv0 := [(0, .ref (E 0)), (1, .int (nI c)), (2, .ref (X 0)), (3, .int (nI i))]) rfl (fun Γ => ?_)
  refine j_aload_n dX0_post_0 0 rfl ?_
  refine j_iload_n dX0_post_1 1 rfl ?_
  refine j_iconst (v := nI 3) dX0_post_2 (by decide) ?_
  refine j_V (w2 := (EW D E s) ++ (TW D X sg kd nu k n ic)) (st2 := [.int (gC s c 3)]) (c_X0_ofChannel E s c 3 (by omega) (by omega)) rfl cw_X0_73 dX0_post_3 [] rfl [0, 1, 2, 3, 4] rfl rfl rfl 0 ?_ ⟨rfl, ⟨Nat.le_of_ble_eq_true rfl, Nat.le_of_ble_eq_true rfl⟩, ⟨rfl, rfl⟩, ⟨Nat.le_of_ble_eq_true rfl, Nat.le_of_ble_eq_true rfl⟩, Nat.le_of_ble_eq_true rfl, rfl, rfl⟩ rfl rfl rfl
  refine j_topi (v := nI (po s c)) ((hI.po_ hc).1) ?_
  refine j_istore (lv2 := [(0, .ref (E 0)), (1, .int (nI c)), (2, .ref (X 0)), (3, .int (nI i)), (4, .int (nI (po s c)))]) dX0_post_6 (by decide) [1, 2, 3, 4, 0] rfl ?_
  refine j_iload_n dX0_post_8 1 rfl ?_
  refine j_iload dX0_post_9 4 rfl ?_
  refine j_S (w2 := (EW D E s) ++ (TW D X sg kd nu k n ic)) (st2 := [.int (nI (c * 6 + (po s c)))]) (c_X0_placeOf c (po s c)) rfl cw_X0_64 dX0_post_11 [] rfl [] rfl rfl rfl ?_ ⟨rfl, ⟨Nat.le_of_ble_eq_true rfl, Nat.le_of_ble_eq_true rfl⟩, ⟨rfl, rfl⟩, ⟨Nat.le_of_ble_eq_true rfl, Nat.le_of_ble_eq_true rfl⟩, Nat.le_of_ble_eq_true rfl, rfl, rfl⟩
  refine j_topi (v := nI (pp s c)) (rfl) ?_
  refine j_istore (lv2 := [(0, .ref (E 0)), (1, .int (nI c)), (2, .ref (X 0)), (3, .int (nI i)), (4, .int (nI (po s c))), (5, .int (nI (pp s c)))]) dX0_post_14 (by decide) [1, 2, 3, 4, 5, 0] rfl ?_
  refine j_aload_n dX0_post_16 0 rfl ?_
  refine j_iload dX0_post_17 5 rfl ?_
  refine j_V (w2 := (EW D E s) ++ (TW D X sg kd nu k n ic)) (st2 := [.int (bI (eng s (pp s c)))]) (c_X0_isEngines E s (pp s c) (by omega)) rfl cw_X0_67 dX0_post_19 [] rfl [0, 1, 2, 3, 4] rfl rfl rfl 0 ?_ ⟨rfl, ⟨Nat.le_of_ble_eq_true rfl, Nat.le_of_ble_eq_true rfl⟩, ⟨rfl, rfl⟩, ⟨Nat.le_of_ble_eq_true rfl, Nat.le_of_ble_eq_true rfl⟩, Nat.le_of_ble_eq_true rfl, rfl, rfl⟩ rfl rfl rfl
  refine j_if_eq_B (tgt := 27) dX0_post_22 (by decide) (fun h22 => absurd (he.symm.trans h22) (by decide)) (fun h22 => ?_)
  refine j_iconst (v := nI 0) dX0_post_25 (by decide) ?_
  exact j_zret dX0_post_26 (rfl) ⟨rfl, rfl⟩ ⟨rfl, rfl⟩

set_option maxHeartbeats 4000000 in
set_option maxRecDepth 100000 in
theorem c_X0_post (E X : Nat → Nat) (s sg kd nu : SS) (k n ic : Nat) (hI : Inv s) (c i : Nat) (hc : c < 4) (hi : i < 24) (he : eng s (pp s c) = false) : Ct D yX0_post cX0_post 7 (some .boolean) ({ frames := 2, cells := 0, slots := 0, locals := 43 } : Room) [.ref (E 0), .int (nI c), .ref (X 0), .int (nI i)] ((EW D E s) ++ (TW D X sg kd nu k n ic)) (fun v_ u_ => v_ = some (.int (bI true)) ∧ u_ = (EW D E (poF s c (fun j => nu (i * 10 + j)))) ++ (TW D X sg kd nu k n ic)) := by
  have hpp := hI.pp_ hc
  have hpo := (hI.po_ hc).2
  refine ct_of (by decide) (Nat.le_of_ble_eq_true rfl) (lv0 := [(0, .ref (E 0)), (1, .int (nI c)), (2, .ref (X 0)), (3, .int (nI i))]) rfl (fun Γ => ?_)
  refine j_aload_n dX0_post_0 0 rfl ?_
  refine j_iload_n dX0_post_1 1 rfl ?_
  refine j_iconst (v := nI 3) dX0_post_2 (by decide) ?_
  refine j_V (w2 := (EW D E s) ++ (TW D X sg kd nu k n ic)) (st2 := [.int (gC s c 3)]) (c_X0_ofChannel E s c 3 (by omega) (by omega)) rfl cw_X0_73 dX0_post_3 [] rfl [0, 1, 2, 3, 4] rfl rfl rfl 0 ?_ ⟨rfl, ⟨Nat.le_of_ble_eq_true rfl, Nat.le_of_ble_eq_true rfl⟩, ⟨rfl, rfl⟩, ⟨Nat.le_of_ble_eq_true rfl, Nat.le_of_ble_eq_true rfl⟩, Nat.le_of_ble_eq_true rfl, rfl, rfl⟩ rfl rfl rfl
  refine j_topi (v := nI (po s c)) ((hI.po_ hc).1) ?_
  refine j_istore (lv2 := [(0, .ref (E 0)), (1, .int (nI c)), (2, .ref (X 0)), (3, .int (nI i)), (4, .int (nI (po s c)))]) dX0_post_6 (by decide) [1, 2, 3, 4, 0] rfl ?_
  refine j_iload_n dX0_post_8 1 rfl ?_
  refine j_iload dX0_post_9 4 rfl ?_
  refine j_S (w2 := (EW D E s) ++ (TW D X sg kd nu k n ic)) (st2 := [.int (nI (c * 6 + (po s c)))]) (c_X0_placeOf c (po s c)) rfl cw_X0_64 dX0_post_11 [] rfl [] rfl rfl rfl ?_ ⟨rfl, ⟨Nat.le_of_ble_eq_true rfl, Nat.le_of_ble_eq_true rfl⟩, ⟨rfl, rfl⟩, ⟨Nat.le_of_ble_eq_true rfl, Nat.le_of_ble_eq_true rfl⟩, Nat.le_of_ble_eq_true rfl, rfl, rfl⟩
  refine j_topi (v := nI (pp s c)) (rfl) ?_
  refine j_istore (lv2 := [(0, .ref (E 0)), (1, .int (nI c)), (2, .ref (X 0)), (3, .int (nI i)), (4, .int (nI (po s c))), (5, .int (nI (pp s c)))]) dX0_post_14 (by decide) [1, 2, 3, 4, 5, 0] rfl ?_
  refine j_aload_n dX0_post_16 0 rfl ?_
  refine j_iload dX0_post_17 5 rfl ?_
  refine j_V (w2 := (EW D E s) ++ (TW D X sg kd nu k n ic)) (st2 := [.int (bI (eng s (pp s c)))]) (c_X0_isEngines E s (pp s c) (by omega)) rfl cw_X0_67 dX0_post_19 [] rfl [0, 1, 2, 3, 4] rfl rfl rfl 0 ?_ ⟨rfl, ⟨Nat.le_of_ble_eq_true rfl, Nat.le_of_ble_eq_true rfl⟩, ⟨rfl, rfl⟩, ⟨Nat.le_of_ble_eq_true rfl, Nat.le_of_ble_eq_true rfl⟩, Nat.le_of_ble_eq_true rfl, rfl, rfl⟩ rfl rfl rfl
  refine j_if_eq_B (tgt := 27) dX0_post_22 (by decide) (fun h22 => ?_) (fun h22 => absurd (he.symm.trans h22) (by decide))
  refine j_w (w2 := (EW D E (poN s (fun j => nu (i * 10 + j)) (pp s c) 0)) ++ (TW D X sg kd nu k n ic)) (by rw [show EW D E (poN s (fun j => nu (i * 10 + j)) (pp s c) 0) = EW D E s from EW_has hpp]) ?_
  refine j_iconst (v := nI 0) dX0_post_27 (by decide) ?_
  refine j_istore (lv2 := [(0, .ref (E 0)), (1, .int (nI c)), (2, .ref (X 0)), (3, .int (nI i)), (4, .int (nI (po s c))), (5, .int (nI (pp s c))), (6, .int (nI 0))]) dX0_post_28 (by decide) [1, 2, 3, 4, 5, 6, 0] rfl ?_
  have L30 : ∀ (fuel : Nat) (j : Nat), j ≤ 9 → 9 - j < fuel → J D Γ yX0_post cX0_post 7 (some .boolean) ({ frames := 2, cells := 0, slots := 0, locals := 43 } : Room) (Qf D Γ ({ frames := 2, cells := 0, slots := 0, locals := 43 } : Room) (fun v_ u_ => v_ = some (.int (bI true)) ∧ u_ = (EW D E (poF s c (fun j => nu (i * 10 + j)))) ++ (TW D X sg kd nu k n ic))) 0 0 ((EW D E (poN s (fun j => nu (i * 10 + j)) (pp s c) j)) ++ (TW D X sg kd nu k n ic)) 30 [(0, .ref (E 0)), (1, .int (nI c)), (2, .ref (X 0)), (3, .int (nI i)), (4, .int (nI (po s c))), (5, .int (nI (pp s c))), (6, .int (nI j))] [] := by
    intro fuel
    induction fuel with
    | zero => intro j hj hm; exact absurd hm (Nat.not_lt_zero _)
    | succ fuel ih =>
      intro j hj hm
      refine j_iload dX0_post_30 6 rfl ?_
      refine j_bipush (v := nI 9) dX0_post_32 (by decide) ?_
      refine j_icmp_ge_N (tgt := 60) dX0_post_34 (by decide) ⟨by omega, by omega⟩ (fun h34 => ?_) (fun h34 => ?_)
      · skip
        obtain rfl : j = 9 := by omega
        refine j_aload_n dX0_post_60 0 rfl ?_
        refine j_iload dX0_post_61 5 rfl ?_
        refine j_bipush (v := nI 9) dX0_post_63 (by decide) ?_
        refine j_iconst (v := nI 1) dX0_post_65 (by decide) ?_
        refine j_V (w2 := (EW D E (upd (poN s (fun j => nu (i * 10 + j)) (pp s c) 9) (93 + 14 * (pp s c) + 9) (nI 1))) ++ (TW D X sg kd nu k n ic)) (st2 := []) (c_X0_setLetter E (poN s (fun j => nu (i * 10 + j)) (pp s c) 9) (pp s c) 9 (nI 1) (by omega) (by omega)) rfl cw_X0_95 dX0_post_66 [] rfl [0, 1, 2, 3, 4] rfl rfl rfl 0 ?_ ⟨rfl, ⟨Nat.le_of_ble_eq_true rfl, Nat.le_of_ble_eq_true rfl⟩, ⟨rfl, rfl⟩, ⟨Nat.le_of_ble_eq_true rfl, Nat.le_of_ble_eq_true rfl⟩, Nat.le_of_ble_eq_true rfl, rfl, rfl⟩ rfl rfl rfl
        refine j_aload_n dX0_post_69 0 rfl ?_
        refine j_iload dX0_post_70 5 rfl ?_
        refine j_bipush (v := nI 10) dX0_post_72 (by decide) ?_
        refine j_iconst (v := nI 0) dX0_post_74 (by decide) ?_
        refine j_V (w2 := (EW D E (upd (upd (poN s (fun j => nu (i * 10 + j)) (pp s c) 9) (93 + 14 * (pp s c) + 9) (nI 1)) (93 + 14 * (pp s c) + 10) (nI 0))) ++ (TW D X sg kd nu k n ic)) (st2 := []) (c_X0_setLetter E (upd (poN s (fun j => nu (i * 10 + j)) (pp s c) 9) (93 + 14 * (pp s c) + 9) (nI 1)) (pp s c) 10 (nI 0) (by omega) (by omega)) rfl cw_X0_95 dX0_post_75 [] rfl [0, 1, 2, 3, 4] rfl rfl rfl 0 ?_ ⟨rfl, ⟨Nat.le_of_ble_eq_true rfl, Nat.le_of_ble_eq_true rfl⟩, ⟨rfl, rfl⟩, ⟨Nat.le_of_ble_eq_true rfl, Nat.le_of_ble_eq_true rfl⟩, Nat.le_of_ble_eq_true rfl, rfl, rfl⟩ rfl rfl rfl
        refine j_w (w2 := (EW D E (po2 s (fun j => nu (i * 10 + j)) (pp s c))) ++ (TW D X sg kd nu k n ic)) (rfl) ?_
        refine j_aload_n dX0_post_78 0 rfl ?_
        refine j_iload dX0_post_79 5 rfl ?_
        refine j_bipush (v := nI 11) dX0_post_81 (by decide) ?_
        refine j_aload_n dX0_post_83 0 rfl ?_
        refine j_iload dX0_post_84 5 rfl ?_
        refine j_V (w2 := (EW D E (po2 s (fun j => nu (i * 10 + j)) (pp s c))) ++ (TW D X sg kd nu k n ic)) (st2 := [.int (gL (po2 s (fun j => nu (i * 10 + j)) (pp s c)) (pp s c) 2 * gL (po2 s (fun j => nu (i * 10 + j)) (pp s c)) (pp s c) 5), .int (nI 11), .int (nI (pp s c)), .ref (E 0)]) (c_X0_unitsOf E (po2 s (fun j => nu (i * 10 + j)) (pp s c)) (pp s c) (by omega)) rfl cw_X0_49 dX0_post_86 [.int (nI 11), .int (nI (pp s c)), .ref (E 0)] rfl [0, 1, 2, 3, 4] rfl rfl rfl 0 ?_ ⟨rfl, ⟨Nat.le_of_ble_eq_true rfl, Nat.le_of_ble_eq_true rfl⟩, ⟨rfl, rfl⟩, ⟨Nat.le_of_ble_eq_true rfl, Nat.le_of_ble_eq_true rfl⟩, Nat.le_of_ble_eq_true rfl, rfl, rfl⟩ rfl rfl rfl
        refine j_V (w2 := (EW D E (upd (po2 s (fun j => nu (i * 10 + j)) (pp s c)) (93 + 14 * (pp s c) + 11) (gL (po2 s (fun j => nu (i * 10 + j)) (pp s c)) (pp s c) 2 * gL (po2 s (fun j => nu (i * 10 + j)) (pp s c)) (pp s c) 5))) ++ (TW D X sg kd nu k n ic)) (st2 := []) (c_X0_setLetter E (po2 s (fun j => nu (i * 10 + j)) (pp s c)) (pp s c) 11 (gL (po2 s (fun j => nu (i * 10 + j)) (pp s c)) (pp s c) 2 * gL (po2 s (fun j => nu (i * 10 + j)) (pp s c)) (pp s c) 5) (by omega) (by omega)) rfl cw_X0_95 dX0_post_89 [] rfl [0, 1, 2, 3, 4] rfl rfl rfl 0 ?_ ⟨rfl, ⟨Nat.le_of_ble_eq_true rfl, Nat.le_of_ble_eq_true rfl⟩, ⟨rfl, rfl⟩, ⟨Nat.le_of_ble_eq_true rfl, Nat.le_of_ble_eq_true rfl⟩, Nat.le_of_ble_eq_true rfl, rfl, rfl⟩ rfl rfl rfl
        refine j_aload_n dX0_post_92 0 rfl ?_
        refine j_iload dX0_post_93 5 rfl ?_
        refine j_bipush (v := nI 12) dX0_post_95 (by decide) ?_
        refine j_iconst (v := nI 0) dX0_post_97 (by decide) ?_
        refine j_V (w2 := (EW D E (upd (upd (po2 s (fun j => nu (i * 10 + j)) (pp s c)) (93 + 14 * (pp s c) + 11) (gL (po2 s (fun j => nu (i * 10 + j)) (pp s c)) (pp s c) 2 * gL (po2 s (fun j => nu (i * 10 + j)) (pp s c)) (pp s c) 5)) (93 + 14 * (pp s c) + 12) (nI 0))) ++ (TW D X sg kd nu k n ic)) (st2 := []) (c_X0_setLetter E (upd (po2 s (fun j => nu (i * 10 + j)) (pp s c)) (93 + 14 * (pp s c) + 11) (gL (po2 s (fun j => nu (i * 10 + j)) (pp s c)) (pp s c) 2 * gL (po2 s (fun j => nu (i * 10 + j)) (pp s c)) (pp s c) 5)) (pp s c) 12 (nI 0) (by omega) (by omega)) rfl cw_X0_95 dX0_post_98 [] rfl [0, 1, 2, 3, 4] rfl rfl rfl 0 ?_ ⟨rfl, ⟨Nat.le_of_ble_eq_true rfl, Nat.le_of_ble_eq_true rfl⟩, ⟨rfl, rfl⟩, ⟨Nat.le_of_ble_eq_true rfl, Nat.le_of_ble_eq_true rfl⟩, Nat.le_of_ble_eq_true rfl, rfl, rfl⟩ rfl rfl rfl
        refine j_w (w2 := (EW D E (po3 s (fun j => nu (i * 10 + j)) (pp s c))) ++ (TW D X sg kd nu k n ic)) (rfl) ?_
        refine j_aload_n dX0_post_101 0 rfl ?_
        refine j_iload_n dX0_post_102 1 rfl ?_
        refine j_iconst (v := nI 3) dX0_post_103 (by decide) ?_
        refine j_iload dX0_post_104 4 rfl ?_
        refine j_S (w2 := (EW D E (po3 s (fun j => nu (i * 10 + j)) (pp s c))) ++ (TW D X sg kd nu k n ic)) (st2 := [.int (nI ((po s c + 1) % 6)), .int (nI 3), .int (nI c), .ref (E 0)]) (c_X0_slotBehind (po s c) (by omega)) rfl cw_X0_98 dX0_post_106 [.int (nI 3), .int (nI c), .ref (E 0)] rfl [] rfl rfl rfl ?_ ⟨rfl, ⟨Nat.le_of_ble_eq_true rfl, Nat.le_of_ble_eq_true rfl⟩, ⟨rfl, rfl⟩, ⟨Nat.le_of_ble_eq_true rfl, Nat.le_of_ble_eq_true rfl⟩, Nat.le_of_ble_eq_true rfl, rfl, rfl⟩
        refine j_V (w2 := (EW D E (upd (po3 s (fun j => nu (i * 10 + j)) (pp s c)) (64 + 7 * c + 3) (nI ((po s c + 1) % 6)))) ++ (TW D X sg kd nu k n ic)) (st2 := []) (c_X0_setChannel E (po3 s (fun j => nu (i * 10 + j)) (pp s c)) c 3 (nI ((po s c + 1) % 6)) (by omega) (by omega)) rfl cw_X0_91 dX0_post_109 [] rfl [0, 1, 2, 3, 4] rfl rfl rfl 0 ?_ ⟨rfl, ⟨Nat.le_of_ble_eq_true rfl, Nat.le_of_ble_eq_true rfl⟩, ⟨rfl, rfl⟩, ⟨Nat.le_of_ble_eq_true rfl, Nat.le_of_ble_eq_true rfl⟩, Nat.le_of_ble_eq_true rfl, rfl, rfl⟩ rfl rfl rfl
        refine j_iconst (v := nI 1) dX0_post_112 (by decide) ?_
        exact j_zret dX0_post_113 (rfl) ⟨rfl, rfl⟩ ⟨rfl, rfl⟩
      · skip
        refine j_aload_n dX0_post_37 0 rfl ?_
        refine j_iload dX0_post_38 5 rfl ?_
        refine j_iload dX0_post_40 6 rfl ?_
        refine j_aload_n dX0_post_42 2 rfl ?_
        refine j_iload_n dX0_post_43 3 rfl ?_
        refine j_iconst (v := nI 1) dX0_post_44 (by decide) ?_
        refine j_iload dX0_post_45 6 rfl ?_
        refine j_iadd (v := nI (1 + j)) dX0_post_47 (nI_add _ _) ?_
        refine j_V (w2 := (EW D E (poN s (fun j => nu (i * 10 + j)) (pp s c) j)) ++ (TW D X sg kd nu k n ic)) (st2 := [.int (nu (i * 10 + (1 + j))), .int (nI j), .int (nI (pp s c)), .ref (E 0)]) (c_X3_number X sg kd nu k n ic i (1 + j) (by omega) (by omega)) rfl cw_X0_79 dX0_post_48 [.int (nI j), .int (nI (pp s c)), .ref (E 0)] rfl [5, 6, 7, 8] rfl rfl rfl 3 ?_ ⟨rfl, ⟨Nat.le_of_ble_eq_true rfl, Nat.le_of_ble_eq_true rfl⟩, ⟨rfl, rfl⟩, ⟨Nat.le_of_ble_eq_true rfl, Nat.le_of_ble_eq_true rfl⟩, Nat.le_of_ble_eq_true rfl, rfl, rfl⟩ rfl rfl rfl
        refine j_V (w2 := (EW D E (upd (poN s (fun j => nu (i * 10 + j)) (pp s c) j) (93 + 14 * (pp s c) + j) (nu (i * 10 + (1 + j))))) ++ (TW D X sg kd nu k n ic)) (st2 := []) (c_X0_setLetter E (poN s (fun j => nu (i * 10 + j)) (pp s c) j) (pp s c) j (nu (i * 10 + (1 + j))) (by omega) (by omega)) rfl cw_X0_95 dX0_post_51 [] rfl [0, 1, 2, 3, 4] rfl rfl rfl 0 ?_ ⟨rfl, ⟨Nat.le_of_ble_eq_true rfl, Nat.le_of_ble_eq_true rfl⟩, ⟨rfl, rfl⟩, ⟨Nat.le_of_ble_eq_true rfl, Nat.le_of_ble_eq_true rfl⟩, Nat.le_of_ble_eq_true rfl, rfl, rfl⟩ rfl rfl rfl
        refine j_iinc (v := nI (j + 1)) (lv2 := [(0, .ref (E 0)), (1, .int (nI c)), (2, .ref (X 0)), (3, .int (nI i)), (4, .int (nI (po s c))), (5, .int (nI (pp s c))), (6, .int (nI (j + 1)))]) dX0_post_54 6 rfl (nI_1 _) (by decide) [1, 2, 3, 4, 5, 6, 0] rfl ?_
        refine j_goto (tgt := 30) dX0_post_57 (by decide) ?_
        exact ih (j + 1) (by omega) (by omega)
  exact L30 10 0 (by omega) (by omega)

set_option maxHeartbeats 4000000 in
set_option maxRecDepth 100000 in
theorem c_X0_take (E X : Nat → Nat) (s sg kd nu : SS) (k n ic : Nat) (hI : Inv s) (i : Nat) (hi : i < 24) (hv : ItOk (kd i) (fun j => nu (i * 10 + j))) : Ct D yX0_take cX0_take 4 (some .boolean) ({ frames := 3, cells := 0, slots := 0, locals := 69 } : Room) [.ref (E 0), .ref (X 0), .int (nI i)] ((EW D E s) ++ (TW D X sg kd nu k n ic)) (fun v_ u_ => v_ = some (.int (bI (okI s (kd i) (fun j => nu (i * 10 + j))))) ∧ u_ = (EW D E (if okI s (kd i) (fun j => nu (i * 10 + j)) = true then doI s (kd i) (fun j => nu (i * 10 + j)) else s)) ++ (TW D X sg kd nu k n ic)) := by
  refine ct_of (by decide) (Nat.le_of_ble_eq_true rfl) (lv0 := [(0, .ref (E 0)), (1, .ref (X 0)), (2, .int (nI i))]) rfl (fun Γ => ?_)
  by_cases h108 : kd i = 108
  · skip
    have hl := hv.l h108
    have hlc := hl.1.2
    have hok : okI s (kd i) (fun j => nu (i * 10 + j)) = !eng s (pp s (vc (fun j => nu (i * 10 + j)))) := if_pos h108
    have hdo : doI s (kd i) (fun j => nu (i * 10 + j)) = poF s (vc (fun j => nu (i * 10 + j))) (fun j => nu (i * 10 + j)) := if_pos h108
    refine j_aload_n dX0_take_0 1 rfl ?_
    refine j_iload_n dX0_take_1 2 rfl ?_
    refine j_iconst (v := nI 0) dX0_take_2 (by decide) ?_
    refine j_V (w2 := (EW D E s) ++ (TW D X sg kd nu k n ic)) (st2 := [.int (nu (i * 10 + 0))]) (c_X3_number X sg kd nu k n ic i 0 (by omega) (by omega)) rfl cw_X0_79 dX0_take_3 [] rfl [5, 6, 7, 8] rfl rfl rfl 3 ?_ ⟨rfl, ⟨Nat.le_of_ble_eq_true rfl, Nat.le_of_ble_eq_true rfl⟩, ⟨rfl, rfl⟩, ⟨Nat.le_of_ble_eq_true rfl, Nat.le_of_ble_eq_true rfl⟩, Nat.le_of_ble_eq_true rfl, rfl, rfl⟩ rfl rfl rfl
    refine j_topi (v := nI (vc (fun j => nu (i * 10 + j)))) (hl.1.1) ?_
    refine j_istore_n (lv2 := [(0, .ref (E 0)), (1, .ref (X 0)), (2, .int (nI i)), (3, .int (nI (vc (fun j => nu (i * 10 + j)))))]) dX0_take_6 (by decide) [1, 2, 3, 0] rfl ?_
    refine j_aload_n dX0_take_7 1 rfl ?_
    refine j_iload_n dX0_take_8 2 rfl ?_
    refine j_V (w2 := (EW D E s) ++ (TW D X sg kd nu k n ic)) (st2 := [.int (kd i)]) (c_X3_kind X sg kd nu k n ic i (by omega)) rfl cw_X0_84 dX0_take_9 [] rfl [5, 6, 7, 8] rfl rfl rfl 3 ?_ ⟨rfl, ⟨Nat.le_of_ble_eq_true rfl, Nat.le_of_ble_eq_true rfl⟩, ⟨rfl, rfl⟩, ⟨Nat.le_of_ble_eq_true rfl, Nat.le_of_ble_eq_true rfl⟩, Nat.le_of_ble_eq_true rfl, rfl, rfl⟩ rfl rfl rfl
    refine j_lookup (off := 28) (tgt := 40) dX0_take_12 (by decide) (by rw [h108]; rfl) (by decide) ?_
    refine j_aload_n dX0_take_40 0 rfl ?_
    refine j_iload_n dX0_take_41 3 rfl ?_
    refine j_aload_n dX0_take_42 1 rfl ?_
    refine j_iload_n dX0_take_43 2 rfl ?_
    rcases he : eng s (pp s (vc (fun j => nu (i * 10 + j)))) with _ | _
    · skip
      refine j_V (w2 := (EW D E (poF s (vc (fun j => nu (i * 10 + j))) (fun j => nu (i * 10 + j)))) ++ (TW D X sg kd nu k n ic)) (st2 := [.int (bI true)]) (c_X0_post E X s sg kd nu k n ic hI (vc (fun j => nu (i * 10 + j))) i (by omega) (by omega) he) rfl cw_X0_87 dX0_take_44 [] rfl [0, 1, 2, 3, 4, 5, 6, 7, 8] rfl rfl rfl 0 ?_ ⟨rfl, ⟨Nat.le_of_ble_eq_true rfl, Nat.le_of_ble_eq_true rfl⟩, ⟨rfl, rfl⟩, ⟨Nat.le_of_ble_eq_true rfl, Nat.le_of_ble_eq_true rfl⟩, Nat.le_of_ble_eq_true rfl, rfl, rfl⟩ rfl rfl rfl
      exact j_zret dX0_take_47 (rfl) ⟨rfl, rfl⟩ ⟨rv_tB (by rw [hok, he]; rfl), by rw [hok, he, hdo]; rfl⟩
    · skip
      refine j_V (w2 := (EW D E s) ++ (TW D X sg kd nu k n ic)) (st2 := [.int (bI false)]) (c_X0_post_full E X s sg kd nu k n ic hI (vc (fun j => nu (i * 10 + j))) i (by omega) (by omega) he) rfl cw_X0_87 dX0_take_44 [] rfl [0, 1, 2, 3, 4, 5, 6, 7, 8] rfl rfl rfl 0 ?_ ⟨rfl, ⟨Nat.le_of_ble_eq_true rfl, Nat.le_of_ble_eq_true rfl⟩, ⟨rfl, rfl⟩, ⟨Nat.le_of_ble_eq_true rfl, Nat.le_of_ble_eq_true rfl⟩, Nat.le_of_ble_eq_true rfl, rfl, rfl⟩ rfl rfl rfl
      exact j_zret dX0_take_47 (rfl) ⟨rfl, rfl⟩ ⟨rv_fB (by rw [hok, he]; rfl), by rw [hok, he]; rfl⟩
  · skip
    have hok : okI s (kd i) (fun j => nu (i * 10 + j)) = true := if_neg h108
    by_cases h102 : kd i = 102
    · skip
      have hf := hv.f h102
      have hfc := hf.2
      have hdo : doI s (kd i) (fun j => nu (i * 10 + j)) = upd s (vc (fun j => nu (i * 10 + j))) ((fun j => nu (i * 10 + j)) 1) := (if_neg h108).trans (if_pos h102)
      refine j_aload_n dX0_take_0 1 rfl ?_
      refine j_iload_n dX0_take_1 2 rfl ?_
      refine j_iconst (v := nI 0) dX0_take_2 (by decide) ?_
      refine j_V (w2 := (EW D E s) ++ (TW D X sg kd nu k n ic)) (st2 := [.int (nu (i * 10 + 0))]) (c_X3_number X sg kd nu k n ic i 0 (by omega) (by omega)) rfl cw_X0_79 dX0_take_3 [] rfl [5, 6, 7, 8] rfl rfl rfl 3 ?_ ⟨rfl, ⟨Nat.le_of_ble_eq_true rfl, Nat.le_of_ble_eq_true rfl⟩, ⟨rfl, rfl⟩, ⟨Nat.le_of_ble_eq_true rfl, Nat.le_of_ble_eq_true rfl⟩, Nat.le_of_ble_eq_true rfl, rfl, rfl⟩ rfl rfl rfl
      refine j_topi (v := nI (vc (fun j => nu (i * 10 + j)))) (hf.1) ?_
      refine j_istore_n (lv2 := [(0, .ref (E 0)), (1, .ref (X 0)), (2, .int (nI i)), (3, .int (nI (vc (fun j => nu (i * 10 + j)))))]) dX0_take_6 (by decide) [1, 2, 3, 0] rfl ?_
      refine j_aload_n dX0_take_7 1 rfl ?_
      refine j_iload_n dX0_take_8 2 rfl ?_
      refine j_V (w2 := (EW D E s) ++ (TW D X sg kd nu k n ic)) (st2 := [.int (kd i)]) (c_X3_kind X sg kd nu k n ic i (by omega)) rfl cw_X0_84 dX0_take_9 [] rfl [5, 6, 7, 8] rfl rfl rfl 3 ?_ ⟨rfl, ⟨Nat.le_of_ble_eq_true rfl, Nat.le_of_ble_eq_true rfl⟩, ⟨rfl, rfl⟩, ⟨Nat.le_of_ble_eq_true rfl, Nat.le_of_ble_eq_true rfl⟩, Nat.le_of_ble_eq_true rfl, rfl, rfl⟩ rfl rfl rfl
      refine j_lookup (off := 36) (tgt := 48) dX0_take_12 (by decide) (by rw [h102]; rfl) (by decide) ?_
      refine j_aload_n dX0_take_48 0 rfl ?_
      refine g_X0_9 rfl dX0_take_49 0 rfl rfl ?_
      refine j_iload_n dX0_take_52 3 rfl ?_
      refine j_aload_n dX0_take_53 1 rfl ?_
      refine j_iload_n dX0_take_54 2 rfl ?_
      refine j_iconst (v := nI 1) dX0_take_55 (by decide) ?_
      refine j_V (w2 := (EW D E s) ++ (TW D X sg kd nu k n ic)) (st2 := [.int (nu (i * 10 + 1)), .int (nI (vc (fun j => nu (i * 10 + j)))), .ref (E 1)]) (c_X3_number X sg kd nu k n ic i 1 (by omega) (by omega)) rfl cw_X0_79 dX0_take_56 [.int (nI (vc (fun j => nu (i * 10 + j)))), .ref (E 1)] rfl [5, 6, 7, 8] rfl rfl rfl 3 ?_ ⟨rfl, ⟨Nat.le_of_ble_eq_true rfl, Nat.le_of_ble_eq_true rfl⟩, ⟨rfl, rfl⟩, ⟨Nat.le_of_ble_eq_true rfl, Nat.le_of_ble_eq_true rfl⟩, Nat.le_of_ble_eq_true rfl, rfl, rfl⟩ rfl rfl rfl
      refine j_iast (w2 := (EW D E (upd s (vc (fun j => nu (i * 10 + j))) ((fun j => nu (i * 10 + j)) 1))) ++ (TW D X sg kd nu k n ic)) dX0_take_59 1 (vc (fun j => nu (i * 10 + j))) rfl (rfl) (by omega) (Nat.le_of_ble_eq_true rfl) (by rw [← EW_M (D := D) (E := E) hfc]; rfl) ?_
      refine j_iconst (v := nI 1) dX0_take_60 (by decide) ?_
      exact j_zret dX0_take_61 (rfl) ⟨rfl, rfl⟩ ⟨rv_t hok, by rw [hok, hdo]; rfl⟩
    · skip
      have hcc := hv.c (hv.d h108 h102)
      have hcc1 := hcc.1.2
      have h99 := hv.d h108 h102
      have hdo : doI s (kd i) (fun j => nu (i * 10 + j)) = upd (upd s (64 + 7 * (vc (fun j => nu (i * 10 + j))) + 1) ((fun j => nu (i * 10 + j)) 1)) (64 + 7 * (vc (fun j => nu (i * 10 + j))) + 2) ((fun j => nu (i * 10 + j)) 2) := (if_neg h108).trans (if_neg h102)
      refine j_aload_n dX0_take_0 1 rfl ?_
      refine j_iload_n dX0_take_1 2 rfl ?_
      refine j_iconst (v := nI 0) dX0_take_2 (by decide) ?_
      refine j_V (w2 := (EW D E s) ++ (TW D X sg kd nu k n ic)) (st2 := [.int (nu (i * 10 + 0))]) (c_X3_number X sg kd nu k n ic i 0 (by omega) (by omega)) rfl cw_X0_79 dX0_take_3 [] rfl [5, 6, 7, 8] rfl rfl rfl 3 ?_ ⟨rfl, ⟨Nat.le_of_ble_eq_true rfl, Nat.le_of_ble_eq_true rfl⟩, ⟨rfl, rfl⟩, ⟨Nat.le_of_ble_eq_true rfl, Nat.le_of_ble_eq_true rfl⟩, Nat.le_of_ble_eq_true rfl, rfl, rfl⟩ rfl rfl rfl
      refine j_topi (v := nI (vc (fun j => nu (i * 10 + j)))) (hcc.1.1) ?_
      refine j_istore_n (lv2 := [(0, .ref (E 0)), (1, .ref (X 0)), (2, .int (nI i)), (3, .int (nI (vc (fun j => nu (i * 10 + j)))))]) dX0_take_6 (by decide) [1, 2, 3, 0] rfl ?_
      refine j_aload_n dX0_take_7 1 rfl ?_
      refine j_iload_n dX0_take_8 2 rfl ?_
      refine j_V (w2 := (EW D E s) ++ (TW D X sg kd nu k n ic)) (st2 := [.int (kd i)]) (c_X3_kind X sg kd nu k n ic i (by omega)) rfl cw_X0_84 dX0_take_9 [] rfl [5, 6, 7, 8] rfl rfl rfl 3 ?_ ⟨rfl, ⟨Nat.le_of_ble_eq_true rfl, Nat.le_of_ble_eq_true rfl⟩, ⟨rfl, rfl⟩, ⟨Nat.le_of_ble_eq_true rfl, Nat.le_of_ble_eq_true rfl⟩, Nat.le_of_ble_eq_true rfl, rfl, rfl⟩ rfl rfl rfl
      refine j_lookup (off := 50) (tgt := 62) dX0_take_12 (by decide) (by rw [h99]; rfl) (by decide) ?_
      refine j_aload_n dX0_take_62 0 rfl ?_
      refine j_iload_n dX0_take_63 3 rfl ?_
      refine j_iconst (v := nI 1) dX0_take_64 (by decide) ?_
      refine j_aload_n dX0_take_65 1 rfl ?_
      refine j_iload_n dX0_take_66 2 rfl ?_
      refine j_iconst (v := nI 1) dX0_take_67 (by decide) ?_
      refine j_V (w2 := (EW D E s) ++ (TW D X sg kd nu k n ic)) (st2 := [.int (nu (i * 10 + 1)), .int (nI 1), .int (nI (vc (fun j => nu (i * 10 + j)))), .ref (E 0)]) (c_X3_number X sg kd nu k n ic i 1 (by omega) (by omega)) rfl cw_X0_79 dX0_take_68 [.int (nI 1), .int (nI (vc (fun j => nu (i * 10 + j)))), .ref (E 0)] rfl [5, 6, 7, 8] rfl rfl rfl 3 ?_ ⟨rfl, ⟨Nat.le_of_ble_eq_true rfl, Nat.le_of_ble_eq_true rfl⟩, ⟨rfl, rfl⟩, ⟨Nat.le_of_ble_eq_true rfl, Nat.le_of_ble_eq_true rfl⟩, Nat.le_of_ble_eq_true rfl, rfl, rfl⟩ rfl rfl rfl
      refine j_V (w2 := (EW D E (upd s (64 + 7 * (vc (fun j => nu (i * 10 + j))) + 1) (nu (i * 10 + 1)))) ++ (TW D X sg kd nu k n ic)) (st2 := []) (c_X0_setChannel E s (vc (fun j => nu (i * 10 + j))) 1 (nu (i * 10 + 1)) (by omega) (by omega)) rfl cw_X0_91 dX0_take_71 [] rfl [0, 1, 2, 3, 4] rfl rfl rfl 0 ?_ ⟨rfl, ⟨Nat.le_of_ble_eq_true rfl, Nat.le_of_ble_eq_true rfl⟩, ⟨rfl, rfl⟩, ⟨Nat.le_of_ble_eq_true rfl, Nat.le_of_ble_eq_true rfl⟩, Nat.le_of_ble_eq_true rfl, rfl, rfl⟩ rfl rfl rfl
      refine j_aload_n dX0_take_74 0 rfl ?_
      refine j_iload_n dX0_take_75 3 rfl ?_
      refine j_iconst (v := nI 2) dX0_take_76 (by decide) ?_
      refine j_aload_n dX0_take_77 1 rfl ?_
      refine j_iload_n dX0_take_78 2 rfl ?_
      refine j_iconst (v := nI 2) dX0_take_79 (by decide) ?_
      refine j_V (w2 := (EW D E (upd s (64 + 7 * (vc (fun j => nu (i * 10 + j))) + 1) (nu (i * 10 + 1)))) ++ (TW D X sg kd nu k n ic)) (st2 := [.int (nu (i * 10 + 2)), .int (nI 2), .int (nI (vc (fun j => nu (i * 10 + j)))), .ref (E 0)]) (c_X3_number X sg kd nu k n ic i 2 (by omega) (by omega)) rfl cw_X0_79 dX0_take_80 [.int (nI 2), .int (nI (vc (fun j => nu (i * 10 + j)))), .ref (E 0)] rfl [5, 6, 7, 8] rfl rfl rfl 3 ?_ ⟨rfl, ⟨Nat.le_of_ble_eq_true rfl, Nat.le_of_ble_eq_true rfl⟩, ⟨rfl, rfl⟩, ⟨Nat.le_of_ble_eq_true rfl, Nat.le_of_ble_eq_true rfl⟩, Nat.le_of_ble_eq_true rfl, rfl, rfl⟩ rfl rfl rfl
      refine j_V (w2 := (EW D E (upd (upd s (64 + 7 * (vc (fun j => nu (i * 10 + j))) + 1) (nu (i * 10 + 1))) (64 + 7 * (vc (fun j => nu (i * 10 + j))) + 2) (nu (i * 10 + 2)))) ++ (TW D X sg kd nu k n ic)) (st2 := []) (c_X0_setChannel E (upd s (64 + 7 * (vc (fun j => nu (i * 10 + j))) + 1) (nu (i * 10 + 1))) (vc (fun j => nu (i * 10 + j))) 2 (nu (i * 10 + 2)) (by omega) (by omega)) rfl cw_X0_91 dX0_take_83 [] rfl [0, 1, 2, 3, 4] rfl rfl rfl 0 ?_ ⟨rfl, ⟨Nat.le_of_ble_eq_true rfl, Nat.le_of_ble_eq_true rfl⟩, ⟨rfl, rfl⟩, ⟨Nat.le_of_ble_eq_true rfl, Nat.le_of_ble_eq_true rfl⟩, Nat.le_of_ble_eq_true rfl, rfl, rfl⟩ rfl rfl rfl
      refine j_iconst (v := nI 1) dX0_take_86 (by decide) ?_
      exact j_zret dX0_take_87 (rfl) ⟨rfl, rfl⟩ ⟨rv_t hok, by rw [hok, hdo]; rfl⟩

end EN4
