section MD7
variable {D : DX}
set_option maxHeartbeats 4000000 in
set_option maxRecDepth 100000 in
theorem c_X5_reads (M : Nat → Nat) (u m n k it : Nat) (va : Int32) (sg rd : SS) (hn : n ≤ 120) (hk : k ≤ n) (hs : SgOk sg n) (j : Nat) (hj : j < 10) (lo hi : Int32) : Ct D yX5_reads cX5_reads 4 (some .boolean) ({ frames := 4, cells := 0, slots := 0, locals := 88 } : Room) [.ref (M 0), .int (nI j), .int lo, .int hi] ((MT D M u m n it sg (npp sg n k j) (vaN sg n k va j)) ++ (AR D (M 8) 120 sg) ++ (AR D (M 9) 10 (rdN sg n k rd j))) (fun v_ u_ => v_ = some (.int (bI (rdk sg n (sk sg n (npp sg n k j)) lo hi))) ∧ u_ = (MT D M u m n it sg (npp sg n k (if rdk sg n (sk sg n (npp sg n k j)) lo hi = true then j + 1 else j)) (vaN sg n k va (if rdk sg n (sk sg n (npp sg n k j)) lo hi = true then j + 1 else j))) ++ (AR D (M 8) 120 sg) ++ (AR D (M 9) 10 (rdN sg n k rd (if rdk sg n (sk sg n (npp sg n k j)) lo hi = true then j + 1 else j)))) := by
  refine ct_of (by decide) (Nat.le_of_ble_eq_true rfl) (lv0 := [(0, .ref (M 0)), (1, .int (nI j)), (2, .int lo), (3, .int hi)]) rfl (fun Γ => ?_)
  refine j_aload_n dX5_reads_0 0 rfl ?_
  refine g_X5_53 rfl dX5_reads_1 0 rfl rfl ?_
  refine j_sipush (v := nI 1000) dX5_reads_4 (by decide) ?_
  refine j_icmp_ne (tgt := 22) dX5_reads_7 (by decide) (fun h7 => ?_) (fun h7 => ?_)
  · skip
    refine j_iconst (v := nI 0) dX5_reads_22 (by decide) ?_
    exact j_zret dX5_reads_23 (rfl) ⟨rfl, rfl⟩ ⟨rv_f (rdk_f1 (tT_nw hs h7)), by rw [if_neg (nBool (rdk_f1 (tT_nw hs h7)))]⟩
  · skip
    have hwf := tT_wf hs h7
    refine j_aload_n dX5_reads_10 0 rfl ?_
    refine g_X5_56 rfl dX5_reads_11 0 rfl rfl ?_
    refine j_topi (v := nval sg n (sk sg n (npp sg n k j))) (tV_w hwf) ?_
    refine j_iload_n dX5_reads_14 2 rfl ?_
    refine j_iload_n dX5_reads_15 3 rfl ?_
    refine j_S (w2 := (MT D M u m n it sg (npp sg n k j) (vaN sg n k va j)) ++ (AR D (M 8) 120 sg) ++ (AR D (M 9) 10 (rdN sg n k rd j))) (st2 := [.int (bI (inR (nval sg n (sk sg n (npp sg n k j))) lo hi))]) (c_X5_in (nval sg n (sk sg n (npp sg n k j))) lo hi) rfl cw_X5_38 dX5_reads_16 [] rfl [] rfl rfl rfl ?_ ⟨rfl, ⟨Nat.le_of_ble_eq_true rfl, Nat.le_of_ble_eq_true rfl⟩, ⟨rfl, rfl⟩, ⟨Nat.le_of_ble_eq_true rfl, Nat.le_of_ble_eq_true rfl⟩, Nat.le_of_ble_eq_true rfl, rfl, rfl⟩
    refine j_if_ne_B (tgt := 24) dX5_reads_19 (by decide) (fun h19 => ?_) (fun h19 => ?_)
    · skip
      refine j_aload_n dX5_reads_24 0 rfl ?_
      refine g_X5_35 rfl dX5_reads_25 0 rfl rfl ?_
      refine j_iload_n dX5_reads_28 1 rfl ?_
      refine j_aload_n dX5_reads_29 0 rfl ?_
      refine g_X5_56 rfl dX5_reads_30 0 rfl rfl ?_
      refine j_topi (v := nval sg n (sk sg n (npp sg n k j))) (tV_w hwf) ?_
      refine j_iast (w2 := (MT D M u m n it sg (npp sg n k j) (vaN sg n k va j)) ++ (AR D (M 8) 120 sg) ++ (AR D (M 9) 10 (rdN sg n k rd (j + 1)))) dX5_reads_33 2 j rfl (rfl) (by omega) (Nat.le_of_ble_eq_true rfl) (rfl) ?_
      refine j_aload_n dX5_reads_34 0 rfl ?_
      refine j_V (w2 := (MT D M u m n it sg (tNx sg n (npp sg n k j)) (tVa sg n (npp sg n k j) (vaN sg n k va j))) ++ (AR D (M 8) 120 sg) ++ (AR D (M 9) 10 (rdN sg n k rd (j + 1)))) (st2 := []) (c_X5_takes M u m n (tNx sg n (npp sg n k j)) (sk sg n (npp sg n k j)) it (tTo sg n (npp sg n k j)) (tVa sg n (npp sg n k j) (vaN sg n k va j)) sg (by omega) (tNx_le (npp_n hk j))) rfl cw_X5_65 dX5_reads_35 [] rfl [0, 1] rfl rfl rfl 5 ?_ ⟨rfl, ⟨Nat.le_of_ble_eq_true rfl, Nat.le_of_ble_eq_true rfl⟩, ⟨rfl, rfl⟩, ⟨Nat.le_of_ble_eq_true rfl, Nat.le_of_ble_eq_true rfl⟩, Nat.le_of_ble_eq_true rfl, rfl, rfl⟩ rfl rfl rfl
      refine j_w (w2 := (MT D M u m n it sg (npp sg n k (j + 1)) (vaN sg n k va (j + 1))) ++ (AR D (M 8) 120 sg) ++ (AR D (M 9) 10 (rdN sg n k rd (j + 1)))) (by rw [show npp sg n k (j + 1) = tNx sg n (npp sg n k j) from (tN_w hwf).symm] <;> rfl) ?_
      refine j_iconst (v := nI 1) dX5_reads_38 (by decide) ?_
      exact j_zret dX5_reads_39 (rfl) ⟨rfl, rfl⟩ ⟨rv_t (rdk_t hwf h19), by rw [if_pos (rdk_t hwf h19)]⟩
    · skip
      refine j_iconst (v := nI 0) dX5_reads_22 (by decide) ?_
      exact j_zret dX5_reads_23 (rfl) ⟨rfl, rfl⟩ ⟨rv_f (rdk_f2 h19), by rw [if_neg (nBool (rdk_f2 h19))]⟩

set_option maxHeartbeats 4000000 in
set_option maxRecDepth 100000 in
theorem c_X5_readsLetter (M : Nat → Nat) (u m n k it : Nat) (va : Int32) (sg rd : SS) (hn : n ≤ 120) (hk : k ≤ n) (hs : SgOk sg n) : Ct D yX5_readsLetter cX5_readsLetter 2 (some .boolean) ({ frames := 5, cells := 0, slots := 0, locals := 111 } : Room) [.ref (M 0)] ((MT D M u m n it sg (npp sg n k 0) (vaN sg n k va 0)) ++ (AR D (M 8) 120 sg) ++ (AR D (M 9) 10 (rdN sg n k rd 0))) (fun v_ u_ => ∃ (e : Nat) (b : Bool), v_ = some (.int (bI b)) ∧ u_ = (MT D M u m n it sg (npp sg n k e) (vaN sg n k va e)) ++ (AR D (M 8) 120 sg) ++ (AR D (M 9) 10 (rdN sg n k rd e)) ∧ RS sg n tLL tLM k 10 e b) := by
  have a0 := all_0 (sg := sg) (n := n) (lo := tLL) (hi := tLM) (k := k)
  refine ct_of (by decide) (Nat.le_of_ble_eq_true rfl) (lv0 := [(0, .ref (M 0))]) rfl (fun Γ => ?_)
  refine j_aload_n dX5_readsLetter_0 0 rfl ?_
  refine j_iconst (v := nI 0) dX5_readsLetter_1 (by decide) ?_
  refine j_iconst (v := nI 0) dX5_readsLetter_2 (by decide) ?_
  refine j_iconst (v := nI 3) dX5_readsLetter_3 (by decide) ?_
  refine j_V (w2 := (MT D M u m n it sg (npp sg n k (if rdk sg n (sk sg n (npp sg n k 0)) (nI 0) (nI 3) = true then 0 + 1 else 0)) (vaN sg n k va (if rdk sg n (sk sg n (npp sg n k 0)) (nI 0) (nI 3) = true then 0 + 1 else 0))) ++ (AR D (M 8) 120 sg) ++ (AR D (M 9) 10 (rdN sg n k rd (if rdk sg n (sk sg n (npp sg n k 0)) (nI 0) (nI 3) = true then 0 + 1 else 0)))) (st2 := [.int (bI (rdk sg n (sk sg n (npp sg n k 0)) (nI 0) (nI 3)))]) (c_X5_reads M u m n k it va sg rd hn hk hs 0 (by decide) (nI 0) (nI 3)) rfl cw_X5_68 dX5_readsLetter_4 [] rfl [0, 1, 2] rfl rfl rfl 5 ?_ ⟨rfl, ⟨Nat.le_of_ble_eq_true rfl, Nat.le_of_ble_eq_true rfl⟩, ⟨rfl, rfl⟩, ⟨Nat.le_of_ble_eq_true rfl, Nat.le_of_ble_eq_true rfl⟩, Nat.le_of_ble_eq_true rfl, rfl, rfl⟩ rfl rfl rfl
  refine j_if_eq_B (tgt := 47) dX5_readsLetter_7 (by decide) (fun h7 => ?_) (fun h7 => ?_)
  · skip
    have f_ : okJ sg n tLL tLM k 0 = false := h7
    refine j_w (w2 := (MT D M u m n it sg (npp sg n k 0) (vaN sg n k va 0)) ++ (AR D (M 8) 120 sg) ++ (AR D (M 9) 10 (rdN sg n k rd 0))) (by rw [if_neg (nBool h7)]) ?_
    refine j_iconst (v := nI 0) dX5_readsLetter_47 (by decide) ?_
    refine j_istore_n (lv2 := [(0, .ref (M 0)), (1, .int (nI 0))]) dX5_readsLetter_48 (by decide) [1, 0] rfl ?_
    refine j_iload_n dX5_readsLetter_49 1 rfl ?_
    refine j_if_eq_N (tgt := 92) dX5_readsLetter_50 (by decide) (by omega) (fun h50 => ?_) (fun h50 => absurd rfl h50)
    refine j_iconst (v := nI 0) dX5_readsLetter_92 (by decide) ?_
    refine j_istore_n (lv2 := [(0, .ref (M 0)), (1, .int (nI 0))]) dX5_readsLetter_93 (by decide) [1, 0] rfl ?_
    refine j_iload_n dX5_readsLetter_94 1 rfl ?_
    refine j_if_eq_N (tgt := 139) dX5_readsLetter_95 (by decide) (by omega) (fun h95 => ?_) (fun h95 => absurd rfl h95)
    refine j_iconst (v := nI 0) dX5_readsLetter_139 (by decide) ?_
    exact j_zret dX5_readsLetter_140 (rfl) ⟨rfl, rfl⟩ ⟨0, false, rfl, rfl, Or.inr ⟨rfl, by decide, a0, f_⟩⟩
  · skip
    have a1 := all_s a0 (show okJ sg n tLL tLM k 0 = true from h7)
    refine j_w (w2 := (MT D M u m n it sg (npp sg n k 1) (vaN sg n k va 1)) ++ (AR D (M 8) 120 sg) ++ (AR D (M 9) 10 (rdN sg n k rd 1))) (by rw [if_pos h7]) ?_
    refine j_aload_n dX5_readsLetter_10 0 rfl ?_
    refine j_iconst (v := nI 1) dX5_readsLetter_11 (by decide) ?_
    refine j_iconst (v := nI 0) dX5_readsLetter_12 (by decide) ?_
    refine j_bipush (v := nI 63) dX5_readsLetter_13 (by decide) ?_
    refine j_V (w2 := (MT D M u m n it sg (npp sg n k (if rdk sg n (sk sg n (npp sg n k 1)) (nI 0) (nI 63) = true then 1 + 1 else 1)) (vaN sg n k va (if rdk sg n (sk sg n (npp sg n k 1)) (nI 0) (nI 63) = true then 1 + 1 else 1))) ++ (AR D (M 8) 120 sg) ++ (AR D (M 9) 10 (rdN sg n k rd (if rdk sg n (sk sg n (npp sg n k 1)) (nI 0) (nI 63) = true then 1 + 1 else 1)))) (st2 := [.int (bI (rdk sg n (sk sg n (npp sg n k 1)) (nI 0) (nI 63)))]) (c_X5_reads M u m n k it va sg rd hn hk hs 1 (by decide) (nI 0) (nI 63)) rfl cw_X5_68 dX5_readsLetter_15 [] rfl [0, 1, 2] rfl rfl rfl 5 ?_ ⟨rfl, ⟨Nat.le_of_ble_eq_true rfl, Nat.le_of_ble_eq_true rfl⟩, ⟨rfl, rfl⟩, ⟨Nat.le_of_ble_eq_true rfl, Nat.le_of_ble_eq_true rfl⟩, Nat.le_of_ble_eq_true rfl, rfl, rfl⟩ rfl rfl rfl
    refine j_if_eq_B (tgt := 47) dX5_readsLetter_18 (by decide) (fun h18 => ?_) (fun h18 => ?_)
    · skip
      have f_ : okJ sg n tLL tLM k 1 = false := h18
      refine j_w (w2 := (MT D M u m n it sg (npp sg n k 1) (vaN sg n k va 1)) ++ (AR D (M 8) 120 sg) ++ (AR D (M 9) 10 (rdN sg n k rd 1))) (by rw [if_neg (nBool h18)]) ?_
      refine j_iconst (v := nI 0) dX5_readsLetter_47 (by decide) ?_
      refine j_istore_n (lv2 := [(0, .ref (M 0)), (1, .int (nI 0))]) dX5_readsLetter_48 (by decide) [1, 0] rfl ?_
      refine j_iload_n dX5_readsLetter_49 1 rfl ?_
      refine j_if_eq_N (tgt := 92) dX5_readsLetter_50 (by decide) (by omega) (fun h50 => ?_) (fun h50 => absurd rfl h50)
      refine j_iconst (v := nI 0) dX5_readsLetter_92 (by decide) ?_
      refine j_istore_n (lv2 := [(0, .ref (M 0)), (1, .int (nI 0))]) dX5_readsLetter_93 (by decide) [1, 0] rfl ?_
      refine j_iload_n dX5_readsLetter_94 1 rfl ?_
      refine j_if_eq_N (tgt := 139) dX5_readsLetter_95 (by decide) (by omega) (fun h95 => ?_) (fun h95 => absurd rfl h95)
      refine j_iconst (v := nI 0) dX5_readsLetter_139 (by decide) ?_
      exact j_zret dX5_readsLetter_140 (rfl) ⟨rfl, rfl⟩ ⟨1, false, rfl, rfl, Or.inr ⟨rfl, by decide, a1, f_⟩⟩
    · skip
      have a2 := all_s a1 (show okJ sg n tLL tLM k 1 = true from h18)
      refine j_w (w2 := (MT D M u m n it sg (npp sg n k 2) (vaN sg n k va 2)) ++ (AR D (M 8) 120 sg) ++ (AR D (M 9) 10 (rdN sg n k rd 2))) (by rw [if_pos h18]) ?_
      refine j_aload_n dX5_readsLetter_21 0 rfl ?_
      refine j_iconst (v := nI 2) dX5_readsLetter_22 (by decide) ?_
      refine j_iconst (v := nI 0) dX5_readsLetter_23 (by decide) ?_
      refine j_bipush (v := nI 63) dX5_readsLetter_24 (by decide) ?_
      refine j_V (w2 := (MT D M u m n it sg (npp sg n k (if rdk sg n (sk sg n (npp sg n k 2)) (nI 0) (nI 63) = true then 2 + 1 else 2)) (vaN sg n k va (if rdk sg n (sk sg n (npp sg n k 2)) (nI 0) (nI 63) = true then 2 + 1 else 2))) ++ (AR D (M 8) 120 sg) ++ (AR D (M 9) 10 (rdN sg n k rd (if rdk sg n (sk sg n (npp sg n k 2)) (nI 0) (nI 63) = true then 2 + 1 else 2)))) (st2 := [.int (bI (rdk sg n (sk sg n (npp sg n k 2)) (nI 0) (nI 63)))]) (c_X5_reads M u m n k it va sg rd hn hk hs 2 (by decide) (nI 0) (nI 63)) rfl cw_X5_68 dX5_readsLetter_26 [] rfl [0, 1, 2] rfl rfl rfl 5 ?_ ⟨rfl, ⟨Nat.le_of_ble_eq_true rfl, Nat.le_of_ble_eq_true rfl⟩, ⟨rfl, rfl⟩, ⟨Nat.le_of_ble_eq_true rfl, Nat.le_of_ble_eq_true rfl⟩, Nat.le_of_ble_eq_true rfl, rfl, rfl⟩ rfl rfl rfl
      refine j_if_eq_B (tgt := 47) dX5_readsLetter_29 (by decide) (fun h29 => ?_) (fun h29 => ?_)
      · skip
        have f_ : okJ sg n tLL tLM k 2 = false := h29
        refine j_w (w2 := (MT D M u m n it sg (npp sg n k 2) (vaN sg n k va 2)) ++ (AR D (M 8) 120 sg) ++ (AR D (M 9) 10 (rdN sg n k rd 2))) (by rw [if_neg (nBool h29)]) ?_
        refine j_iconst (v := nI 0) dX5_readsLetter_47 (by decide) ?_
        refine j_istore_n (lv2 := [(0, .ref (M 0)), (1, .int (nI 0))]) dX5_readsLetter_48 (by decide) [1, 0] rfl ?_
        refine j_iload_n dX5_readsLetter_49 1 rfl ?_
        refine j_if_eq_N (tgt := 92) dX5_readsLetter_50 (by decide) (by omega) (fun h50 => ?_) (fun h50 => absurd rfl h50)
        refine j_iconst (v := nI 0) dX5_readsLetter_92 (by decide) ?_
        refine j_istore_n (lv2 := [(0, .ref (M 0)), (1, .int (nI 0))]) dX5_readsLetter_93 (by decide) [1, 0] rfl ?_
        refine j_iload_n dX5_readsLetter_94 1 rfl ?_
        refine j_if_eq_N (tgt := 139) dX5_readsLetter_95 (by decide) (by omega) (fun h95 => ?_) (fun h95 => absurd rfl h95)
        refine j_iconst (v := nI 0) dX5_readsLetter_139 (by decide) ?_
        exact j_zret dX5_readsLetter_140 (rfl) ⟨rfl, rfl⟩ ⟨2, false, rfl, rfl, Or.inr ⟨rfl, by decide, a2, f_⟩⟩
      · skip
        have a3 := all_s a2 (show okJ sg n tLL tLM k 2 = true from h29)
        refine j_w (w2 := (MT D M u m n it sg (npp sg n k 3) (vaN sg n k va 3)) ++ (AR D (M 8) 120 sg) ++ (AR D (M 9) 10 (rdN sg n k rd 3))) (by rw [if_pos h29]) ?_
        refine j_aload_n dX5_readsLetter_32 0 rfl ?_
        refine j_iconst (v := nI 3) dX5_readsLetter_33 (by decide) ?_
        refine j_iconst (v := nI 1) dX5_readsLetter_34 (by decide) ?_
        refine j_bipush (v := nI 16) dX5_readsLetter_35 (by decide) ?_
        refine j_V (w2 := (MT D M u m n it sg (npp sg n k (if rdk sg n (sk sg n (npp sg n k 3)) (nI 1) (nI 16) = true then 3 + 1 else 3)) (vaN sg n k va (if rdk sg n (sk sg n (npp sg n k 3)) (nI 1) (nI 16) = true then 3 + 1 else 3))) ++ (AR D (M 8) 120 sg) ++ (AR D (M 9) 10 (rdN sg n k rd (if rdk sg n (sk sg n (npp sg n k 3)) (nI 1) (nI 16) = true then 3 + 1 else 3)))) (st2 := [.int (bI (rdk sg n (sk sg n (npp sg n k 3)) (nI 1) (nI 16)))]) (c_X5_reads M u m n k it va sg rd hn hk hs 3 (by decide) (nI 1) (nI 16)) rfl cw_X5_68 dX5_readsLetter_37 [] rfl [0, 1, 2] rfl rfl rfl 5 ?_ ⟨rfl, ⟨Nat.le_of_ble_eq_true rfl, Nat.le_of_ble_eq_true rfl⟩, ⟨rfl, rfl⟩, ⟨Nat.le_of_ble_eq_true rfl, Nat.le_of_ble_eq_true rfl⟩, Nat.le_of_ble_eq_true rfl, rfl, rfl⟩ rfl rfl rfl
        refine j_if_eq_B (tgt := 47) dX5_readsLetter_40 (by decide) (fun h40 => ?_) (fun h40 => ?_)
        · skip
          have f_ : okJ sg n tLL tLM k 3 = false := h40
          refine j_w (w2 := (MT D M u m n it sg (npp sg n k 3) (vaN sg n k va 3)) ++ (AR D (M 8) 120 sg) ++ (AR D (M 9) 10 (rdN sg n k rd 3))) (by rw [if_neg (nBool h40)]) ?_
          refine j_iconst (v := nI 0) dX5_readsLetter_47 (by decide) ?_
          refine j_istore_n (lv2 := [(0, .ref (M 0)), (1, .int (nI 0))]) dX5_readsLetter_48 (by decide) [1, 0] rfl ?_
          refine j_iload_n dX5_readsLetter_49 1 rfl ?_
          refine j_if_eq_N (tgt := 92) dX5_readsLetter_50 (by decide) (by omega) (fun h50 => ?_) (fun h50 => absurd rfl h50)
          refine j_iconst (v := nI 0) dX5_readsLetter_92 (by decide) ?_
          refine j_istore_n (lv2 := [(0, .ref (M 0)), (1, .int (nI 0))]) dX5_readsLetter_93 (by decide) [1, 0] rfl ?_
          refine j_iload_n dX5_readsLetter_94 1 rfl ?_
          refine j_if_eq_N (tgt := 139) dX5_readsLetter_95 (by decide) (by omega) (fun h95 => ?_) (fun h95 => absurd rfl h95)
          refine j_iconst (v := nI 0) dX5_readsLetter_139 (by decide) ?_
          exact j_zret dX5_readsLetter_140 (rfl) ⟨rfl, rfl⟩ ⟨3, false, rfl, rfl, Or.inr ⟨rfl, by decide, a3, f_⟩⟩
        · skip
          have a4 := all_s a3 (show okJ sg n tLL tLM k 3 = true from h40)
          refine j_w (w2 := (MT D M u m n it sg (npp sg n k 4) (vaN sg n k va 4)) ++ (AR D (M 8) 120 sg) ++ (AR D (M 9) 10 (rdN sg n k rd 4))) (by rw [if_pos h40]) ?_
          refine j_iconst (v := nI 1) dX5_readsLetter_43 (by decide) ?_
          refine j_goto (tgt := 48) dX5_readsLetter_44 (by decide) ?_
          refine j_istore_n (lv2 := [(0, .ref (M 0)), (1, .int (nI 1))]) dX5_readsLetter_48 (by decide) [1, 0] rfl ?_
          refine j_iload_n dX5_readsLetter_49 1 rfl ?_
          refine j_if_eq_N (tgt := 92) dX5_readsLetter_50 (by decide) (by omega) (fun h50 => absurd h50 (by decide)) (fun h50 => ?_)
          refine j_aload_n dX5_readsLetter_53 0 rfl ?_
          refine j_iconst (v := nI 4) dX5_readsLetter_54 (by decide) ?_
          refine j_bipush (v := (-9)) dX5_readsLetter_55 (by decide) ?_
          refine j_bipush (v := nI 9) dX5_readsLetter_57 (by decide) ?_
          refine j_V (w2 := (MT D M u m n it sg (npp sg n k (if rdk sg n (sk sg n (npp sg n k 4)) (-9) (nI 9) = true then 4 + 1 else 4)) (vaN sg n k va (if rdk sg n (sk sg n (npp sg n k 4)) (-9) (nI 9) = true then 4 + 1 else 4))) ++ (AR D (M 8) 120 sg) ++ (AR D (M 9) 10 (rdN sg n k rd (if rdk sg n (sk sg n (npp sg n k 4)) (-9) (nI 9) = true then 4 + 1 else 4)))) (st2 := [.int (bI (rdk sg n (sk sg n (npp sg n k 4)) (-9) (nI 9)))]) (c_X5_reads M u m n k it va sg rd hn hk hs 4 (by decide) (-9) (nI 9)) rfl cw_X5_68 dX5_readsLetter_59 [] rfl [0, 1, 2] rfl rfl rfl 5 ?_ ⟨rfl, ⟨Nat.le_of_ble_eq_true rfl, Nat.le_of_ble_eq_true rfl⟩, ⟨rfl, rfl⟩, ⟨Nat.le_of_ble_eq_true rfl, Nat.le_of_ble_eq_true rfl⟩, Nat.le_of_ble_eq_true rfl, rfl, rfl⟩ rfl rfl rfl
          refine j_if_eq_B (tgt := 92) dX5_readsLetter_62 (by decide) (fun h62 => ?_) (fun h62 => ?_)
          · skip
            have f_ : okJ sg n tLL tLM k 4 = false := h62
            refine j_w (w2 := (MT D M u m n it sg (npp sg n k 4) (vaN sg n k va 4)) ++ (AR D (M 8) 120 sg) ++ (AR D (M 9) 10 (rdN sg n k rd 4))) (by rw [if_neg (nBool h62)]) ?_
            refine j_iconst (v := nI 0) dX5_readsLetter_92 (by decide) ?_
            refine j_istore_n (lv2 := [(0, .ref (M 0)), (1, .int (nI 0))]) dX5_readsLetter_93 (by decide) [1, 0] rfl ?_
            refine j_iload_n dX5_readsLetter_94 1 rfl ?_
            refine j_if_eq_N (tgt := 139) dX5_readsLetter_95 (by decide) (by omega) (fun h95 => ?_) (fun h95 => absurd rfl h95)
            refine j_iconst (v := nI 0) dX5_readsLetter_139 (by decide) ?_
            exact j_zret dX5_readsLetter_140 (rfl) ⟨rfl, rfl⟩ ⟨4, false, rfl, rfl, Or.inr ⟨rfl, by decide, a4, f_⟩⟩
          · skip
            have a5 := all_s a4 (show okJ sg n tLL tLM k 4 = true from h62)
            refine j_w (w2 := (MT D M u m n it sg (npp sg n k 5) (vaN sg n k va 5)) ++ (AR D (M 8) 120 sg) ++ (AR D (M 9) 10 (rdN sg n k rd 5))) (by rw [if_pos h62]) ?_
            refine j_aload_n dX5_readsLetter_65 0 rfl ?_
            refine j_iconst (v := nI 5) dX5_readsLetter_66 (by decide) ?_
            refine j_bipush (v := (-9)) dX5_readsLetter_67 (by decide) ?_
            refine j_bipush (v := nI 9) dX5_readsLetter_69 (by decide) ?_
            refine j_V (w2 := (MT D M u m n it sg (npp sg n k (if rdk sg n (sk sg n (npp sg n k 5)) (-9) (nI 9) = true then 5 + 1 else 5)) (vaN sg n k va (if rdk sg n (sk sg n (npp sg n k 5)) (-9) (nI 9) = true then 5 + 1 else 5))) ++ (AR D (M 8) 120 sg) ++ (AR D (M 9) 10 (rdN sg n k rd (if rdk sg n (sk sg n (npp sg n k 5)) (-9) (nI 9) = true then 5 + 1 else 5)))) (st2 := [.int (bI (rdk sg n (sk sg n (npp sg n k 5)) (-9) (nI 9)))]) (c_X5_reads M u m n k it va sg rd hn hk hs 5 (by decide) (-9) (nI 9)) rfl cw_X5_68 dX5_readsLetter_71 [] rfl [0, 1, 2] rfl rfl rfl 5 ?_ ⟨rfl, ⟨Nat.le_of_ble_eq_true rfl, Nat.le_of_ble_eq_true rfl⟩, ⟨rfl, rfl⟩, ⟨Nat.le_of_ble_eq_true rfl, Nat.le_of_ble_eq_true rfl⟩, Nat.le_of_ble_eq_true rfl, rfl, rfl⟩ rfl rfl rfl
            refine j_if_eq_B (tgt := 92) dX5_readsLetter_74 (by decide) (fun h74 => ?_) (fun h74 => ?_)
            · skip
              have f_ : okJ sg n tLL tLM k 5 = false := h74
              refine j_w (w2 := (MT D M u m n it sg (npp sg n k 5) (vaN sg n k va 5)) ++ (AR D (M 8) 120 sg) ++ (AR D (M 9) 10 (rdN sg n k rd 5))) (by rw [if_neg (nBool h74)]) ?_
              refine j_iconst (v := nI 0) dX5_readsLetter_92 (by decide) ?_
              refine j_istore_n (lv2 := [(0, .ref (M 0)), (1, .int (nI 0))]) dX5_readsLetter_93 (by decide) [1, 0] rfl ?_
              refine j_iload_n dX5_readsLetter_94 1 rfl ?_
              refine j_if_eq_N (tgt := 139) dX5_readsLetter_95 (by decide) (by omega) (fun h95 => ?_) (fun h95 => absurd rfl h95)
              refine j_iconst (v := nI 0) dX5_readsLetter_139 (by decide) ?_
              exact j_zret dX5_readsLetter_140 (rfl) ⟨rfl, rfl⟩ ⟨5, false, rfl, rfl, Or.inr ⟨rfl, by decide, a5, f_⟩⟩
            · skip
              have a6 := all_s a5 (show okJ sg n tLL tLM k 5 = true from h74)
              refine j_w (w2 := (MT D M u m n it sg (npp sg n k 6) (vaN sg n k va 6)) ++ (AR D (M 8) 120 sg) ++ (AR D (M 9) 10 (rdN sg n k rd 6))) (by rw [if_pos h74]) ?_
              refine j_aload_n dX5_readsLetter_77 0 rfl ?_
              refine j_bipush (v := nI 6) dX5_readsLetter_78 (by decide) ?_
              refine j_iconst (v := nI 1) dX5_readsLetter_80 (by decide) ?_
              refine j_iconst (v := nI 4) dX5_readsLetter_81 (by decide) ?_
              refine j_V (w2 := (MT D M u m n it sg (npp sg n k (if rdk sg n (sk sg n (npp sg n k 6)) (nI 1) (nI 4) = true then 6 + 1 else 6)) (vaN sg n k va (if rdk sg n (sk sg n (npp sg n k 6)) (nI 1) (nI 4) = true then 6 + 1 else 6))) ++ (AR D (M 8) 120 sg) ++ (AR D (M 9) 10 (rdN sg n k rd (if rdk sg n (sk sg n (npp sg n k 6)) (nI 1) (nI 4) = true then 6 + 1 else 6)))) (st2 := [.int (bI (rdk sg n (sk sg n (npp sg n k 6)) (nI 1) (nI 4)))]) (c_X5_reads M u m n k it va sg rd hn hk hs 6 (by decide) (nI 1) (nI 4)) rfl cw_X5_68 dX5_readsLetter_82 [] rfl [0, 1, 2] rfl rfl rfl 5 ?_ ⟨rfl, ⟨Nat.le_of_ble_eq_true rfl, Nat.le_of_ble_eq_true rfl⟩, ⟨rfl, rfl⟩, ⟨Nat.le_of_ble_eq_true rfl, Nat.le_of_ble_eq_true rfl⟩, Nat.le_of_ble_eq_true rfl, rfl, rfl⟩ rfl rfl rfl
              refine j_if_eq_B (tgt := 92) dX5_readsLetter_85 (by decide) (fun h85 => ?_) (fun h85 => ?_)
              · skip
                have f_ : okJ sg n tLL tLM k 6 = false := h85
                refine j_w (w2 := (MT D M u m n it sg (npp sg n k 6) (vaN sg n k va 6)) ++ (AR D (M 8) 120 sg) ++ (AR D (M 9) 10 (rdN sg n k rd 6))) (by rw [if_neg (nBool h85)]) ?_
                refine j_iconst (v := nI 0) dX5_readsLetter_92 (by decide) ?_
                refine j_istore_n (lv2 := [(0, .ref (M 0)), (1, .int (nI 0))]) dX5_readsLetter_93 (by decide) [1, 0] rfl ?_
                refine j_iload_n dX5_readsLetter_94 1 rfl ?_
                refine j_if_eq_N (tgt := 139) dX5_readsLetter_95 (by decide) (by omega) (fun h95 => ?_) (fun h95 => absurd rfl h95)
                refine j_iconst (v := nI 0) dX5_readsLetter_139 (by decide) ?_
                exact j_zret dX5_readsLetter_140 (rfl) ⟨rfl, rfl⟩ ⟨6, false, rfl, rfl, Or.inr ⟨rfl, by decide, a6, f_⟩⟩
              · skip
                have a7 := all_s a6 (show okJ sg n tLL tLM k 6 = true from h85)
                refine j_w (w2 := (MT D M u m n it sg (npp sg n k 7) (vaN sg n k va 7)) ++ (AR D (M 8) 120 sg) ++ (AR D (M 9) 10 (rdN sg n k rd 7))) (by rw [if_pos h85]) ?_
                refine j_iconst (v := nI 1) dX5_readsLetter_88 (by decide) ?_
                refine j_goto (tgt := 93) dX5_readsLetter_89 (by decide) ?_
                refine j_istore_n (lv2 := [(0, .ref (M 0)), (1, .int (nI 1))]) dX5_readsLetter_93 (by decide) [1, 0] rfl ?_
                refine j_iload_n dX5_readsLetter_94 1 rfl ?_
                refine j_if_eq_N (tgt := 139) dX5_readsLetter_95 (by decide) (by omega) (fun h95 => absurd h95 (by decide)) (fun h95 => ?_)
                refine j_aload_n dX5_readsLetter_98 0 rfl ?_
                refine j_bipush (v := nI 7) dX5_readsLetter_99 (by decide) ?_
                refine j_bipush (v := (-20)) dX5_readsLetter_101 (by decide) ?_
                refine j_bipush (v := nI 20) dX5_readsLetter_103 (by decide) ?_
                refine j_V (w2 := (MT D M u m n it sg (npp sg n k (if rdk sg n (sk sg n (npp sg n k 7)) (-20) (nI 20) = true then 7 + 1 else 7)) (vaN sg n k va (if rdk sg n (sk sg n (npp sg n k 7)) (-20) (nI 20) = true then 7 + 1 else 7))) ++ (AR D (M 8) 120 sg) ++ (AR D (M 9) 10 (rdN sg n k rd (if rdk sg n (sk sg n (npp sg n k 7)) (-20) (nI 20) = true then 7 + 1 else 7)))) (st2 := [.int (bI (rdk sg n (sk sg n (npp sg n k 7)) (-20) (nI 20)))]) (c_X5_reads M u m n k it va sg rd hn hk hs 7 (by decide) (-20) (nI 20)) rfl cw_X5_68 dX5_readsLetter_105 [] rfl [0, 1, 2] rfl rfl rfl 5 ?_ ⟨rfl, ⟨Nat.le_of_ble_eq_true rfl, Nat.le_of_ble_eq_true rfl⟩, ⟨rfl, rfl⟩, ⟨Nat.le_of_ble_eq_true rfl, Nat.le_of_ble_eq_true rfl⟩, Nat.le_of_ble_eq_true rfl, rfl, rfl⟩ rfl rfl rfl
                refine j_if_eq_B (tgt := 139) dX5_readsLetter_108 (by decide) (fun h108 => ?_) (fun h108 => ?_)
                · skip
                  have f_ : okJ sg n tLL tLM k 7 = false := h108
                  refine j_w (w2 := (MT D M u m n it sg (npp sg n k 7) (vaN sg n k va 7)) ++ (AR D (M 8) 120 sg) ++ (AR D (M 9) 10 (rdN sg n k rd 7))) (by rw [if_neg (nBool h108)]) ?_
                  refine j_iconst (v := nI 0) dX5_readsLetter_139 (by decide) ?_
                  exact j_zret dX5_readsLetter_140 (rfl) ⟨rfl, rfl⟩ ⟨7, false, rfl, rfl, Or.inr ⟨rfl, by decide, a7, f_⟩⟩
                · skip
                  have a8 := all_s a7 (show okJ sg n tLL tLM k 7 = true from h108)
                  refine j_w (w2 := (MT D M u m n it sg (npp sg n k 8) (vaN sg n k va 8)) ++ (AR D (M 8) 120 sg) ++ (AR D (M 9) 10 (rdN sg n k rd 8))) (by rw [if_pos h108]) ?_
                  refine j_aload_n dX5_readsLetter_111 0 rfl ?_
                  refine j_bipush (v := nI 8) dX5_readsLetter_112 (by decide) ?_
                  refine j_bipush (v := (-20)) dX5_readsLetter_114 (by decide) ?_
                  refine j_bipush (v := nI 20) dX5_readsLetter_116 (by decide) ?_
                  refine j_V (w2 := (MT D M u m n it sg (npp sg n k (if rdk sg n (sk sg n (npp sg n k 8)) (-20) (nI 20) = true then 8 + 1 else 8)) (vaN sg n k va (if rdk sg n (sk sg n (npp sg n k 8)) (-20) (nI 20) = true then 8 + 1 else 8))) ++ (AR D (M 8) 120 sg) ++ (AR D (M 9) 10 (rdN sg n k rd (if rdk sg n (sk sg n (npp sg n k 8)) (-20) (nI 20) = true then 8 + 1 else 8)))) (st2 := [.int (bI (rdk sg n (sk sg n (npp sg n k 8)) (-20) (nI 20)))]) (c_X5_reads M u m n k it va sg rd hn hk hs 8 (by decide) (-20) (nI 20)) rfl cw_X5_68 dX5_readsLetter_118 [] rfl [0, 1, 2] rfl rfl rfl 5 ?_ ⟨rfl, ⟨Nat.le_of_ble_eq_true rfl, Nat.le_of_ble_eq_true rfl⟩, ⟨rfl, rfl⟩, ⟨Nat.le_of_ble_eq_true rfl, Nat.le_of_ble_eq_true rfl⟩, Nat.le_of_ble_eq_true rfl, rfl, rfl⟩ rfl rfl rfl
                  refine j_if_eq_B (tgt := 139) dX5_readsLetter_121 (by decide) (fun h121 => ?_) (fun h121 => ?_)
                  · skip
                    have f_ : okJ sg n tLL tLM k 8 = false := h121
                    refine j_w (w2 := (MT D M u m n it sg (npp sg n k 8) (vaN sg n k va 8)) ++ (AR D (M 8) 120 sg) ++ (AR D (M 9) 10 (rdN sg n k rd 8))) (by rw [if_neg (nBool h121)]) ?_
                    refine j_iconst (v := nI 0) dX5_readsLetter_139 (by decide) ?_
                    exact j_zret dX5_readsLetter_140 (rfl) ⟨rfl, rfl⟩ ⟨8, false, rfl, rfl, Or.inr ⟨rfl, by decide, a8, f_⟩⟩
                  · skip
                    have a9 := all_s a8 (show okJ sg n tLL tLM k 8 = true from h121)
                    refine j_w (w2 := (MT D M u m n it sg (npp sg n k 9) (vaN sg n k va 9)) ++ (AR D (M 8) 120 sg) ++ (AR D (M 9) 10 (rdN sg n k rd 9))) (by rw [if_pos h121]) ?_
                    refine j_aload_n dX5_readsLetter_124 0 rfl ?_
                    refine j_bipush (v := nI 9) dX5_readsLetter_125 (by decide) ?_
                    refine j_iconst (v := nI 0) dX5_readsLetter_127 (by decide) ?_
                    refine j_iconst (v := nI 1) dX5_readsLetter_128 (by decide) ?_
                    refine j_V (w2 := (MT D M u m n it sg (npp sg n k (if rdk sg n (sk sg n (npp sg n k 9)) (nI 0) (nI 1) = true then 9 + 1 else 9)) (vaN sg n k va (if rdk sg n (sk sg n (npp sg n k 9)) (nI 0) (nI 1) = true then 9 + 1 else 9))) ++ (AR D (M 8) 120 sg) ++ (AR D (M 9) 10 (rdN sg n k rd (if rdk sg n (sk sg n (npp sg n k 9)) (nI 0) (nI 1) = true then 9 + 1 else 9)))) (st2 := [.int (bI (rdk sg n (sk sg n (npp sg n k 9)) (nI 0) (nI 1)))]) (c_X5_reads M u m n k it va sg rd hn hk hs 9 (by decide) (nI 0) (nI 1)) rfl cw_X5_68 dX5_readsLetter_129 [] rfl [0, 1, 2] rfl rfl rfl 5 ?_ ⟨rfl, ⟨Nat.le_of_ble_eq_true rfl, Nat.le_of_ble_eq_true rfl⟩, ⟨rfl, rfl⟩, ⟨Nat.le_of_ble_eq_true rfl, Nat.le_of_ble_eq_true rfl⟩, Nat.le_of_ble_eq_true rfl, rfl, rfl⟩ rfl rfl rfl
                    refine j_if_eq_B (tgt := 139) dX5_readsLetter_132 (by decide) (fun h132 => ?_) (fun h132 => ?_)
                    · skip
                      have f_ : okJ sg n tLL tLM k 9 = false := h132
                      refine j_w (w2 := (MT D M u m n it sg (npp sg n k 9) (vaN sg n k va 9)) ++ (AR D (M 8) 120 sg) ++ (AR D (M 9) 10 (rdN sg n k rd 9))) (by rw [if_neg (nBool h132)]) ?_
                      refine j_iconst (v := nI 0) dX5_readsLetter_139 (by decide) ?_
                      exact j_zret dX5_readsLetter_140 (rfl) ⟨rfl, rfl⟩ ⟨9, false, rfl, rfl, Or.inr ⟨rfl, by decide, a9, f_⟩⟩
                    · skip
                      have a10 := all_s a9 (show okJ sg n tLL tLM k 9 = true from h132)
                      refine j_w (w2 := (MT D M u m n it sg (npp sg n k 10) (vaN sg n k va 10)) ++ (AR D (M 8) 120 sg) ++ (AR D (M 9) 10 (rdN sg n k rd 10))) (by rw [if_pos h132]) ?_
                      refine j_iconst (v := nI 1) dX5_readsLetter_135 (by decide) ?_
                      refine j_goto (tgt := 140) dX5_readsLetter_136 (by decide) ?_
                      exact j_zret dX5_readsLetter_140 (rfl) ⟨rfl, rfl⟩ ⟨10, true, rfl, rfl, Or.inl ⟨rfl, rfl, a10⟩⟩

set_option maxHeartbeats 4000000 in
set_option maxRecDepth 100000 in
theorem c_X5_readsItem_l (M : Nat → Nat) (u m n p pl it : Nat) (to va : Int32) (sg rd : SS) (hn : n ≤ 120) (hp : p < n) (hs : SgOk sg n) (hx : sg p = nI 108) : Ct D yX5_readsItem cX5_readsItem 3 (some .boolean) ({ frames := 6, cells := 0, slots := 0, locals := 132 } : Room) [.ref (M 0), .int (nI 108)] ((MQx D M u m n (p + 1) pl it to va) ++ (AR D (M 8) 120 sg) ++ (AR D (M 9) 10 rd)) (fun v_ u_ => v_ = some (.int (bI (itR sg n p).1)) ∧ ∃ e : Nat, u_ = (MT D M u m n it sg (npp sg n (p + 1) e) (vaN sg n (p + 1) va e)) ++ (AR D (M 8) 120 sg) ++ (AR D (M 9) 10 (rdN sg n (p + 1) rd e)) ∧ RI sg n p e) := by
  refine ct_of (by decide) (Nat.le_of_ble_eq_true rfl) (lv0 := [(0, .ref (M 0)), (1, .int (nI 108))]) rfl (fun Γ => ?_)
  refine j_aload_n dX5_readsItem_0 0 rfl ?_
  refine j_V (w2 := (MT D M u m n it sg (p + 1) va) ++ (AR D (M 8) 120 sg) ++ (AR D (M 9) 10 rd)) (st2 := []) (c_X5_takes M u m n (p + 1) pl it to va sg (by omega) (hp)) rfl cw_X5_65 dX5_readsItem_1 [] rfl [0, 1] rfl rfl rfl 5 ?_ ⟨rfl, ⟨Nat.le_of_ble_eq_true rfl, Nat.le_of_ble_eq_true rfl⟩, ⟨rfl, rfl⟩, ⟨Nat.le_of_ble_eq_true rfl, Nat.le_of_ble_eq_true rfl⟩, Nat.le_of_ble_eq_true rfl, rfl, rfl⟩ rfl rfl rfl
  refine j_w (w2 := (MT D M u m n it sg (npp sg n (p + 1) 0) (vaN sg n (p + 1) va 0)) ++ (AR D (M 8) 120 sg) ++ (AR D (M 9) 10 (rdN sg n (p + 1) rd 0))) (rfl) ?_
  refine j_iconst (v := nI 0) dX5_readsItem_4 (by decide) ?_
  refine j_istore_n (lv2 := [(0, .ref (M 0)), (1, .int (nI 108)), (2, .int (nI 0))]) dX5_readsItem_5 (by decide) [1, 2, 0] rfl ?_
  refine j_iload_n dX5_readsItem_6 1 rfl ?_
  refine j_bipush (v := nI 108) dX5_readsItem_7 (by decide) ?_
  refine j_icmp_ne_N (tgt := 20) dX5_readsItem_9 (by decide) ⟨by omega, by omega⟩ (fun h9 => absurd rfl h9) (fun h9 => ?_)
  refine j_aload_n dX5_readsItem_12 0 rfl ?_
  refine j_callV (c_X5_readsLetter M u m n (p + 1) it va sg rd hn hp hs) rfl cw_X5_71 rfl ⟨Nat.le_of_ble_eq_true rfl, Nat.le_of_ble_eq_true rfl⟩ ⟨rfl, rfl⟩ ⟨Nat.le_of_ble_eq_true rfl, Nat.le_of_ble_eq_true rfl⟩ dX5_readsItem_13 (rest := []) rfl (Nat.le_of_ble_eq_true rfl) [0, 1, 2] rfl rfl 5 0 rfl rfl rfl (fun v_ w_ hf_ => ?_)
  obtain ⟨e, b, rfl, rfl, hr⟩ := hf_
  refine ⟨rfl, ?_⟩
  refine j_ws (w2 := (MT D M u m n it sg (npp sg n (p + 1) e) (vaN sg n (p + 1) va e)) ++ (AR D (M 8) 120 sg) ++ (AR D (M 9) 10 (rdN sg n (p + 1) rd e))) (st2 := [.int (bI b)]) rfl rfl ?_
  refine j_istore_n (lv2 := [(0, .ref (M 0)), (1, .int (nI 108)), (2, .int (bI b))]) dX5_readsItem_16 (by decide) [1, 2, 0] rfl ?_
  refine j_goto (tgt := 95) dX5_readsItem_17 (by decide) ?_
  refine j_iload_n dX5_readsItem_95 2 rfl ?_
  refine j_if_eq_B (tgt := 112) dX5_readsItem_96 (by decide) (fun h96 => ?_) (fun h96 => ?_)
  · skip
    refine j_iconst (v := nI 0) dX5_readsItem_112 (by decide) ?_
    exact j_zret dX5_readsItem_113 (rfl) ⟨rfl, rfl⟩ ⟨rv_f (RI_f (itR_e108 hx) hr h96).1, e, rfl, (RI_f (itR_e108 hx) hr h96).2⟩
  · skip
    refine j_aload_n dX5_readsItem_99 0 rfl ?_
    refine g_X5_53 rfl dX5_readsItem_100 0 rfl rfl ?_
    refine j_bipush (v := nI 59) dX5_readsItem_103 (by decide) ?_
    refine j_icmp_ne (tgt := 112) dX5_readsItem_105 (by decide) (fun h105 => ?_) (fun h105 => ?_)
    · skip
      refine j_iconst (v := nI 0) dX5_readsItem_112 (by decide) ?_
      exact j_zret dX5_readsItem_113 (rfl) ⟨rfl, rfl⟩ ⟨rv_f (RI_n (itR_e108 hx) hr h96 h105).1, e, rfl, (RI_n (itR_e108 hx) hr h96 h105).2⟩
    · skip
      refine j_iconst (v := nI 1) dX5_readsItem_108 (by decide) ?_
      refine j_goto (tgt := 113) dX5_readsItem_109 (by decide) ?_
      exact j_zret dX5_readsItem_113 (rfl) ⟨rfl, rfl⟩ ⟨rv_t (RI_y (itR_e108 hx) (by rw [hx]; rfl) hr h96 h105).1, e, rfl, (RI_y (itR_e108 hx) (by rw [hx]; rfl) hr h96 h105).2⟩

set_option maxHeartbeats 4000000 in
set_option maxRecDepth 100000 in
theorem c_X5_readsItem_f (M : Nat → Nat) (u m n p pl it : Nat) (to va : Int32) (sg rd : SS) (hn : n ≤ 120) (hp : p < n) (hs : SgOk sg n) (hx : sg p = nI 102) : Ct D yX5_readsItem cX5_readsItem 3 (some .boolean) ({ frames := 5, cells := 0, slots := 0, locals := 111 } : Room) [.ref (M 0), .int (nI 102)] ((MQx D M u m n (p + 1) pl it to va) ++ (AR D (M 8) 120 sg) ++ (AR D (M 9) 10 rd)) (fun v_ u_ => v_ = some (.int (bI (itR sg n p).1)) ∧ ∃ e : Nat, u_ = (MT D M u m n it sg (npp sg n (p + 1) e) (vaN sg n (p + 1) va e)) ++ (AR D (M 8) 120 sg) ++ (AR D (M 9) 10 (rdN sg n (p + 1) rd e)) ∧ RI sg n p e) := by
  have a0 := all_0 (sg := sg) (n := n) (lo := tFL) (hi := tFM) (k := p + 1)
  refine ct_of (by decide) (Nat.le_of_ble_eq_true rfl) (lv0 := [(0, .ref (M 0)), (1, .int (nI 102))]) rfl (fun Γ => ?_)
  refine j_aload_n dX5_readsItem_0 0 rfl ?_
  refine j_V (w2 := (MT D M u m n it sg (p + 1) va) ++ (AR D (M 8) 120 sg) ++ (AR D (M 9) 10 rd)) (st2 := []) (c_X5_takes M u m n (p + 1) pl it to va sg (by omega) (hp)) rfl cw_X5_65 dX5_readsItem_1 [] rfl [0, 1] rfl rfl rfl 5 ?_ ⟨rfl, ⟨Nat.le_of_ble_eq_true rfl, Nat.le_of_ble_eq_true rfl⟩, ⟨rfl, rfl⟩, ⟨Nat.le_of_ble_eq_true rfl, Nat.le_of_ble_eq_true rfl⟩, Nat.le_of_ble_eq_true rfl, rfl, rfl⟩ rfl rfl rfl
  refine j_w (w2 := (MT D M u m n it sg (npp sg n (p + 1) 0) (vaN sg n (p + 1) va 0)) ++ (AR D (M 8) 120 sg) ++ (AR D (M 9) 10 (rdN sg n (p + 1) rd 0))) (rfl) ?_
  refine j_iconst (v := nI 0) dX5_readsItem_4 (by decide) ?_
  refine j_istore_n (lv2 := [(0, .ref (M 0)), (1, .int (nI 102)), (2, .int (nI 0))]) dX5_readsItem_5 (by decide) [1, 2, 0] rfl ?_
  refine j_iload_n dX5_readsItem_6 1 rfl ?_
  refine j_bipush (v := nI 108) dX5_readsItem_7 (by decide) ?_
  refine j_icmp_ne_N (tgt := 20) dX5_readsItem_9 (by decide) ⟨by omega, by omega⟩ (fun h9 => ?_) (fun h9 => absurd h9 (by decide))
  refine j_iload_n dX5_readsItem_20 1 rfl ?_
  refine j_bipush (v := nI 102) dX5_readsItem_21 (by decide) ?_
  refine j_icmp_ne_N (tgt := 58) dX5_readsItem_23 (by decide) ⟨by omega, by omega⟩ (fun h23 => absurd rfl h23) (fun h23 => ?_)
  refine j_aload_n dX5_readsItem_26 0 rfl ?_
  refine j_iconst (v := nI 0) dX5_readsItem_27 (by decide) ?_
  refine j_iconst (v := nI 0) dX5_readsItem_28 (by decide) ?_
  refine j_bipush (v := nI 63) dX5_readsItem_29 (by decide) ?_
  refine j_V (w2 := (MT D M u m n it sg (npp sg n (p + 1) (if rdk sg n (sk sg n (npp sg n (p + 1) 0)) (nI 0) (nI 63) = true then 0 + 1 else 0)) (vaN sg n (p + 1) va (if rdk sg n (sk sg n (npp sg n (p + 1) 0)) (nI 0) (nI 63) = true then 0 + 1 else 0))) ++ (AR D (M 8) 120 sg) ++ (AR D (M 9) 10 (rdN sg n (p + 1) rd (if rdk sg n (sk sg n (npp sg n (p + 1) 0)) (nI 0) (nI 63) = true then 0 + 1 else 0)))) (st2 := [.int (bI (rdk sg n (sk sg n (npp sg n (p + 1) 0)) (nI 0) (nI 63)))]) (c_X5_reads M u m n (p + 1) it va sg rd hn hp hs 0 (by decide) (nI 0) (nI 63)) rfl cw_X5_68 dX5_readsItem_31 [] rfl [0, 1, 2] rfl rfl rfl 5 ?_ ⟨rfl, ⟨Nat.le_of_ble_eq_true rfl, Nat.le_of_ble_eq_true rfl⟩, ⟨rfl, rfl⟩, ⟨Nat.le_of_ble_eq_true rfl, Nat.le_of_ble_eq_true rfl⟩, Nat.le_of_ble_eq_true rfl, rfl, rfl⟩ rfl rfl rfl
  refine j_if_eq_B (tgt := 53) dX5_readsItem_34 (by decide) (fun h34 => ?_) (fun h34 => ?_)
  · skip
    have f_ : okJ sg n tFL tFM (p + 1) 0 = false := h34
    refine j_w (w2 := (MT D M u m n it sg (npp sg n (p + 1) 0) (vaN sg n (p + 1) va 0)) ++ (AR D (M 8) 120 sg) ++ (AR D (M 9) 10 (rdN sg n (p + 1) rd 0))) (by rw [if_neg (nBool h34)]) ?_
    refine j_iconst (v := nI 0) dX5_readsItem_53 (by decide) ?_
    refine j_istore_n (lv2 := [(0, .ref (M 0)), (1, .int (nI 102)), (2, .int (nI 0))]) dX5_readsItem_54 (by decide) [1, 2, 0] rfl ?_
    refine j_goto (tgt := 95) dX5_readsItem_55 (by decide) ?_
    refine j_iload_n dX5_readsItem_95 2 rfl ?_
    refine j_if_eq_N (tgt := 112) dX5_readsItem_96 (by decide) (by omega) (fun h96 => ?_) (fun h96 => absurd rfl h96)
    refine j_iconst (v := nI 0) dX5_readsItem_112 (by decide) ?_
    exact j_zret dX5_readsItem_113 (rfl) ⟨rfl, rfl⟩ ⟨rv_f (RI_f (itR_e102 hx) (show RS sg n tFL tFM (p + 1) 2 0 false from Or.inr ⟨rfl, by decide, a0, f_⟩) rfl).1, 0, rfl, (RI_f (itR_e102 hx) (show RS sg n tFL tFM (p + 1) 2 0 false from Or.inr ⟨rfl, by decide, a0, f_⟩) rfl).2⟩
  · skip
    have a1 := all_s a0 (show okJ sg n tFL tFM (p + 1) 0 = true from h34)
    refine j_w (w2 := (MT D M u m n it sg (npp sg n (p + 1) 1) (vaN sg n (p + 1) va 1)) ++ (AR D (M 8) 120 sg) ++ (AR D (M 9) 10 (rdN sg n (p + 1) rd 1))) (by rw [if_pos h34]) ?_
    refine j_aload_n dX5_readsItem_37 0 rfl ?_
    refine j_iconst (v := nI 1) dX5_readsItem_38 (by decide) ?_
    refine j_iconst (v := nI 0) dX5_readsItem_39 (by decide) ?_
    refine j_sipush (v := nI 255) dX5_readsItem_40 (by decide) ?_
    refine j_V (w2 := (MT D M u m n it sg (npp sg n (p + 1) (if rdk sg n (sk sg n (npp sg n (p + 1) 1)) (nI 0) (nI 255) = true then 1 + 1 else 1)) (vaN sg n (p + 1) va (if rdk sg n (sk sg n (npp sg n (p + 1) 1)) (nI 0) (nI 255) = true then 1 + 1 else 1))) ++ (AR D (M 8) 120 sg) ++ (AR D (M 9) 10 (rdN sg n (p + 1) rd (if rdk sg n (sk sg n (npp sg n (p + 1) 1)) (nI 0) (nI 255) = true then 1 + 1 else 1)))) (st2 := [.int (bI (rdk sg n (sk sg n (npp sg n (p + 1) 1)) (nI 0) (nI 255)))]) (c_X5_reads M u m n (p + 1) it va sg rd hn hp hs 1 (by decide) (nI 0) (nI 255)) rfl cw_X5_68 dX5_readsItem_43 [] rfl [0, 1, 2] rfl rfl rfl 5 ?_ ⟨rfl, ⟨Nat.le_of_ble_eq_true rfl, Nat.le_of_ble_eq_true rfl⟩, ⟨rfl, rfl⟩, ⟨Nat.le_of_ble_eq_true rfl, Nat.le_of_ble_eq_true rfl⟩, Nat.le_of_ble_eq_true rfl, rfl, rfl⟩ rfl rfl rfl
    refine j_if_eq_B (tgt := 53) dX5_readsItem_46 (by decide) (fun h46 => ?_) (fun h46 => ?_)
    · skip
      have f_ : okJ sg n tFL tFM (p + 1) 1 = false := h46
      refine j_w (w2 := (MT D M u m n it sg (npp sg n (p + 1) 1) (vaN sg n (p + 1) va 1)) ++ (AR D (M 8) 120 sg) ++ (AR D (M 9) 10 (rdN sg n (p + 1) rd 1))) (by rw [if_neg (nBool h46)]) ?_
      refine j_iconst (v := nI 0) dX5_readsItem_53 (by decide) ?_
      refine j_istore_n (lv2 := [(0, .ref (M 0)), (1, .int (nI 102)), (2, .int (nI 0))]) dX5_readsItem_54 (by decide) [1, 2, 0] rfl ?_
      refine j_goto (tgt := 95) dX5_readsItem_55 (by decide) ?_
      refine j_iload_n dX5_readsItem_95 2 rfl ?_
      refine j_if_eq_N (tgt := 112) dX5_readsItem_96 (by decide) (by omega) (fun h96 => ?_) (fun h96 => absurd rfl h96)
      refine j_iconst (v := nI 0) dX5_readsItem_112 (by decide) ?_
      exact j_zret dX5_readsItem_113 (rfl) ⟨rfl, rfl⟩ ⟨rv_f (RI_f (itR_e102 hx) (show RS sg n tFL tFM (p + 1) 2 1 false from Or.inr ⟨rfl, by decide, a1, f_⟩) rfl).1, 1, rfl, (RI_f (itR_e102 hx) (show RS sg n tFL tFM (p + 1) 2 1 false from Or.inr ⟨rfl, by decide, a1, f_⟩) rfl).2⟩
    · skip
      have a2 := all_s a1 (show okJ sg n tFL tFM (p + 1) 1 = true from h46)
      refine j_w (w2 := (MT D M u m n it sg (npp sg n (p + 1) 2) (vaN sg n (p + 1) va 2)) ++ (AR D (M 8) 120 sg) ++ (AR D (M 9) 10 (rdN sg n (p + 1) rd 2))) (by rw [if_pos h46]) ?_
      refine j_iconst (v := nI 1) dX5_readsItem_49 (by decide) ?_
      refine j_goto (tgt := 54) dX5_readsItem_50 (by decide) ?_
      refine j_istore_n (lv2 := [(0, .ref (M 0)), (1, .int (nI 102)), (2, .int (nI 1))]) dX5_readsItem_54 (by decide) [1, 2, 0] rfl ?_
      refine j_goto (tgt := 95) dX5_readsItem_55 (by decide) ?_
      refine j_iload_n dX5_readsItem_95 2 rfl ?_
      refine j_if_eq_N (tgt := 112) dX5_readsItem_96 (by decide) (by omega) (fun h96 => absurd h96 (by decide)) (fun h96 => ?_)
      refine j_aload_n dX5_readsItem_99 0 rfl ?_
      refine g_X5_53 rfl dX5_readsItem_100 0 rfl rfl ?_
      refine j_bipush (v := nI 59) dX5_readsItem_103 (by decide) ?_
      refine j_icmp_ne (tgt := 112) dX5_readsItem_105 (by decide) (fun h105 => ?_) (fun h105 => ?_)
      · skip
        refine j_iconst (v := nI 0) dX5_readsItem_112 (by decide) ?_
        exact j_zret dX5_readsItem_113 (rfl) ⟨rfl, rfl⟩ ⟨rv_f (RI_n (itR_e102 hx) (show RS sg n tFL tFM (p + 1) 2 2 true from Or.inl ⟨rfl, rfl, a2⟩) rfl h105).1, 2, rfl, (RI_n (itR_e102 hx) (show RS sg n tFL tFM (p + 1) 2 2 true from Or.inl ⟨rfl, rfl, a2⟩) rfl h105).2⟩
      · skip
        refine j_iconst (v := nI 1) dX5_readsItem_108 (by decide) ?_
        refine j_goto (tgt := 113) dX5_readsItem_109 (by decide) ?_
        exact j_zret dX5_readsItem_113 (rfl) ⟨rfl, rfl⟩ ⟨rv_t (RI_y (itR_e102 hx) (by rw [hx]; rfl) (show RS sg n tFL tFM (p + 1) 2 2 true from Or.inl ⟨rfl, rfl, a2⟩) rfl h105).1, 2, rfl, (RI_y (itR_e102 hx) (by rw [hx]; rfl) (show RS sg n tFL tFM (p + 1) 2 2 true from Or.inl ⟨rfl, rfl, a2⟩) rfl h105).2⟩

set_option maxHeartbeats 4000000 in
set_option maxRecDepth 100000 in
theorem c_X5_readsItem_c (M : Nat → Nat) (u m n p pl it : Nat) (to va : Int32) (sg rd : SS) (hn : n ≤ 120) (hp : p < n) (hs : SgOk sg n) (hx : sg p = nI 99) : Ct D yX5_readsItem cX5_readsItem 3 (some .boolean) ({ frames := 5, cells := 0, slots := 0, locals := 111 } : Room) [.ref (M 0), .int (nI 99)] ((MQx D M u m n (p + 1) pl it to va) ++ (AR D (M 8) 120 sg) ++ (AR D (M 9) 10 rd)) (fun v_ u_ => v_ = some (.int (bI (itR sg n p).1)) ∧ ∃ e : Nat, u_ = (MT D M u m n it sg (npp sg n (p + 1) e) (vaN sg n (p + 1) va e)) ++ (AR D (M 8) 120 sg) ++ (AR D (M 9) 10 (rdN sg n (p + 1) rd e)) ∧ RI sg n p e) := by
  have a0 := all_0 (sg := sg) (n := n) (lo := tTL) (hi := tTM) (k := p + 1)
  refine ct_of (by decide) (Nat.le_of_ble_eq_true rfl) (lv0 := [(0, .ref (M 0)), (1, .int (nI 99))]) rfl (fun Γ => ?_)
  refine j_aload_n dX5_readsItem_0 0 rfl ?_
  refine j_V (w2 := (MT D M u m n it sg (p + 1) va) ++ (AR D (M 8) 120 sg) ++ (AR D (M 9) 10 rd)) (st2 := []) (c_X5_takes M u m n (p + 1) pl it to va sg (by omega) (hp)) rfl cw_X5_65 dX5_readsItem_1 [] rfl [0, 1] rfl rfl rfl 5 ?_ ⟨rfl, ⟨Nat.le_of_ble_eq_true rfl, Nat.le_of_ble_eq_true rfl⟩, ⟨rfl, rfl⟩, ⟨Nat.le_of_ble_eq_true rfl, Nat.le_of_ble_eq_true rfl⟩, Nat.le_of_ble_eq_true rfl, rfl, rfl⟩ rfl rfl rfl
  refine j_w (w2 := (MT D M u m n it sg (npp sg n (p + 1) 0) (vaN sg n (p + 1) va 0)) ++ (AR D (M 8) 120 sg) ++ (AR D (M 9) 10 (rdN sg n (p + 1) rd 0))) (rfl) ?_
  refine j_iconst (v := nI 0) dX5_readsItem_4 (by decide) ?_
  refine j_istore_n (lv2 := [(0, .ref (M 0)), (1, .int (nI 99)), (2, .int (nI 0))]) dX5_readsItem_5 (by decide) [1, 2, 0] rfl ?_
  refine j_iload_n dX5_readsItem_6 1 rfl ?_
  refine j_bipush (v := nI 108) dX5_readsItem_7 (by decide) ?_
  refine j_icmp_ne_N (tgt := 20) dX5_readsItem_9 (by decide) ⟨by omega, by omega⟩ (fun h9 => ?_) (fun h9 => absurd h9 (by decide))
  refine j_iload_n dX5_readsItem_20 1 rfl ?_
  refine j_bipush (v := nI 102) dX5_readsItem_21 (by decide) ?_
  refine j_icmp_ne_N (tgt := 58) dX5_readsItem_23 (by decide) ⟨by omega, by omega⟩ (fun h23 => ?_) (fun h23 => absurd h23 (by decide))
  refine j_aload_n dX5_readsItem_58 0 rfl ?_
  refine j_iconst (v := nI 0) dX5_readsItem_59 (by decide) ?_
  refine j_iconst (v := nI 0) dX5_readsItem_60 (by decide) ?_
  refine j_iconst (v := nI 3) dX5_readsItem_61 (by decide) ?_
  refine j_V (w2 := (MT D M u m n it sg (npp sg n (p + 1) (if rdk sg n (sk sg n (npp sg n (p + 1) 0)) (nI 0) (nI 3) = true then 0 + 1 else 0)) (vaN sg n (p + 1) va (if rdk sg n (sk sg n (npp sg n (p + 1) 0)) (nI 0) (nI 3) = true then 0 + 1 else 0))) ++ (AR D (M 8) 120 sg) ++ (AR D (M 9) 10 (rdN sg n (p + 1) rd (if rdk sg n (sk sg n (npp sg n (p + 1) 0)) (nI 0) (nI 3) = true then 0 + 1 else 0)))) (st2 := [.int (bI (rdk sg n (sk sg n (npp sg n (p + 1) 0)) (nI 0) (nI 3)))]) (c_X5_reads M u m n (p + 1) it va sg rd hn hp hs 0 (by decide) (nI 0) (nI 3)) rfl cw_X5_68 dX5_readsItem_62 [] rfl [0, 1, 2] rfl rfl rfl 5 ?_ ⟨rfl, ⟨Nat.le_of_ble_eq_true rfl, Nat.le_of_ble_eq_true rfl⟩, ⟨rfl, rfl⟩, ⟨Nat.le_of_ble_eq_true rfl, Nat.le_of_ble_eq_true rfl⟩, Nat.le_of_ble_eq_true rfl, rfl, rfl⟩ rfl rfl rfl
  refine j_if_eq_B (tgt := 93) dX5_readsItem_65 (by decide) (fun h65 => ?_) (fun h65 => ?_)
  · skip
    have f_ : okJ sg n tTL tTM (p + 1) 0 = false := h65
    refine j_w (w2 := (MT D M u m n it sg (npp sg n (p + 1) 0) (vaN sg n (p + 1) va 0)) ++ (AR D (M 8) 120 sg) ++ (AR D (M 9) 10 (rdN sg n (p + 1) rd 0))) (by rw [if_neg (nBool h65)]) ?_
    refine j_iconst (v := nI 0) dX5_readsItem_93 (by decide) ?_
    refine j_istore_n (lv2 := [(0, .ref (M 0)), (1, .int (nI 99)), (2, .int (nI 0))]) dX5_readsItem_94 (by decide) [1, 2, 0] rfl ?_
    refine j_iload_n dX5_readsItem_95 2 rfl ?_
    refine j_if_eq_N (tgt := 112) dX5_readsItem_96 (by decide) (by omega) (fun h96 => ?_) (fun h96 => absurd rfl h96)
    refine j_iconst (v := nI 0) dX5_readsItem_112 (by decide) ?_
    exact j_zret dX5_readsItem_113 (rfl) ⟨rfl, rfl⟩ ⟨rv_f (RI_f (itR_e99 hx) (show RS sg n tTL tTM (p + 1) 3 0 false from Or.inr ⟨rfl, by decide, a0, f_⟩) rfl).1, 0, rfl, (RI_f (itR_e99 hx) (show RS sg n tTL tTM (p + 1) 3 0 false from Or.inr ⟨rfl, by decide, a0, f_⟩) rfl).2⟩
  · skip
    have a1 := all_s a0 (show okJ sg n tTL tTM (p + 1) 0 = true from h65)
    refine j_w (w2 := (MT D M u m n it sg (npp sg n (p + 1) 1) (vaN sg n (p + 1) va 1)) ++ (AR D (M 8) 120 sg) ++ (AR D (M 9) 10 (rdN sg n (p + 1) rd 1))) (by rw [if_pos h65]) ?_
    refine j_aload_n dX5_readsItem_68 0 rfl ?_
    refine j_iconst (v := nI 1) dX5_readsItem_69 (by decide) ?_
    refine j_iconst (v := nI 0) dX5_readsItem_70 (by decide) ?_
    refine j_iconst (v := nI 3) dX5_readsItem_71 (by decide) ?_
    refine j_V (w2 := (MT D M u m n it sg (npp sg n (p + 1) (if rdk sg n (sk sg n (npp sg n (p + 1) 1)) (nI 0) (nI 3) = true then 1 + 1 else 1)) (vaN sg n (p + 1) va (if rdk sg n (sk sg n (npp sg n (p + 1) 1)) (nI 0) (nI 3) = true then 1 + 1 else 1))) ++ (AR D (M 8) 120 sg) ++ (AR D (M 9) 10 (rdN sg n (p + 1) rd (if rdk sg n (sk sg n (npp sg n (p + 1) 1)) (nI 0) (nI 3) = true then 1 + 1 else 1)))) (st2 := [.int (bI (rdk sg n (sk sg n (npp sg n (p + 1) 1)) (nI 0) (nI 3)))]) (c_X5_reads M u m n (p + 1) it va sg rd hn hp hs 1 (by decide) (nI 0) (nI 3)) rfl cw_X5_68 dX5_readsItem_72 [] rfl [0, 1, 2] rfl rfl rfl 5 ?_ ⟨rfl, ⟨Nat.le_of_ble_eq_true rfl, Nat.le_of_ble_eq_true rfl⟩, ⟨rfl, rfl⟩, ⟨Nat.le_of_ble_eq_true rfl, Nat.le_of_ble_eq_true rfl⟩, Nat.le_of_ble_eq_true rfl, rfl, rfl⟩ rfl rfl rfl
    refine j_if_eq_B (tgt := 93) dX5_readsItem_75 (by decide) (fun h75 => ?_) (fun h75 => ?_)
    · skip
      have f_ : okJ sg n tTL tTM (p + 1) 1 = false := h75
      refine j_w (w2 := (MT D M u m n it sg (npp sg n (p + 1) 1) (vaN sg n (p + 1) va 1)) ++ (AR D (M 8) 120 sg) ++ (AR D (M 9) 10 (rdN sg n (p + 1) rd 1))) (by rw [if_neg (nBool h75)]) ?_
      refine j_iconst (v := nI 0) dX5_readsItem_93 (by decide) ?_
      refine j_istore_n (lv2 := [(0, .ref (M 0)), (1, .int (nI 99)), (2, .int (nI 0))]) dX5_readsItem_94 (by decide) [1, 2, 0] rfl ?_
      refine j_iload_n dX5_readsItem_95 2 rfl ?_
      refine j_if_eq_N (tgt := 112) dX5_readsItem_96 (by decide) (by omega) (fun h96 => ?_) (fun h96 => absurd rfl h96)
      refine j_iconst (v := nI 0) dX5_readsItem_112 (by decide) ?_
      exact j_zret dX5_readsItem_113 (rfl) ⟨rfl, rfl⟩ ⟨rv_f (RI_f (itR_e99 hx) (show RS sg n tTL tTM (p + 1) 3 1 false from Or.inr ⟨rfl, by decide, a1, f_⟩) rfl).1, 1, rfl, (RI_f (itR_e99 hx) (show RS sg n tTL tTM (p + 1) 3 1 false from Or.inr ⟨rfl, by decide, a1, f_⟩) rfl).2⟩
    · skip
      have a2 := all_s a1 (show okJ sg n tTL tTM (p + 1) 1 = true from h75)
      refine j_w (w2 := (MT D M u m n it sg (npp sg n (p + 1) 2) (vaN sg n (p + 1) va 2)) ++ (AR D (M 8) 120 sg) ++ (AR D (M 9) 10 (rdN sg n (p + 1) rd 2))) (by rw [if_pos h75]) ?_
      refine j_aload_n dX5_readsItem_78 0 rfl ?_
      refine j_iconst (v := nI 2) dX5_readsItem_79 (by decide) ?_
      refine j_iconst (v := nI 1) dX5_readsItem_80 (by decide) ?_
      refine j_bipush (v := nI 8) dX5_readsItem_81 (by decide) ?_
      refine j_V (w2 := (MT D M u m n it sg (npp sg n (p + 1) (if rdk sg n (sk sg n (npp sg n (p + 1) 2)) (nI 1) (nI 8) = true then 2 + 1 else 2)) (vaN sg n (p + 1) va (if rdk sg n (sk sg n (npp sg n (p + 1) 2)) (nI 1) (nI 8) = true then 2 + 1 else 2))) ++ (AR D (M 8) 120 sg) ++ (AR D (M 9) 10 (rdN sg n (p + 1) rd (if rdk sg n (sk sg n (npp sg n (p + 1) 2)) (nI 1) (nI 8) = true then 2 + 1 else 2)))) (st2 := [.int (bI (rdk sg n (sk sg n (npp sg n (p + 1) 2)) (nI 1) (nI 8)))]) (c_X5_reads M u m n (p + 1) it va sg rd hn hp hs 2 (by decide) (nI 1) (nI 8)) rfl cw_X5_68 dX5_readsItem_83 [] rfl [0, 1, 2] rfl rfl rfl 5 ?_ ⟨rfl, ⟨Nat.le_of_ble_eq_true rfl, Nat.le_of_ble_eq_true rfl⟩, ⟨rfl, rfl⟩, ⟨Nat.le_of_ble_eq_true rfl, Nat.le_of_ble_eq_true rfl⟩, Nat.le_of_ble_eq_true rfl, rfl, rfl⟩ rfl rfl rfl
      refine j_if_eq_B (tgt := 93) dX5_readsItem_86 (by decide) (fun h86 => ?_) (fun h86 => ?_)
      · skip
        have f_ : okJ sg n tTL tTM (p + 1) 2 = false := h86
        refine j_w (w2 := (MT D M u m n it sg (npp sg n (p + 1) 2) (vaN sg n (p + 1) va 2)) ++ (AR D (M 8) 120 sg) ++ (AR D (M 9) 10 (rdN sg n (p + 1) rd 2))) (by rw [if_neg (nBool h86)]) ?_
        refine j_iconst (v := nI 0) dX5_readsItem_93 (by decide) ?_
        refine j_istore_n (lv2 := [(0, .ref (M 0)), (1, .int (nI 99)), (2, .int (nI 0))]) dX5_readsItem_94 (by decide) [1, 2, 0] rfl ?_
        refine j_iload_n dX5_readsItem_95 2 rfl ?_
        refine j_if_eq_N (tgt := 112) dX5_readsItem_96 (by decide) (by omega) (fun h96 => ?_) (fun h96 => absurd rfl h96)
        refine j_iconst (v := nI 0) dX5_readsItem_112 (by decide) ?_
        exact j_zret dX5_readsItem_113 (rfl) ⟨rfl, rfl⟩ ⟨rv_f (RI_f (itR_e99 hx) (show RS sg n tTL tTM (p + 1) 3 2 false from Or.inr ⟨rfl, by decide, a2, f_⟩) rfl).1, 2, rfl, (RI_f (itR_e99 hx) (show RS sg n tTL tTM (p + 1) 3 2 false from Or.inr ⟨rfl, by decide, a2, f_⟩) rfl).2⟩
      · skip
        have a3 := all_s a2 (show okJ sg n tTL tTM (p + 1) 2 = true from h86)
        refine j_w (w2 := (MT D M u m n it sg (npp sg n (p + 1) 3) (vaN sg n (p + 1) va 3)) ++ (AR D (M 8) 120 sg) ++ (AR D (M 9) 10 (rdN sg n (p + 1) rd 3))) (by rw [if_pos h86]) ?_
        refine j_iconst (v := nI 1) dX5_readsItem_89 (by decide) ?_
        refine j_goto (tgt := 94) dX5_readsItem_90 (by decide) ?_
        refine j_istore_n (lv2 := [(0, .ref (M 0)), (1, .int (nI 99)), (2, .int (nI 1))]) dX5_readsItem_94 (by decide) [1, 2, 0] rfl ?_
        refine j_iload_n dX5_readsItem_95 2 rfl ?_
        refine j_if_eq_N (tgt := 112) dX5_readsItem_96 (by decide) (by omega) (fun h96 => absurd h96 (by decide)) (fun h96 => ?_)
        refine j_aload_n dX5_readsItem_99 0 rfl ?_
        refine g_X5_53 rfl dX5_readsItem_100 0 rfl rfl ?_
        refine j_bipush (v := nI 59) dX5_readsItem_103 (by decide) ?_
        refine j_icmp_ne (tgt := 112) dX5_readsItem_105 (by decide) (fun h105 => ?_) (fun h105 => ?_)
        · skip
          refine j_iconst (v := nI 0) dX5_readsItem_112 (by decide) ?_
          exact j_zret dX5_readsItem_113 (rfl) ⟨rfl, rfl⟩ ⟨rv_f (RI_n (itR_e99 hx) (show RS sg n tTL tTM (p + 1) 3 3 true from Or.inl ⟨rfl, rfl, a3⟩) rfl h105).1, 3, rfl, (RI_n (itR_e99 hx) (show RS sg n tTL tTM (p + 1) 3 3 true from Or.inl ⟨rfl, rfl, a3⟩) rfl h105).2⟩
        · skip
          refine j_iconst (v := nI 1) dX5_readsItem_108 (by decide) ?_
          refine j_goto (tgt := 113) dX5_readsItem_109 (by decide) ?_
          exact j_zret dX5_readsItem_113 (rfl) ⟨rfl, rfl⟩ ⟨rv_t (RI_y (itR_e99 hx) (by rw [hx]; rfl) (show RS sg n tTL tTM (p + 1) 3 3 true from Or.inl ⟨rfl, rfl, a3⟩) rfl h105).1, 3, rfl, (RI_y (itR_e99 hx) (by rw [hx]; rfl) (show RS sg n tTL tTM (p + 1) 3 3 true from Or.inl ⟨rfl, rfl, a3⟩) rfl h105).2⟩

set_option maxHeartbeats 4000000 in
set_option maxRecDepth 100000 in
theorem c_X5_comes_full (M : Nat → Nat) (q : QT) (s rd : SS) (hI : Inv s) (c : Nat) (hc : c < 4) (h0 : rd 0 = nI c) (he : eng s (pp s c) = true) : Ct D yX5_comes cX5_comes 4 (some .boolean) ({ frames := 1, cells := 0, slots := 0, locals := 21 } : Room) [.ref (M 0)] ((MO D M q) ++ (AR D (M 1) 455 s) ++ (AR D (M 9) 10 rd)) (fun v_ u_ => v_ = some (.int (bI false)) ∧ u_ = (MO D M q) ++ (AR D (M 1) 455 s) ++ (AR D (M 9) 10 rd)) := by
  have hpp := hI.pp_ hc
  have hpo := (hI.po_ hc).2
  refine ct_of (by decide) (Nat.le_of_ble_eq_true rfl) (lv0 := [(0, .ref (M 0))]) rfl (fun Γ => ?_)
  refine j_aload_n dX5_comes_0 0 rfl ?_
  refine g_X5_35 rfl dX5_comes_1 0 rfl rfl ?_
  refine j_iconst (v := nI 0) dX5_comes_4 (by decide) ?_
  refine j_iald (v := nI c) dX5_comes_5 2 0 rfl (rfl) (by omega) (Nat.le_of_ble_eq_true rfl) (h0) ?_
  refine j_S (w2 := (MO D M q) ++ (AR D (M 1) 455 s) ++ (AR D (M 9) 10 rd)) (st2 := [.int (nI (64 + 7 * c))]) (c_X5_channelAt c) rfl cw_X5_75 dX5_comes_6 [] rfl [] rfl rfl rfl ?_ ⟨rfl, ⟨Nat.le_of_ble_eq_true rfl, Nat.le_of_ble_eq_true rfl⟩, ⟨rfl, rfl⟩, ⟨Nat.le_of_ble_eq_true rfl, Nat.le_of_ble_eq_true rfl⟩, Nat.le_of_ble_eq_true rfl, rfl, rfl⟩
  refine j_istore_n (lv2 := [(0, .ref (M 0)), (1, .int (nI (64 + 7 * c)))]) dX5_comes_9 (by decide) [1, 0] rfl ?_
  refine j_aload_n dX5_comes_10 0 rfl ?_
  refine g_X5_35 rfl dX5_comes_11 0 rfl rfl ?_
  refine j_iconst (v := nI 0) dX5_comes_14 (by decide) ?_
  refine j_iald (v := nI c) dX5_comes_15 2 0 rfl (rfl) (by omega) (Nat.le_of_ble_eq_true rfl) (h0) ?_
  refine j_aload_n dX5_comes_16 0 rfl ?_
  refine g_X5_7 rfl dX5_comes_17 0 rfl rfl ?_
  refine j_iload_n dX5_comes_20 1 rfl ?_
  refine j_iconst (v := nI 3) dX5_comes_21 (by decide) ?_
  refine j_iadd (v := nI (64 + 7 * c + 3)) dX5_comes_22 (nI_add _ _) ?_
  refine j_iald (v := nI (po s c)) dX5_comes_23 1 (64 + 7 * c + 3) rfl (rfl) (by omega) (Nat.le_of_ble_eq_true rfl) ((hI.po_ hc).1) ?_
  refine j_S (w2 := (MO D M q) ++ (AR D (M 1) 455 s) ++ (AR D (M 9) 10 rd)) (st2 := [.int (nI (92 + 14 * (c * 6 + po s c)))]) (c_X5_slotAt c (po s c)) rfl cw_X5_79 dX5_comes_24 [] rfl [] rfl rfl rfl ?_ ⟨rfl, ⟨Nat.le_of_ble_eq_true rfl, Nat.le_of_ble_eq_true rfl⟩, ⟨rfl, rfl⟩, ⟨Nat.le_of_ble_eq_true rfl, Nat.le_of_ble_eq_true rfl⟩, Nat.le_of_ble_eq_true rfl, rfl, rfl⟩
  refine j_topi (v := nI (92 + 14 * pp s c)) (rfl) ?_
  refine j_istore_n (lv2 := [(0, .ref (M 0)), (1, .int (nI (64 + 7 * c))), (2, .int (nI (92 + 14 * pp s c)))]) dX5_comes_27 (by decide) [1, 2, 0] rfl ?_
  refine j_aload_n dX5_comes_28 0 rfl ?_
  refine j_iload_n dX5_comes_29 2 rfl ?_
  refine j_V (w2 := (MO D M q) ++ (AR D (M 1) 455 s) ++ (AR D (M 9) 10 rd)) (st2 := [.int (bI (eng s (pp s c)))]) (c_X5_isEngines M q s hI (pp s c) (by omega)) rfl cw_X5_83 dX5_comes_30 [] rfl [0, 1] rfl rfl rfl 5 ?_ ⟨rfl, ⟨Nat.le_of_ble_eq_true rfl, Nat.le_of_ble_eq_true rfl⟩, ⟨rfl, rfl⟩, ⟨Nat.le_of_ble_eq_true rfl, Nat.le_of_ble_eq_true rfl⟩, Nat.le_of_ble_eq_true rfl, rfl, rfl⟩ rfl rfl rfl
  refine j_if_eq_B (tgt := 38) dX5_comes_33 (by decide) (fun h33 => absurd (he.symm.trans h33) (by decide)) (fun h33 => ?_)
  refine j_iconst (v := nI 0) dX5_comes_36 (by decide) ?_
  exact j_zret dX5_comes_37 (rfl) ⟨rfl, rfl⟩ ⟨rfl, rfl⟩

set_option maxHeartbeats 4000000 in
set_option maxRecDepth 100000 in
theorem c_X5_comes (M : Nat → Nat) (q : QT) (s rd : SS) (hI : Inv s) (c : Nat) (hc : c < 4) (h0 : rd 0 = nI c) (he : eng s (pp s c) = false) : Ct D yX5_comes cX5_comes 4 (some .boolean) ({ frames := 1, cells := 0, slots := 0, locals := 21 } : Room) [.ref (M 0)] ((MO D M q) ++ (AR D (M 1) 455 s) ++ (AR D (M 9) 10 rd)) (fun v_ u_ => v_ = some (.int (bI true)) ∧ u_ = (MO D M q) ++ (AR D (M 1) 455 (poF s c rd)) ++ (AR D (M 9) 10 rd)) := by
  have hpp := hI.pp_ hc
  have hpo := (hI.po_ hc).2
  refine ct_of (by decide) (Nat.le_of_ble_eq_true rfl) (lv0 := [(0, .ref (M 0))]) rfl (fun Γ => ?_)
  refine j_aload_n dX5_comes_0 0 rfl ?_
  refine g_X5_35 rfl dX5_comes_1 0 rfl rfl ?_
  refine j_iconst (v := nI 0) dX5_comes_4 (by decide) ?_
  refine j_iald (v := nI c) dX5_comes_5 2 0 rfl (rfl) (by omega) (Nat.le_of_ble_eq_true rfl) (h0) ?_
  refine j_S (w2 := (MO D M q) ++ (AR D (M 1) 455 s) ++ (AR D (M 9) 10 rd)) (st2 := [.int (nI (64 + 7 * c))]) (c_X5_channelAt c) rfl cw_X5_75 dX5_comes_6 [] rfl [] rfl rfl rfl ?_ ⟨rfl, ⟨Nat.le_of_ble_eq_true rfl, Nat.le_of_ble_eq_true rfl⟩, ⟨rfl, rfl⟩, ⟨Nat.le_of_ble_eq_true rfl, Nat.le_of_ble_eq_true rfl⟩, Nat.le_of_ble_eq_true rfl, rfl, rfl⟩
  refine j_istore_n (lv2 := [(0, .ref (M 0)), (1, .int (nI (64 + 7 * c)))]) dX5_comes_9 (by decide) [1, 0] rfl ?_
  refine j_aload_n dX5_comes_10 0 rfl ?_
  refine g_X5_35 rfl dX5_comes_11 0 rfl rfl ?_
  refine j_iconst (v := nI 0) dX5_comes_14 (by decide) ?_
  refine j_iald (v := nI c) dX5_comes_15 2 0 rfl (rfl) (by omega) (Nat.le_of_ble_eq_true rfl) (h0) ?_
  refine j_aload_n dX5_comes_16 0 rfl ?_
  refine g_X5_7 rfl dX5_comes_17 0 rfl rfl ?_
  refine j_iload_n dX5_comes_20 1 rfl ?_
  refine j_iconst (v := nI 3) dX5_comes_21 (by decide) ?_
  refine j_iadd (v := nI (64 + 7 * c + 3)) dX5_comes_22 (nI_add _ _) ?_
  refine j_iald (v := nI (po s c)) dX5_comes_23 1 (64 + 7 * c + 3) rfl (rfl) (by omega) (Nat.le_of_ble_eq_true rfl) ((hI.po_ hc).1) ?_
  refine j_S (w2 := (MO D M q) ++ (AR D (M 1) 455 s) ++ (AR D (M 9) 10 rd)) (st2 := [.int (nI (92 + 14 * (c * 6 + po s c)))]) (c_X5_slotAt c (po s c)) rfl cw_X5_79 dX5_comes_24 [] rfl [] rfl rfl rfl ?_ ⟨rfl, ⟨Nat.le_of_ble_eq_true rfl, Nat.le_of_ble_eq_true rfl⟩, ⟨rfl, rfl⟩, ⟨Nat.le_of_ble_eq_true rfl, Nat.le_of_ble_eq_true rfl⟩, Nat.le_of_ble_eq_true rfl, rfl, rfl⟩
  refine j_topi (v := nI (92 + 14 * pp s c)) (rfl) ?_
  refine j_istore_n (lv2 := [(0, .ref (M 0)), (1, .int (nI (64 + 7 * c))), (2, .int (nI (92 + 14 * pp s c)))]) dX5_comes_27 (by decide) [1, 2, 0] rfl ?_
  refine j_aload_n dX5_comes_28 0 rfl ?_
  refine j_iload_n dX5_comes_29 2 rfl ?_
  refine j_V (w2 := (MO D M q) ++ (AR D (M 1) 455 s) ++ (AR D (M 9) 10 rd)) (st2 := [.int (bI (eng s (pp s c)))]) (c_X5_isEngines M q s hI (pp s c) (by omega)) rfl cw_X5_83 dX5_comes_30 [] rfl [0, 1] rfl rfl rfl 5 ?_ ⟨rfl, ⟨Nat.le_of_ble_eq_true rfl, Nat.le_of_ble_eq_true rfl⟩, ⟨rfl, rfl⟩, ⟨Nat.le_of_ble_eq_true rfl, Nat.le_of_ble_eq_true rfl⟩, Nat.le_of_ble_eq_true rfl, rfl, rfl⟩ rfl rfl rfl
  refine j_if_eq_B (tgt := 38) dX5_comes_33 (by decide) (fun h33 => ?_) (fun h33 => absurd (he.symm.trans h33) (by decide))
  refine j_aload_n dX5_comes_38 0 rfl ?_
  refine g_X5_7 rfl dX5_comes_39 0 rfl rfl ?_
  refine j_iload_n dX5_comes_42 2 rfl ?_
  refine j_iconst (v := nI 0) dX5_comes_43 (by decide) ?_
  refine j_iadd (v := nI (92 + 14 * pp s c + 0)) dX5_comes_44 (nI_add _ _) ?_
  refine j_iconst (v := nI 1) dX5_comes_45 (by decide) ?_
  refine j_iast (w2 := (MO D M q) ++ (AR D (M 1) 455 (poN s rd (pp s c) 0)) ++ (AR D (M 9) 10 rd)) dX5_comes_46 1 (92 + 14 * pp s c) rfl (rfl) (by omega) (Nat.le_of_ble_eq_true rfl) (rfl) ?_
  refine j_iconst (v := nI 1) dX5_comes_47 (by decide) ?_
  refine j_istore_n (lv2 := [(0, .ref (M 0)), (1, .int (nI (64 + 7 * c))), (2, .int (nI (92 + 14 * pp s c))), (3, .int (nI 1))]) dX5_comes_48 (by decide) [1, 2, 3, 0] rfl ?_
  have L49 : ∀ (fuel : Nat) (i : Nat), i ≤ 9 → 9 - i < fuel → J D Γ yX5_comes cX5_comes 4 (some .boolean) ({ frames := 1, cells := 0, slots := 0, locals := 21 } : Room) (Qf D Γ ({ frames := 1, cells := 0, slots := 0, locals := 21 } : Room) (fun v_ u_ => v_ = some (.int (bI true)) ∧ u_ = (MO D M q) ++ (AR D (M 1) 455 (poF s c rd)) ++ (AR D (M 9) 10 rd))) 0 0 ((MO D M q) ++ (AR D (M 1) 455 (poN s rd (pp s c) i)) ++ (AR D (M 9) 10 rd)) 49 [(0, .ref (M 0)), (1, .int (nI (64 + 7 * c))), (2, .int (nI (92 + 14 * pp s c))), (3, .int (nI (i + 1)))] [] := by
    intro fuel
    induction fuel with
    | zero => intro i hi hm; exact absurd hm (Nat.not_lt_zero _)
    | succ fuel ih =>
      intro i hi hm
      refine j_iload_n dX5_comes_49 3 rfl ?_
      refine j_bipush (v := nI 10) dX5_comes_50 (by decide) ?_
      refine j_icmp_ge_N (tgt := 75) dX5_comes_52 (by decide) ⟨by omega, by omega⟩ (fun h52 => ?_) (fun h52 => ?_)
      · skip
        obtain rfl : i = 9 := by omega
        refine j_aload_n dX5_comes_75 0 rfl ?_
        refine g_X5_7 rfl dX5_comes_76 0 rfl rfl ?_
        refine j_iload_n dX5_comes_79 2 rfl ?_
        refine j_bipush (v := nI 10) dX5_comes_80 (by decide) ?_
        refine j_iadd (v := nI (92 + 14 * pp s c + 10)) dX5_comes_82 (nI_add _ _) ?_
        refine j_iconst (v := nI 1) dX5_comes_83 (by decide) ?_
        refine j_iast (w2 := (MO D M q) ++ (AR D (M 1) 455 (upd (poN s rd (pp s c) 9) (93 + 14 * pp s c + 9) (nI 1))) ++ (AR D (M 9) 10 rd)) dX5_comes_84 1 (93 + 14 * pp s c + 9) rfl (congrArg nI (by omega)) (by omega) (Nat.le_of_ble_eq_true rfl) (rfl) ?_
        refine j_aload_n dX5_comes_85 0 rfl ?_
        refine g_X5_7 rfl dX5_comes_86 0 rfl rfl ?_
        refine j_iload_n dX5_comes_89 2 rfl ?_
        refine j_bipush (v := nI 11) dX5_comes_90 (by decide) ?_
        refine j_iadd (v := nI (92 + 14 * pp s c + 11)) dX5_comes_92 (nI_add _ _) ?_
        refine j_iconst (v := nI 0) dX5_comes_93 (by decide) ?_
        refine j_iast (w2 := (MO D M q) ++ (AR D (M 1) 455 (po2 s rd (pp s c))) ++ (AR D (M 9) 10 rd)) dX5_comes_94 1 (93 + 14 * pp s c + 10) rfl (congrArg nI (by omega)) (by omega) (Nat.le_of_ble_eq_true rfl) (rfl) ?_
        refine j_aload_n dX5_comes_95 0 rfl ?_
        refine g_X5_7 rfl dX5_comes_96 0 rfl rfl ?_
        refine j_iload_n dX5_comes_99 2 rfl ?_
        refine j_bipush (v := nI 12) dX5_comes_100 (by decide) ?_
        refine j_iadd (v := nI (92 + 14 * pp s c + 12)) dX5_comes_102 (nI_add _ _) ?_
        refine j_aload_n dX5_comes_103 0 rfl ?_
        refine g_X5_7 rfl dX5_comes_104 0 rfl rfl ?_
        refine j_iload_n dX5_comes_107 2 rfl ?_
        refine j_iconst (v := nI 3) dX5_comes_108 (by decide) ?_
        refine j_iadd (v := nI (92 + 14 * pp s c + 3)) dX5_comes_109 (nI_add _ _) ?_
        refine j_iald (v := gL (po2 s rd (pp s c)) (pp s c) 2) dX5_comes_110 1 (92 + 14 * pp s c + 3) rfl (rfl) (by omega) (Nat.le_of_ble_eq_true rfl) (congrArg (po2 s rd (pp s c)) (by omega)) ?_
        refine j_aload_n dX5_comes_111 0 rfl ?_
        refine g_X5_7 rfl dX5_comes_112 0 rfl rfl ?_
        refine j_iload_n dX5_comes_115 2 rfl ?_
        refine j_bipush (v := nI 6) dX5_comes_116 (by decide) ?_
        refine j_iadd (v := nI (92 + 14 * pp s c + 6)) dX5_comes_118 (nI_add _ _) ?_
        refine j_iald (v := gL (po2 s rd (pp s c)) (pp s c) 5) dX5_comes_119 1 (92 + 14 * pp s c + 6) rfl (rfl) (by omega) (Nat.le_of_ble_eq_true rfl) (congrArg (po2 s rd (pp s c)) (by omega)) ?_
        refine j_imul (v := (gL (po2 s rd (pp s c)) (pp s c) 2) * (gL (po2 s rd (pp s c)) (pp s c) 5)) dX5_comes_120 (rfl) ?_
        refine j_iast (w2 := (MO D M q) ++ (AR D (M 1) 455 (upd (po2 s rd (pp s c)) (93 + 14 * pp s c + 11) (gL (po2 s rd (pp s c)) (pp s c) 2 * gL (po2 s rd (pp s c)) (pp s c) 5))) ++ (AR D (M 9) 10 rd)) dX5_comes_121 1 (93 + 14 * pp s c + 11) rfl (congrArg nI (by omega)) (by omega) (Nat.le_of_ble_eq_true rfl) (rfl) ?_
        refine j_aload_n dX5_comes_122 0 rfl ?_
        refine g_X5_7 rfl dX5_comes_123 0 rfl rfl ?_
        refine j_iload_n dX5_comes_126 2 rfl ?_
        refine j_bipush (v := nI 13) dX5_comes_127 (by decide) ?_
        refine j_iadd (v := nI (92 + 14 * pp s c + 13)) dX5_comes_129 (nI_add _ _) ?_
        refine j_iconst (v := nI 0) dX5_comes_130 (by decide) ?_
        refine j_iast (w2 := (MO D M q) ++ (AR D (M 1) 455 (po3 s rd (pp s c))) ++ (AR D (M 9) 10 rd)) dX5_comes_131 1 (93 + 14 * pp s c + 12) rfl (congrArg nI (by omega)) (by omega) (Nat.le_of_ble_eq_true rfl) (rfl) ?_
        refine j_aload_n dX5_comes_132 0 rfl ?_
        refine g_X5_7 rfl dX5_comes_133 0 rfl rfl ?_
        refine j_iload_n dX5_comes_136 1 rfl ?_
        refine j_iconst (v := nI 3) dX5_comes_137 (by decide) ?_
        refine j_iadd (v := nI (64 + 7 * c + 3)) dX5_comes_138 (nI_add _ _) ?_
        refine j_aload_n dX5_comes_139 0 rfl ?_
        refine g_X5_7 rfl dX5_comes_140 0 rfl rfl ?_
        refine j_iload_n dX5_comes_143 1 rfl ?_
        refine j_iconst (v := nI 3) dX5_comes_144 (by decide) ?_
        refine j_iadd (v := nI (64 + 7 * c + 3)) dX5_comes_145 (nI_add _ _) ?_
        refine j_iald (v := nI (po s c)) dX5_comes_146 1 (64 + 7 * c + 3) rfl (rfl) (by omega) (Nat.le_of_ble_eq_true rfl) ((po3_ne (Or.inl (by omega))).trans (hI.po_ hc).1) ?_
        refine j_iconst (v := nI 1) dX5_comes_147 (by decide) ?_
        refine j_iadd (v := nI (po s c + 1)) dX5_comes_148 (nI_add _ _) ?_
        refine j_bipush (v := nI 6) dX5_comes_149 (by decide) ?_
        refine j_irem (v := nI ((po s c + 1) % 6)) dX5_comes_151 (by decide) (pk_rem (by omega) (by omega) (by omega)) ?_
        refine j_iast (w2 := (MO D M q) ++ (AR D (M 1) 455 (poF s c rd)) ++ (AR D (M 9) 10 rd)) dX5_comes_152 1 (64 + 7 * c + 3) rfl (rfl) (by omega) (Nat.le_of_ble_eq_true rfl) (rfl) ?_
        refine j_iconst (v := nI 1) dX5_comes_153 (by decide) ?_
        exact j_zret dX5_comes_154 (rfl) ⟨rfl, rfl⟩ ⟨rfl, rfl⟩
      · skip
        refine j_aload_n dX5_comes_55 0 rfl ?_
        refine g_X5_7 rfl dX5_comes_56 0 rfl rfl ?_
        refine j_iload_n dX5_comes_59 2 rfl ?_
        refine j_iload_n dX5_comes_60 3 rfl ?_
        refine j_iadd (v := nI (92 + 14 * pp s c + (i + 1))) dX5_comes_61 (nI_add _ _) ?_
        refine j_aload_n dX5_comes_62 0 rfl ?_
        refine g_X5_35 rfl dX5_comes_63 0 rfl rfl ?_
        refine j_iload_n dX5_comes_66 3 rfl ?_
        refine j_iald (v := rd (1 + i)) dX5_comes_67 2 (i + 1) rfl (rfl) (by omega) (Nat.le_of_ble_eq_true rfl) (congrArg rd (by omega)) ?_
        refine j_iast (w2 := (MO D M q) ++ (AR D (M 1) 455 (poN s rd (pp s c) (i + 1))) ++ (AR D (M 9) 10 rd)) dX5_comes_68 1 (93 + 14 * pp s c + i) rfl (congrArg nI (by omega)) (by omega) (Nat.le_of_ble_eq_true rfl) (rfl) ?_
        refine j_iinc (v := nI (i + 1 + 1)) (lv2 := [(0, .ref (M 0)), (1, .int (nI (64 + 7 * c))), (2, .int (nI (92 + 14 * pp s c))), (3, .int (nI (i + 1 + 1)))]) dX5_comes_69 3 rfl (nI_1 _) (by decide) [1, 2, 3, 0] rfl ?_
        refine j_goto (tgt := 49) dX5_comes_72 (by decide) ?_
        exact ih (i + 1) (by omega) (by omega)
  exact L49 10 0 (by omega) (by omega)

set_option maxHeartbeats 4000000 in
set_option maxRecDepth 100000 in
theorem c_X5_doesItem (M : Nat → Nat) (q : QT) (s rd : SS) (hI : Inv s) (x : Int32) (hv : ItOk x rd) : Ct D yX5_doesItem cX5_doesItem 2 (some .boolean) ({ frames := 2, cells := 0, slots := 0, locals := 44 } : Room) [.ref (M 0), .int x] ((MO D M q) ++ (AR D (M 1) 455 s) ++ (AR D (M 9) 10 rd)) (fun v_ u_ => v_ = some (.int (bI (okI s x rd))) ∧ u_ = (MO D M q) ++ (AR D (M 1) 455 (if okI s x rd = true then doI s x rd else s)) ++ (AR D (M 9) 10 rd)) := by
  refine ct_of (by decide) (Nat.le_of_ble_eq_true rfl) (lv0 := [(0, .ref (M 0)), (1, .int x)]) rfl (fun Γ => ?_)
  refine j_iload_n dX5_doesItem_0 1 rfl ?_
  refine j_bipush (v := nI 108) dX5_doesItem_1 (by decide) ?_
  refine j_icmp_ne (tgt := 11) dX5_doesItem_3 (by decide) (fun h3 => ?_) (fun h3 => ?_)
  · skip
    have hok : okI s x rd = true := if_neg h3
    refine j_iload_n dX5_doesItem_11 1 rfl ?_
    refine j_bipush (v := nI 102) dX5_doesItem_12 (by decide) ?_
    refine j_icmp_ne (tgt := 37) dX5_doesItem_14 (by decide) (fun h14 => ?_) (fun h14 => ?_)
    · skip
      have hcc := hv.c (hv.d h3 h14)
      have hcc1 := hcc.1.2
      have hdo : doI s x rd = upd (upd s (64 + 7 * vc rd + 1) (rd 1)) (64 + 7 * vc rd + 2) (rd 2) := (if_neg h3).trans (if_neg h14)
      refine j_aload_n dX5_doesItem_37 0 rfl ?_
      refine g_X5_7 rfl dX5_doesItem_38 0 rfl rfl ?_
      refine j_aload_n dX5_doesItem_41 0 rfl ?_
      refine g_X5_35 rfl dX5_doesItem_42 0 rfl rfl ?_
      refine j_iconst (v := nI 0) dX5_doesItem_45 (by decide) ?_
      refine j_iald (v := nI (vc rd)) dX5_doesItem_46 2 0 rfl (rfl) (by omega) (Nat.le_of_ble_eq_true rfl) (hcc.1.1) ?_
      refine j_S (w2 := (MO D M q) ++ (AR D (M 1) 455 s) ++ (AR D (M 9) 10 rd)) (st2 := [.int (nI (64 + 7 * (vc rd))), .ref (M 1)]) (c_X5_channelAt (vc rd)) rfl cw_X5_75 dX5_doesItem_47 [.ref (M 1)] rfl [] rfl rfl rfl ?_ ⟨rfl, ⟨Nat.le_of_ble_eq_true rfl, Nat.le_of_ble_eq_true rfl⟩, ⟨rfl, rfl⟩, ⟨Nat.le_of_ble_eq_true rfl, Nat.le_of_ble_eq_true rfl⟩, Nat.le_of_ble_eq_true rfl, rfl, rfl⟩
      refine j_iconst (v := nI 1) dX5_doesItem_50 (by decide) ?_
      refine j_iadd (v := nI ((64 + 7 * (vc rd)) + 1)) dX5_doesItem_51 (nI_add _ _) ?_
      refine j_aload_n dX5_doesItem_52 0 rfl ?_
      refine g_X5_35 rfl dX5_doesItem_53 0 rfl rfl ?_
      refine j_iconst (v := nI 1) dX5_doesItem_56 (by decide) ?_
      refine j_iald (v := rd 1) dX5_doesItem_57 2 1 rfl (rfl) (by omega) (Nat.le_of_ble_eq_true rfl) (rfl) ?_
      refine j_iast (w2 := (MO D M q) ++ (AR D (M 1) 455 (upd s (64 + 7 * vc rd + 1) (rd 1))) ++ (AR D (M 9) 10 rd)) dX5_doesItem_58 1 ((64 + 7 * (vc rd)) + 1) rfl (rfl) (by omega) (Nat.le_of_ble_eq_true rfl) (rfl) ?_
      refine j_aload_n dX5_doesItem_59 0 rfl ?_
      refine g_X5_7 rfl dX5_doesItem_60 0 rfl rfl ?_
      refine j_aload_n dX5_doesItem_63 0 rfl ?_
      refine g_X5_35 rfl dX5_doesItem_64 0 rfl rfl ?_
      refine j_iconst (v := nI 0) dX5_doesItem_67 (by decide) ?_
      refine j_iald (v := nI (vc rd)) dX5_doesItem_68 2 0 rfl (rfl) (by omega) (Nat.le_of_ble_eq_true rfl) (hcc.1.1) ?_
      refine j_S (w2 := (MO D M q) ++ (AR D (M 1) 455 (upd s (64 + 7 * vc rd + 1) (rd 1))) ++ (AR D (M 9) 10 rd)) (st2 := [.int (nI (64 + 7 * (vc rd))), .ref (M 1)]) (c_X5_channelAt (vc rd)) rfl cw_X5_75 dX5_doesItem_69 [.ref (M 1)] rfl [] rfl rfl rfl ?_ ⟨rfl, ⟨Nat.le_of_ble_eq_true rfl, Nat.le_of_ble_eq_true rfl⟩, ⟨rfl, rfl⟩, ⟨Nat.le_of_ble_eq_true rfl, Nat.le_of_ble_eq_true rfl⟩, Nat.le_of_ble_eq_true rfl, rfl, rfl⟩
      refine j_iconst (v := nI 2) dX5_doesItem_72 (by decide) ?_
      refine j_iadd (v := nI ((64 + 7 * (vc rd)) + 2)) dX5_doesItem_73 (nI_add _ _) ?_
      refine j_aload_n dX5_doesItem_74 0 rfl ?_
      refine g_X5_35 rfl dX5_doesItem_75 0 rfl rfl ?_
      refine j_iconst (v := nI 2) dX5_doesItem_78 (by decide) ?_
      refine j_iald (v := rd 2) dX5_doesItem_79 2 2 rfl (rfl) (by omega) (Nat.le_of_ble_eq_true rfl) (rfl) ?_
      refine j_iast (w2 := (MO D M q) ++ (AR D (M 1) 455 (upd (upd s (64 + 7 * vc rd + 1) (rd 1)) (64 + 7 * vc rd + 2) (rd 2))) ++ (AR D (M 9) 10 rd)) dX5_doesItem_80 1 ((64 + 7 * (vc rd)) + 2) rfl (rfl) (by omega) (Nat.le_of_ble_eq_true rfl) (rfl) ?_
      refine j_iconst (v := nI 1) dX5_doesItem_81 (by decide) ?_
      exact j_zret dX5_doesItem_82 (rfl) ⟨rfl, rfl⟩ ⟨rv_t hok, by rw [hok, hdo]; rfl⟩
    · skip
      have hf := hv.f h14
      have hfc := hf.2
      have hdo : doI s x rd = upd s (vc rd) (rd 1) := (if_neg h3).trans (if_pos h14)
      refine j_aload_n dX5_doesItem_17 0 rfl ?_
      refine g_X5_7 rfl dX5_doesItem_18 0 rfl rfl ?_
      refine j_aload_n dX5_doesItem_21 0 rfl ?_
      refine g_X5_35 rfl dX5_doesItem_22 0 rfl rfl ?_
      refine j_iconst (v := nI 0) dX5_doesItem_25 (by decide) ?_
      refine j_iald (v := nI (vc rd)) dX5_doesItem_26 2 0 rfl (rfl) (by omega) (Nat.le_of_ble_eq_true rfl) (hf.1) ?_
      refine j_aload_n dX5_doesItem_27 0 rfl ?_
      refine g_X5_35 rfl dX5_doesItem_28 0 rfl rfl ?_
      refine j_iconst (v := nI 1) dX5_doesItem_31 (by decide) ?_
      refine j_iald (v := rd 1) dX5_doesItem_32 2 1 rfl (rfl) (by omega) (Nat.le_of_ble_eq_true rfl) (rfl) ?_
      refine j_iast (w2 := (MO D M q) ++ (AR D (M 1) 455 (upd s (vc rd) (rd 1))) ++ (AR D (M 9) 10 rd)) dX5_doesItem_33 1 (vc rd) rfl (rfl) (by omega) (Nat.le_of_ble_eq_true rfl) (rfl) ?_
      refine j_goto (tgt := 81) dX5_doesItem_34 (by decide) ?_
      refine j_iconst (v := nI 1) dX5_doesItem_81 (by decide) ?_
      exact j_zret dX5_doesItem_82 (rfl) ⟨rfl, rfl⟩ ⟨rv_t hok, by rw [hok, hdo]; rfl⟩
  · skip
    have hl := hv.l h3
    have hok : okI s x rd = !eng s (pp s (vc rd)) := if_pos h3
    have hdo : doI s x rd = poF s (vc rd) rd := if_pos h3
    refine j_aload_n dX5_doesItem_6 0 rfl ?_
    rcases he : eng s (pp s (vc rd)) with _ | _
    · skip
      refine j_V (w2 := (MO D M q) ++ (AR D (M 1) 455 (poF s (vc rd) rd)) ++ (AR D (M 9) 10 rd)) (st2 := [.int (bI true)]) (c_X5_comes M q s rd hI (vc rd) hl.1.2 hl.1.1 he) rfl cw_X5_86 dX5_doesItem_7 [] rfl [0, 1, 2] rfl rfl rfl 5 ?_ ⟨rfl, ⟨Nat.le_of_ble_eq_true rfl, Nat.le_of_ble_eq_true rfl⟩, ⟨rfl, rfl⟩, ⟨Nat.le_of_ble_eq_true rfl, Nat.le_of_ble_eq_true rfl⟩, Nat.le_of_ble_eq_true rfl, rfl, rfl⟩ rfl rfl rfl
      exact j_zret dX5_doesItem_10 (rfl) ⟨rfl, rfl⟩ ⟨rv_tB (by rw [hok, he]; rfl), by rw [hok, he, hdo]; rfl⟩
    · skip
      refine j_V (w2 := (MO D M q) ++ (AR D (M 1) 455 s) ++ (AR D (M 9) 10 rd)) (st2 := [.int (bI false)]) (c_X5_comes_full M q s rd hI (vc rd) hl.1.2 hl.1.1 he) rfl cw_X5_86 dX5_doesItem_7 [] rfl [0, 1, 2] rfl rfl rfl 5 ?_ ⟨rfl, ⟨Nat.le_of_ble_eq_true rfl, Nat.le_of_ble_eq_true rfl⟩, ⟨rfl, rfl⟩, ⟨Nat.le_of_ble_eq_true rfl, Nat.le_of_ble_eq_true rfl⟩, Nat.le_of_ble_eq_true rfl, rfl, rfl⟩ rfl rfl rfl
      exact j_zret dX5_doesItem_10 (rfl) ⟨rfl, rfl⟩ ⟨rv_fB (by rw [hok, he]; rfl), by rw [hok, he]; rfl⟩

end MD7
