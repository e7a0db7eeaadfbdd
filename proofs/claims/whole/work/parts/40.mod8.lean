theorem prl_ge {sg : SS} {n : Nat} : ∀ (f i k : Nat), i ≤ (prl sg n f i k).2
  | 0, i, k => Nat.le_refl _
  | f + 1, i, k => by
    unfold prl
    split
    · split
      · have := prl_ge (sg := sg) (n := n) f (i + 1) (sk sg n (itR sg n k).2); omega
      · exact Nat.le_refl _
    · exact Nat.le_refl _
section MD8
variable {D : DX}
set_option maxHeartbeats 4000000 in
set_option maxRecDepth 100000 in
theorem c_X5_goes0 (M : Nat → Nat) (u m n nx pl it : Nat) (to va : Int32) (sg rd : SS) (hn : n ≤ 120) (hs : SgOk sg n) : Ct D yX5_goesThrough cX5_goesThrough 4 (some .boolean) ({ frames := 7, cells := 0, slots := 0, locals := 154 } : Room) [.ref (M 0), .int (nI 0)] ((MQx D M u m n nx pl it to va) ++ (AR D (M 8) 120 sg) ++ (AR D (M 9) 10 rd)) (fun v_ u_ => v_ = some (.int (bI (prA sg n).1.isNone)) ∧ ∃ (nx1 pl1 it1 : Nat) (to1 va1 : Int32) (rd1 : SS), u_ = (MQx D M u m n nx1 pl1 it1 to1 va1) ++ (AR D (M 8) 120 sg) ++ (AR D (M 9) 10 rd1) ∧ ∀ f, (prA sg n).1 = some f → pl1 = f) := by
  refine ct_of (by decide) (Nat.le_of_ble_eq_true rfl) (lv0 := [(0, .ref (M 0)), (1, .int (nI 0))]) rfl (fun Γ => ?_)
  refine j_aload_n dX5_goesThrough_0 0 rfl ?_
  refine j_iconst (v := nI 0) dX5_goesThrough_1 (by decide) ?_
  refine p_X5_46 (w2 := (MQx D M u m n 0 pl it to va) ++ (AR D (M 8) 120 sg) ++ (AR D (M 9) 10 rd)) rfl dX5_goesThrough_2 0 rfl (Nat.le_of_ble_eq_true rfl) (rfl) ?_
  refine j_aload_n dX5_goesThrough_5 0 rfl ?_
  refine j_iconst (v := nI 0) dX5_goesThrough_6 (by decide) ?_
  refine p_X5_89 (w2 := (MQx D M u m n 0 pl 0 to va) ++ (AR D (M 8) 120 sg) ++ (AR D (M 9) 10 rd)) rfl dX5_goesThrough_7 0 rfl (Nat.le_of_ble_eq_true rfl) (rfl) ?_
  refine j_aload_n dX5_goesThrough_10 0 rfl ?_
  refine j_V (w2 := (MT D M u m n 0 sg 0 va) ++ (AR D (M 8) 120 sg) ++ (AR D (M 9) 10 rd)) (st2 := []) (c_X5_takes M u m n 0 pl 0 to va sg (by omega) (Nat.zero_le n)) rfl cw_X5_65 dX5_goesThrough_11 [] rfl [0, 1] rfl rfl rfl 5 ?_ ⟨rfl, ⟨Nat.le_of_ble_eq_true rfl, Nat.le_of_ble_eq_true rfl⟩, ⟨rfl, rfl⟩, ⟨Nat.le_of_ble_eq_true rfl, Nat.le_of_ble_eq_true rfl⟩, Nat.le_of_ble_eq_true rfl, rfl, rfl⟩ rfl rfl rfl
  have L14 : ∀ (fuel : Nat) (i k : Nat) (va : Int32) (rd : SS), k ≤ n → sk sg n k = ps sg n i → 5 * i ≤ ps sg n i → i ≤ 24 → prA sg n = prl sg n (25 - i) i (ps sg n i) → n - ps sg n i < fuel → J D Γ yX5_goesThrough cX5_goesThrough 4 (some .boolean) ({ frames := 7, cells := 0, slots := 0, locals := 154 } : Room) (Qf D Γ ({ frames := 7, cells := 0, slots := 0, locals := 154 } : Room) (fun v_ u_ => v_ = some (.int (bI (prA sg n).1.isNone)) ∧ ∃ (nx1 pl1 it1 : Nat) (to1 va1 : Int32) (rd1 : SS), u_ = (MQx D M u m n nx1 pl1 it1 to1 va1) ++ (AR D (M 8) 120 sg) ++ (AR D (M 9) 10 rd1) ∧ ∀ f, (prA sg n).1 = some f → pl1 = f)) 0 0 ((MT D M u m n i sg k va) ++ (AR D (M 8) 120 sg) ++ (AR D (M 9) 10 rd)) 14 [(0, .ref (M 0)), (1, .int (nI 0))] [] := by
    intro fuel
    induction fuel with
    | zero => intro i k va rd hk hps h5 hi1 he hm; exact absurd hm (Nat.not_lt_zero _)
    | succ fuel ih =>
      intro i k va rd hk hps h5 hi1 he hm
      have he2 := he
      rw [show 25 - i = (24 - i) + 1 by omega] at he2
      refine j_aload_n dX5_goesThrough_14 0 rfl ?_
      refine g_X5_53 rfl dX5_goesThrough_15 0 rfl rfl ?_
      refine j_iconst (v := (-1)) dX5_goesThrough_18 (by decide) ?_
      refine j_icmp_eq (tgt := 94) dX5_goesThrough_19 (by decide) (fun h19 => ?_) (fun h19 => ?_)
      · skip
        have hlt := tT_m hs h19
        rw [hps] at hlt
        rw [prl_n hlt] at he2
        refine j_iconst (v := nI 1) dX5_goesThrough_94 (by decide) ?_
        exact j_zret dX5_goesThrough_95 (rfl) ⟨rfl, rfl⟩ ⟨rv_t (by rw [he2]; rfl), _, _, _, _, _, _, rfl, fun f hf => by rw [he2] at hf; cases hf⟩
      · skip
        have hlt := tT_nm h19
        refine j_aload_n dX5_goesThrough_22 0 rfl ?_
        refine g_X5_53 rfl dX5_goesThrough_23 0 rfl rfl ?_
        refine j_istore_n (lv2 := [(0, .ref (M 0)), (1, .int (nI 0)), (2, .int (tTo sg n k))]) dX5_goesThrough_26 (by decide) [1, 2, 0] rfl ?_
        refine j_iload_n dX5_goesThrough_27 2 rfl ?_
        refine j_bipush (v := nI 108) dX5_goesThrough_28 (by decide) ?_
        refine j_icmp_eq (tgt := 45) dX5_goesThrough_30 (by decide) (fun h30 => ?_) (fun h30 => ?_)
        · skip
          obtain ⟨hq1, hq2, hq3⟩ := tT_c (by decide) h30
          refine j_w (w2 := (MQx D M u m n (sk sg n k + 1) (sk sg n k) i (tTo sg n k) (tVa sg n k va)) ++ (AR D (M 8) 120 sg) ++ (AR D (M 9) 10 rd)) (by rw [show MT D M u m n i sg k va = MQx D M u m n (sk sg n k + 1) (sk sg n k) i (tTo sg n k) (tVa sg n k va) from by unfold MT; rw [hq3]]) ?_
          refine j_aload_n dX5_goesThrough_45 0 rfl ?_
          refine j_iload_n dX5_goesThrough_46 2 rfl ?_
          refine j_topi (v := nI 108) h30 ?_
          refine j_callV (c_X5_readsItem_l M u m n (sk sg n k) (sk sg n k) i (tTo sg n k) (tVa sg n k va) sg rd hn hq1 hs hq2) rfl cw_X5_92 rfl ⟨Nat.le_of_ble_eq_true rfl, Nat.le_of_ble_eq_true rfl⟩ ⟨rfl, rfl⟩ ⟨Nat.le_of_ble_eq_true rfl, Nat.le_of_ble_eq_true rfl⟩ dX5_goesThrough_47 (rest := []) rfl (Nat.le_of_ble_eq_true rfl) [0, 1, 2] rfl rfl 5 0 rfl rfl rfl (fun v_ w_ hf_ => ?_)
          obtain ⟨rfl, e, rfl, hRI⟩ := hf_
          refine ⟨rfl, ?_⟩
          refine j_ws (w2 := (MT D M u m n i sg (npp sg n (sk sg n k + 1) e) (vaN sg n (sk sg n k + 1) (tVa sg n k va) e)) ++ (AR D (M 8) 120 sg) ++ (AR D (M 9) 10 (rdN sg n (sk sg n k + 1) rd e))) (st2 := [.int (bI ((itR sg n (sk sg n k)).1))]) rfl rfl ?_
          refine j_if_eq_B (tgt := 57) dX5_goesThrough_50 (by decide) (fun h50 => ?_) (fun h50 => ?_)
          · skip
            refine j_iconst (v := nI 0) dX5_goesThrough_57 (by decide) ?_
            refine j_istore_n (lv2 := [(0, .ref (M 0)), (1, .int (nI 0)), (2, .int (tTo sg n k)), (3, .int (nI 0))]) dX5_goesThrough_58 (by decide) [1, 2, 3, 0] rfl ?_
            refine j_iload_n dX5_goesThrough_59 3 rfl ?_
            refine j_if_eq_N (tgt := 75) dX5_goesThrough_60 (by decide) (by omega) (fun h60 => ?_) (fun h60 => absurd rfl h60)
            refine j_iconst (v := nI 0) dX5_goesThrough_75 (by decide) ?_
            exact j_zret dX5_goesThrough_76 (rfl) ⟨rfl, rfl⟩ ⟨rv_f (by rw [he2, ← hps, prl_e hlt h50]; rfl), _, _, _, _, _, _, rfl, fun f hf => by rw [he2, ← hps, prl_e hlt h50] at hf; cases hf; exact hRI.2 h50⟩
          · skip
            refine j_iconst (v := nI 1) dX5_goesThrough_53 (by decide) ?_
            refine j_goto (tgt := 58) dX5_goesThrough_54 (by decide) ?_
            refine j_istore_n (lv2 := [(0, .ref (M 0)), (1, .int (nI 0)), (2, .int (tTo sg n k)), (3, .int (nI 1))]) dX5_goesThrough_58 (by decide) [1, 2, 3, 0] rfl ?_
            refine j_iload_n dX5_goesThrough_59 3 rfl ?_
            refine j_if_eq_N (tgt := 75) dX5_goesThrough_60 (by decide) (by omega) (fun h60 => absurd h60 (by decide)) (fun h60 => ?_)
            refine j_iload_n dX5_goesThrough_63 1 rfl ?_
            refine j_if_eq_N (tgt := 77) dX5_goesThrough_64 (by decide) (by omega) (fun h64 => ?_) (fun h64 => absurd rfl h64)
            refine j_aload_n dX5_goesThrough_77 0 rfl ?_
            refine j_dup dX5_goesThrough_78 rfl ?_
            refine g_X5_89 rfl dX5_goesThrough_79 0 rfl rfl ?_
            refine j_iconst (v := nI 1) dX5_goesThrough_82 (by decide) ?_
            refine j_iadd (v := nI (i + 1)) dX5_goesThrough_83 (nI_add _ _) ?_
            refine p_X5_89 (w2 := (MT D M u m n (i + 1) sg (npp sg n (sk sg n k + 1) e) (vaN sg n (sk sg n k + 1) (tVa sg n k va) e)) ++ (AR D (M 8) 120 sg) ++ (AR D (M 9) 10 (rdN sg n (sk sg n k + 1) rd e))) rfl dX5_goesThrough_84 0 rfl (Nat.le_of_ble_eq_true rfl) (rfl) ?_
            refine j_aload_n dX5_goesThrough_87 0 rfl ?_
            refine j_V (w2 := (MT D M u m n (i + 1) sg (tNx sg n (npp sg n (sk sg n k + 1) e)) (tVa sg n (npp sg n (sk sg n k + 1) e) (vaN sg n (sk sg n k + 1) (tVa sg n k va) e))) ++ (AR D (M 8) 120 sg) ++ (AR D (M 9) 10 (rdN sg n (sk sg n k + 1) rd e))) (st2 := []) (c_X5_takes M u m n (tNx sg n (npp sg n (sk sg n k + 1) e)) (sk sg n (npp sg n (sk sg n k + 1) e)) (i + 1) (tTo sg n (npp sg n (sk sg n k + 1) e)) (tVa sg n (npp sg n (sk sg n k + 1) e) (vaN sg n (sk sg n k + 1) (tVa sg n k va) e)) sg (by omega) (tNx_le (npp_n hq1 e))) rfl cw_X5_65 dX5_goesThrough_88 [] rfl [0, 1] rfl rfl rfl 5 ?_ ⟨rfl, ⟨Nat.le_of_ble_eq_true rfl, Nat.le_of_ble_eq_true rfl⟩, ⟨rfl, rfl⟩, ⟨Nat.le_of_ble_eq_true rfl, Nat.le_of_ble_eq_true rfl⟩, Nat.le_of_ble_eq_true rfl, rfl, rfl⟩ rfl rfl rfl
            refine j_goto (tgt := 14) dX5_goesThrough_91 (by decide) ?_
            refine j_lv (lv2 := [(0, .ref (M 0)), (1, .int (nI 0))]) [0, 1] rfl ?_
            exact ih (i + 1) (tNx sg n (npp sg n (sk sg n k + 1) e)) _ _ (tNx_le (npp_n hq1 e)) (by rw [(hRI.1 h50).2, hps]; rfl) (by have := it_len h50; have := sk_le (sg := sg) (n := n) (itR sg n (sk sg n k)).2; show 5 * (i + 1) ≤ sk sg n (itR sg n (ps sg n i)).2; rw [← hps]; omega) (by have := it_len h50; have := it_n (sg := sg) hq1; omega) (by rw [he2, ← hps, prl_y hq1 h50, show 25 - (i + 1) = 24 - i by omega]; show _ = prl sg n (24 - i) (i + 1) (sk sg n (itR sg n (ps sg n i)).2); rw [hps]) (by have := it_len h50; have := it_n (sg := sg) hq1; have := sk_le (sg := sg) (n := n) (itR sg n (sk sg n k)).2; show n - sk sg n (itR sg n (ps sg n i)).2 < fuel; rw [← hps]; omega)
        · skip
          refine j_iload_n dX5_goesThrough_33 2 rfl ?_
          refine j_bipush (v := nI 102) dX5_goesThrough_34 (by decide) ?_
          refine j_icmp_eq (tgt := 45) dX5_goesThrough_36 (by decide) (fun h36 => ?_) (fun h36 => ?_)
          · skip
            obtain ⟨hq1, hq2, hq3⟩ := tT_c (by decide) h36
            refine j_w (w2 := (MQx D M u m n (sk sg n k + 1) (sk sg n k) i (tTo sg n k) (tVa sg n k va)) ++ (AR D (M 8) 120 sg) ++ (AR D (M 9) 10 rd)) (by rw [show MT D M u m n i sg k va = MQx D M u m n (sk sg n k + 1) (sk sg n k) i (tTo sg n k) (tVa sg n k va) from by unfold MT; rw [hq3]]) ?_
            refine j_aload_n dX5_goesThrough_45 0 rfl ?_
            refine j_iload_n dX5_goesThrough_46 2 rfl ?_
            refine j_topi (v := nI 102) h36 ?_
            refine j_callV (c_X5_readsItem_f M u m n (sk sg n k) (sk sg n k) i (tTo sg n k) (tVa sg n k va) sg rd hn hq1 hs hq2) rfl cw_X5_92 rfl ⟨Nat.le_of_ble_eq_true rfl, Nat.le_of_ble_eq_true rfl⟩ ⟨rfl, rfl⟩ ⟨Nat.le_of_ble_eq_true rfl, Nat.le_of_ble_eq_true rfl⟩ dX5_goesThrough_47 (rest := []) rfl (Nat.le_of_ble_eq_true rfl) [0, 1, 2] rfl rfl 5 0 rfl rfl rfl (fun v_ w_ hf_ => ?_)
            obtain ⟨rfl, e, rfl, hRI⟩ := hf_
            refine ⟨rfl, ?_⟩
            refine j_ws (w2 := (MT D M u m n i sg (npp sg n (sk sg n k + 1) e) (vaN sg n (sk sg n k + 1) (tVa sg n k va) e)) ++ (AR D (M 8) 120 sg) ++ (AR D (M 9) 10 (rdN sg n (sk sg n k + 1) rd e))) (st2 := [.int (bI ((itR sg n (sk sg n k)).1))]) rfl rfl ?_
            refine j_if_eq_B (tgt := 57) dX5_goesThrough_50 (by decide) (fun h50 => ?_) (fun h50 => ?_)
            · skip
              refine j_iconst (v := nI 0) dX5_goesThrough_57 (by decide) ?_
              refine j_istore_n (lv2 := [(0, .ref (M 0)), (1, .int (nI 0)), (2, .int (tTo sg n k)), (3, .int (nI 0))]) dX5_goesThrough_58 (by decide) [1, 2, 3, 0] rfl ?_
              refine j_iload_n dX5_goesThrough_59 3 rfl ?_
              refine j_if_eq_N (tgt := 75) dX5_goesThrough_60 (by decide) (by omega) (fun h60 => ?_) (fun h60 => absurd rfl h60)
              refine j_iconst (v := nI 0) dX5_goesThrough_75 (by decide) ?_
              exact j_zret dX5_goesThrough_76 (rfl) ⟨rfl, rfl⟩ ⟨rv_f (by rw [he2, ← hps, prl_e hlt h50]; rfl), _, _, _, _, _, _, rfl, fun f hf => by rw [he2, ← hps, prl_e hlt h50] at hf; cases hf; exact hRI.2 h50⟩
            · skip
              refine j_iconst (v := nI 1) dX5_goesThrough_53 (by decide) ?_
              refine j_goto (tgt := 58) dX5_goesThrough_54 (by decide) ?_
              refine j_istore_n (lv2 := [(0, .ref (M 0)), (1, .int (nI 0)), (2, .int (tTo sg n k)), (3, .int (nI 1))]) dX5_goesThrough_58 (by decide) [1, 2, 3, 0] rfl ?_
              refine j_iload_n dX5_goesThrough_59 3 rfl ?_
              refine j_if_eq_N (tgt := 75) dX5_goesThrough_60 (by decide) (by omega) (fun h60 => absurd h60 (by decide)) (fun h60 => ?_)
              refine j_iload_n dX5_goesThrough_63 1 rfl ?_
              refine j_if_eq_N (tgt := 77) dX5_goesThrough_64 (by decide) (by omega) (fun h64 => ?_) (fun h64 => absurd rfl h64)
              refine j_aload_n dX5_goesThrough_77 0 rfl ?_
              refine j_dup dX5_goesThrough_78 rfl ?_
              refine g_X5_89 rfl dX5_goesThrough_79 0 rfl rfl ?_
              refine j_iconst (v := nI 1) dX5_goesThrough_82 (by decide) ?_
              refine j_iadd (v := nI (i + 1)) dX5_goesThrough_83 (nI_add _ _) ?_
              refine p_X5_89 (w2 := (MT D M u m n (i + 1) sg (npp sg n (sk sg n k + 1) e) (vaN sg n (sk sg n k + 1) (tVa sg n k va) e)) ++ (AR D (M 8) 120 sg) ++ (AR D (M 9) 10 (rdN sg n (sk sg n k + 1) rd e))) rfl dX5_goesThrough_84 0 rfl (Nat.le_of_ble_eq_true rfl) (rfl) ?_
              refine j_aload_n dX5_goesThrough_87 0 rfl ?_
              refine j_V (w2 := (MT D M u m n (i + 1) sg (tNx sg n (npp sg n (sk sg n k + 1) e)) (tVa sg n (npp sg n (sk sg n k + 1) e) (vaN sg n (sk sg n k + 1) (tVa sg n k va) e))) ++ (AR D (M 8) 120 sg) ++ (AR D (M 9) 10 (rdN sg n (sk sg n k + 1) rd e))) (st2 := []) (c_X5_takes M u m n (tNx sg n (npp sg n (sk sg n k + 1) e)) (sk sg n (npp sg n (sk sg n k + 1) e)) (i + 1) (tTo sg n (npp sg n (sk sg n k + 1) e)) (tVa sg n (npp sg n (sk sg n k + 1) e) (vaN sg n (sk sg n k + 1) (tVa sg n k va) e)) sg (by omega) (tNx_le (npp_n hq1 e))) rfl cw_X5_65 dX5_goesThrough_88 [] rfl [0, 1] rfl rfl rfl 5 ?_ ⟨rfl, ⟨Nat.le_of_ble_eq_true rfl, Nat.le_of_ble_eq_true rfl⟩, ⟨rfl, rfl⟩, ⟨Nat.le_of_ble_eq_true rfl, Nat.le_of_ble_eq_true rfl⟩, Nat.le_of_ble_eq_true rfl, rfl, rfl⟩ rfl rfl rfl
              refine j_goto (tgt := 14) dX5_goesThrough_91 (by decide) ?_
              refine j_lv (lv2 := [(0, .ref (M 0)), (1, .int (nI 0))]) [0, 1] rfl ?_
              exact ih (i + 1) (tNx sg n (npp sg n (sk sg n k + 1) e)) _ _ (tNx_le (npp_n hq1 e)) (by rw [(hRI.1 h50).2, hps]; rfl) (by have := it_len h50; have := sk_le (sg := sg) (n := n) (itR sg n (sk sg n k)).2; show 5 * (i + 1) ≤ sk sg n (itR sg n (ps sg n i)).2; rw [← hps]; omega) (by have := it_len h50; have := it_n (sg := sg) hq1; omega) (by rw [he2, ← hps, prl_y hq1 h50, show 25 - (i + 1) = 24 - i by omega]; show _ = prl sg n (24 - i) (i + 1) (sk sg n (itR sg n (ps sg n i)).2); rw [hps]) (by have := it_len h50; have := it_n (sg := sg) hq1; have := sk_le (sg := sg) (n := n) (itR sg n (sk sg n k)).2; show n - sk sg n (itR sg n (ps sg n i)).2 < fuel; rw [← hps]; omega)
          · skip
            refine j_iload_n dX5_goesThrough_39 2 rfl ?_
            refine j_bipush (v := nI 99) dX5_goesThrough_40 (by decide) ?_
            refine j_icmp_ne (tgt := 57) dX5_goesThrough_42 (by decide) (fun h42 => ?_) (fun h42 => ?_)
            · skip
              refine j_iconst (v := nI 0) dX5_goesThrough_57 (by decide) ?_
              refine j_istore_n (lv2 := [(0, .ref (M 0)), (1, .int (nI 0)), (2, .int (tTo sg n k)), (3, .int (nI 0))]) dX5_goesThrough_58 (by decide) [1, 2, 3, 0] rfl ?_
              refine j_iload_n dX5_goesThrough_59 3 rfl ?_
              refine j_if_eq_N (tgt := 75) dX5_goesThrough_60 (by decide) (by omega) (fun h60 => ?_) (fun h60 => absurd rfl h60)
              refine j_iconst (v := nI 0) dX5_goesThrough_75 (by decide) ?_
              exact j_zret dX5_goesThrough_76 (rfl) ⟨rfl, rfl⟩ ⟨rv_f (by rw [he2, ← hps, prl_e hlt (by rw [itR_0 (hcn_t h30 h36 h42 hlt)])]; rfl), _, _, _, _, _, _, rfl, fun f hf => by rw [he2, ← hps, prl_e hlt (by rw [itR_0 (hcn_t h30 h36 h42 hlt)])] at hf; cases hf; exact (by rw [itR_0 (hcn_t h30 h36 h42 hlt)])⟩
            · skip
              obtain ⟨hq1, hq2, hq3⟩ := tT_c (by decide) h42
              refine j_w (w2 := (MQx D M u m n (sk sg n k + 1) (sk sg n k) i (tTo sg n k) (tVa sg n k va)) ++ (AR D (M 8) 120 sg) ++ (AR D (M 9) 10 rd)) (by rw [show MT D M u m n i sg k va = MQx D M u m n (sk sg n k + 1) (sk sg n k) i (tTo sg n k) (tVa sg n k va) from by unfold MT; rw [hq3]]) ?_
              refine j_aload_n dX5_goesThrough_45 0 rfl ?_
              refine j_iload_n dX5_goesThrough_46 2 rfl ?_
              refine j_topi (v := nI 99) h42 ?_
              refine j_callV (c_X5_readsItem_c M u m n (sk sg n k) (sk sg n k) i (tTo sg n k) (tVa sg n k va) sg rd hn hq1 hs hq2) rfl cw_X5_92 rfl ⟨Nat.le_of_ble_eq_true rfl, Nat.le_of_ble_eq_true rfl⟩ ⟨rfl, rfl⟩ ⟨Nat.le_of_ble_eq_true rfl, Nat.le_of_ble_eq_true rfl⟩ dX5_goesThrough_47 (rest := []) rfl (Nat.le_of_ble_eq_true rfl) [0, 1, 2] rfl rfl 5 0 rfl rfl rfl (fun v_ w_ hf_ => ?_)
              obtain ⟨rfl, e, rfl, hRI⟩ := hf_
              refine ⟨rfl, ?_⟩
              refine j_ws (w2 := (MT D M u m n i sg (npp sg n (sk sg n k + 1) e) (vaN sg n (sk sg n k + 1) (tVa sg n k va) e)) ++ (AR D (M 8) 120 sg) ++ (AR D (M 9) 10 (rdN sg n (sk sg n k + 1) rd e))) (st2 := [.int (bI ((itR sg n (sk sg n k)).1))]) rfl rfl ?_
              refine j_if_eq_B (tgt := 57) dX5_goesThrough_50 (by decide) (fun h50 => ?_) (fun h50 => ?_)
              · skip
                refine j_iconst (v := nI 0) dX5_goesThrough_57 (by decide) ?_
                refine j_istore_n (lv2 := [(0, .ref (M 0)), (1, .int (nI 0)), (2, .int (tTo sg n k)), (3, .int (nI 0))]) dX5_goesThrough_58 (by decide) [1, 2, 3, 0] rfl ?_
                refine j_iload_n dX5_goesThrough_59 3 rfl ?_
                refine j_if_eq_N (tgt := 75) dX5_goesThrough_60 (by decide) (by omega) (fun h60 => ?_) (fun h60 => absurd rfl h60)
                refine j_iconst (v := nI 0) dX5_goesThrough_75 (by decide) ?_
                exact j_zret dX5_goesThrough_76 (rfl) ⟨rfl, rfl⟩ ⟨rv_f (by rw [he2, ← hps, prl_e hlt h50]; rfl), _, _, _, _, _, _, rfl, fun f hf => by rw [he2, ← hps, prl_e hlt h50] at hf; cases hf; exact hRI.2 h50⟩
              · skip
                refine j_iconst (v := nI 1) dX5_goesThrough_53 (by decide) ?_
                refine j_goto (tgt := 58) dX5_goesThrough_54 (by decide) ?_
                refine j_istore_n (lv2 := [(0, .ref (M 0)), (1, .int (nI 0)), (2, .int (tTo sg n k)), (3, .int (nI 1))]) dX5_goesThrough_58 (by decide) [1, 2, 3, 0] rfl ?_
                refine j_iload_n dX5_goesThrough_59 3 rfl ?_
                refine j_if_eq_N (tgt := 75) dX5_goesThrough_60 (by decide) (by omega) (fun h60 => absurd h60 (by decide)) (fun h60 => ?_)
                refine j_iload_n dX5_goesThrough_63 1 rfl ?_
                refine j_if_eq_N (tgt := 77) dX5_goesThrough_64 (by decide) (by omega) (fun h64 => ?_) (fun h64 => absurd rfl h64)
                refine j_aload_n dX5_goesThrough_77 0 rfl ?_
                refine j_dup dX5_goesThrough_78 rfl ?_
                refine g_X5_89 rfl dX5_goesThrough_79 0 rfl rfl ?_
                refine j_iconst (v := nI 1) dX5_goesThrough_82 (by decide) ?_
                refine j_iadd (v := nI (i + 1)) dX5_goesThrough_83 (nI_add _ _) ?_
                refine p_X5_89 (w2 := (MT D M u m n (i + 1) sg (npp sg n (sk sg n k + 1) e) (vaN sg n (sk sg n k + 1) (tVa sg n k va) e)) ++ (AR D (M 8) 120 sg) ++ (AR D (M 9) 10 (rdN sg n (sk sg n k + 1) rd e))) rfl dX5_goesThrough_84 0 rfl (Nat.le_of_ble_eq_true rfl) (rfl) ?_
                refine j_aload_n dX5_goesThrough_87 0 rfl ?_
                refine j_V (w2 := (MT D M u m n (i + 1) sg (tNx sg n (npp sg n (sk sg n k + 1) e)) (tVa sg n (npp sg n (sk sg n k + 1) e) (vaN sg n (sk sg n k + 1) (tVa sg n k va) e))) ++ (AR D (M 8) 120 sg) ++ (AR D (M 9) 10 (rdN sg n (sk sg n k + 1) rd e))) (st2 := []) (c_X5_takes M u m n (tNx sg n (npp sg n (sk sg n k + 1) e)) (sk sg n (npp sg n (sk sg n k + 1) e)) (i + 1) (tTo sg n (npp sg n (sk sg n k + 1) e)) (tVa sg n (npp sg n (sk sg n k + 1) e) (vaN sg n (sk sg n k + 1) (tVa sg n k va) e)) sg (by omega) (tNx_le (npp_n hq1 e))) rfl cw_X5_65 dX5_goesThrough_88 [] rfl [0, 1] rfl rfl rfl 5 ?_ ⟨rfl, ⟨Nat.le_of_ble_eq_true rfl, Nat.le_of_ble_eq_true rfl⟩, ⟨rfl, rfl⟩, ⟨Nat.le_of_ble_eq_true rfl, Nat.le_of_ble_eq_true rfl⟩, Nat.le_of_ble_eq_true rfl, rfl, rfl⟩ rfl rfl rfl
                refine j_goto (tgt := 14) dX5_goesThrough_91 (by decide) ?_
                refine j_lv (lv2 := [(0, .ref (M 0)), (1, .int (nI 0))]) [0, 1] rfl ?_
                exact ih (i + 1) (tNx sg n (npp sg n (sk sg n k + 1) e)) _ _ (tNx_le (npp_n hq1 e)) (by rw [(hRI.1 h50).2, hps]; rfl) (by have := it_len h50; have := sk_le (sg := sg) (n := n) (itR sg n (sk sg n k)).2; show 5 * (i + 1) ≤ sk sg n (itR sg n (ps sg n i)).2; rw [← hps]; omega) (by have := it_len h50; have := it_n (sg := sg) hq1; omega) (by rw [he2, ← hps, prl_y hq1 h50, show 25 - (i + 1) = 24 - i by omega]; show _ = prl sg n (24 - i) (i + 1) (sk sg n (itR sg n (ps sg n i)).2); rw [hps]) (by have := it_len h50; have := it_n (sg := sg) hq1; have := sk_le (sg := sg) (n := n) (itR sg n (sk sg n k)).2; show n - sk sg n (itR sg n (ps sg n i)).2 < fuel; rw [← hps]; omega)
  exact L14 (n + 1) 0 0 va rd (Nat.zero_le _) rfl (Nat.zero_le _) (by omega) rfl (by omega)

set_option maxHeartbeats 4000000 in
set_option maxRecDepth 100000 in
theorem c_X5_goes1 (M : Nat → Nat) (u m n nx pl it : Nat) (to va : Int32) (sg rd : SS) (hn : n ≤ 120) (hs : SgOk sg n) (s : SS) (hI : Inv s) (hp : (prA sg n).1 = none) : Ct D yX5_goesThrough cX5_goesThrough 4 (some .boolean) ({ frames := 7, cells := 0, slots := 0, locals := 154 } : Room) [.ref (M 0), .int (nI 1)] ((MQx D M u m n nx pl it to va) ++ (AR D (M 8) 120 sg) ++ (AR D (M 9) 10 rd) ++ (AR D (M 1) 455 s)) (fun v_ u_ => v_ = some (.int (bI (okA sg n s (prA sg n).2))) ∧ ∃ (nx1 pl1 it1 : Nat) (to1 va1 : Int32) (rd1 t1 : SS), u_ = (MQx D M u m n nx1 pl1 it1 to1 va1) ++ (AR D (M 8) 120 sg) ++ (AR D (M 9) 10 rd1) ++ (AR D (M 1) 455 t1) ∧ (okA sg n s (prA sg n).2 = true → it1 = (prA sg n).2 ∧ t1 = doN sg n s (prA sg n).2)) := by
  refine ct_of (by decide) (Nat.le_of_ble_eq_true rfl) (lv0 := [(0, .ref (M 0)), (1, .int (nI 1))]) rfl (fun Γ => ?_)
  refine j_aload_n dX5_goesThrough_0 0 rfl ?_
  refine j_iconst (v := nI 0) dX5_goesThrough_1 (by decide) ?_
  refine p_X5_46 (w2 := (MQx D M u m n 0 pl it to va) ++ (AR D (M 8) 120 sg) ++ (AR D (M 9) 10 rd) ++ (AR D (M 1) 455 s)) rfl dX5_goesThrough_2 0 rfl (Nat.le_of_ble_eq_true rfl) (rfl) ?_
  refine j_aload_n dX5_goesThrough_5 0 rfl ?_
  refine j_iconst (v := nI 0) dX5_goesThrough_6 (by decide) ?_
  refine p_X5_89 (w2 := (MQx D M u m n 0 pl 0 to va) ++ (AR D (M 8) 120 sg) ++ (AR D (M 9) 10 rd) ++ (AR D (M 1) 455 s)) rfl dX5_goesThrough_7 0 rfl (Nat.le_of_ble_eq_true rfl) (rfl) ?_
  refine j_aload_n dX5_goesThrough_10 0 rfl ?_
  refine j_V (w2 := (MT D M u m n 0 sg 0 va) ++ (AR D (M 8) 120 sg) ++ (AR D (M 9) 10 rd) ++ (AR D (M 1) 455 s)) (st2 := []) (c_X5_takes M u m n 0 pl 0 to va sg (by omega) (Nat.zero_le n)) rfl cw_X5_65 dX5_goesThrough_11 [] rfl [0, 1] rfl rfl rfl 5 ?_ ⟨rfl, ⟨Nat.le_of_ble_eq_true rfl, Nat.le_of_ble_eq_true rfl⟩, ⟨rfl, rfl⟩, ⟨Nat.le_of_ble_eq_true rfl, Nat.le_of_ble_eq_true rfl⟩, Nat.le_of_ble_eq_true rfl, rfl, rfl⟩ rfl rfl rfl
  have L14 : ∀ (fuel : Nat) (i k : Nat) (va : Int32) (rd : SS), k ≤ n → sk sg n k = ps sg n i → 5 * i ≤ ps sg n i → i ≤ 24 → prA sg n = prl sg n (25 - i) i (ps sg n i) → okA sg n s i = true → Inv (doN sg n s i) → n - ps sg n i < fuel → J D Γ yX5_goesThrough cX5_goesThrough 4 (some .boolean) ({ frames := 7, cells := 0, slots := 0, locals := 154 } : Room) (Qf D Γ ({ frames := 7, cells := 0, slots := 0, locals := 154 } : Room) (fun v_ u_ => v_ = some (.int (bI (okA sg n s (prA sg n).2))) ∧ ∃ (nx1 pl1 it1 : Nat) (to1 va1 : Int32) (rd1 t1 : SS), u_ = (MQx D M u m n nx1 pl1 it1 to1 va1) ++ (AR D (M 8) 120 sg) ++ (AR D (M 9) 10 rd1) ++ (AR D (M 1) 455 t1) ∧ (okA sg n s (prA sg n).2 = true → it1 = (prA sg n).2 ∧ t1 = doN sg n s (prA sg n).2))) 0 0 ((MT D M u m n i sg k va) ++ (AR D (M 8) 120 sg) ++ (AR D (M 9) 10 rd) ++ (AR D (M 1) 455 (doN sg n s i))) 14 [(0, .ref (M 0)), (1, .int (nI 1))] [] := by
    intro fuel
    induction fuel with
    | zero => intro i k va rd hk hps h5 hi1 he hok hId hm; exact absurd hm (Nat.not_lt_zero _)
    | succ fuel ih =>
      intro i k va rd hk hps h5 hi1 he hok hId hm
      have he2 := he
      rw [show 25 - i = (24 - i) + 1 by omega] at he2
      refine j_aload_n dX5_goesThrough_14 0 rfl ?_
      refine g_X5_53 rfl dX5_goesThrough_15 0 rfl rfl ?_
      refine j_iconst (v := (-1)) dX5_goesThrough_18 (by decide) ?_
      refine j_icmp_eq (tgt := 94) dX5_goesThrough_19 (by decide) (fun h19 => ?_) (fun h19 => ?_)
      · skip
        have hlt := tT_m hs h19
        rw [hps] at hlt
        rw [prl_n hlt] at he2
        refine j_iconst (v := nI 1) dX5_goesThrough_94 (by decide) ?_
        exact j_zret dX5_goesThrough_95 (rfl) ⟨rfl, rfl⟩ ⟨rv_t (by rw [he2]; exact hok), _, _, _, _, _, _, _, rfl, fun _ => ⟨by rw [he2], by rw [he2]⟩⟩
      · skip
        have hlt := tT_nm h19
        refine j_aload_n dX5_goesThrough_22 0 rfl ?_
        refine g_X5_53 rfl dX5_goesThrough_23 0 rfl rfl ?_
        refine j_istore_n (lv2 := [(0, .ref (M 0)), (1, .int (nI 1)), (2, .int (tTo sg n k))]) dX5_goesThrough_26 (by decide) [1, 2, 0] rfl ?_
        refine j_iload_n dX5_goesThrough_27 2 rfl ?_
        refine j_bipush (v := nI 108) dX5_goesThrough_28 (by decide) ?_
        refine j_icmp_eq (tgt := 45) dX5_goesThrough_30 (by decide) (fun h30 => ?_) (fun h30 => ?_)
        · skip
          obtain ⟨hq1, hq2, hq3⟩ := tT_c (by decide) h30
          refine j_w (w2 := (MQx D M u m n (sk sg n k + 1) (sk sg n k) i (tTo sg n k) (tVa sg n k va)) ++ (AR D (M 8) 120 sg) ++ (AR D (M 9) 10 rd) ++ (AR D (M 1) 455 (doN sg n s i))) (by rw [show MT D M u m n i sg k va = MQx D M u m n (sk sg n k + 1) (sk sg n k) i (tTo sg n k) (tVa sg n k va) from by unfold MT; rw [hq3]]) ?_
          refine j_aload_n dX5_goesThrough_45 0 rfl ?_
          refine j_iload_n dX5_goesThrough_46 2 rfl ?_
          refine j_topi (v := nI 108) h30 ?_
          refine j_callV (c_X5_readsItem_l M u m n (sk sg n k) (sk sg n k) i (tTo sg n k) (tVa sg n k va) sg rd hn hq1 hs hq2) rfl cw_X5_92 rfl ⟨Nat.le_of_ble_eq_true rfl, Nat.le_of_ble_eq_true rfl⟩ ⟨rfl, rfl⟩ ⟨Nat.le_of_ble_eq_true rfl, Nat.le_of_ble_eq_true rfl⟩ dX5_goesThrough_47 (rest := []) rfl (Nat.le_of_ble_eq_true rfl) [0, 1, 2] rfl rfl 5 0 rfl rfl rfl (fun v_ w_ hf_ => ?_)
          obtain ⟨rfl, e, rfl, hRI⟩ := hf_
          refine ⟨rfl, ?_⟩
          refine j_ws (w2 := (MT D M u m n i sg (npp sg n (sk sg n k + 1) e) (vaN sg n (sk sg n k + 1) (tVa sg n k va) e)) ++ (AR D (M 8) 120 sg) ++ (AR D (M 9) 10 (rdN sg n (sk sg n k + 1) rd e)) ++ (AR D (M 1) 455 (doN sg n s i))) (st2 := [.int (bI ((itR sg n (sk sg n k)).1))]) rfl rfl ?_
          refine j_if_eq_B (tgt := 57) dX5_goesThrough_50 (by decide) (fun h50 => absurd hp (by rw [he2, ← hps, prl_e hlt h50]; exact Option.some_ne_none _)) (fun h50 => ?_)
          refine j_iconst (v := nI 1) dX5_goesThrough_53 (by decide) ?_
          refine j_goto (tgt := 58) dX5_goesThrough_54 (by decide) ?_
          refine j_istore_n (lv2 := [(0, .ref (M 0)), (1, .int (nI 1)), (2, .int (tTo sg n k)), (3, .int (nI 1))]) dX5_goesThrough_58 (by decide) [1, 2, 3, 0] rfl ?_
          refine j_iload_n dX5_goesThrough_59 3 rfl ?_
          refine j_if_eq_N (tgt := 75) dX5_goesThrough_60 (by decide) (by omega) (fun h60 => absurd h60 (by decide)) (fun h60 => ?_)
          refine j_iload_n dX5_goesThrough_63 1 rfl ?_
          refine j_if_eq_N (tgt := 77) dX5_goesThrough_64 (by decide) (by omega) (fun h64 => absurd h64 (by decide)) (fun h64 => ?_)
          refine j_aload_n dX5_goesThrough_67 0 rfl ?_
          refine j_iload_n dX5_goesThrough_68 2 rfl ?_
          refine j_topi (v := sg (sk sg n k)) (h30.trans hq2.symm) ?_
          have hit := it_ok h50
          have hiv := RI_iv (rd := rd) hRI h50
          have hcg := doI_cong (s := doN sg n s i) (v := rdN sg n (sk sg n k + 1) rd e) hiv hit.1
          have hv : ItOk (sg (sk sg n k)) (rdN sg n (sk sg n k + 1) rd e) := ⟨hit.1, fun j hj => by rw [hiv j hj]; exact hit.2 j hj⟩
          refine j_V (w2 := (MT D M u m n i sg (npp sg n (sk sg n k + 1) e) (vaN sg n (sk sg n k + 1) (tVa sg n k va) e)) ++ (AR D (M 8) 120 sg) ++ (AR D (M 9) 10 (rdN sg n (sk sg n k + 1) rd e)) ++ (AR D (M 1) 455 (if okI (doN sg n s i) (sg (sk sg n k)) (rdN sg n (sk sg n k + 1) rd e) = true then doI (doN sg n s i) (sg (sk sg n k)) (rdN sg n (sk sg n k + 1) rd e) else doN sg n s i))) (st2 := [.int (bI (okI (doN sg n s i) (sg (sk sg n k)) (rdN sg n (sk sg n k + 1) rd e)))]) (c_X5_doesItem M (u, m, n, tNx sg n (npp sg n (sk sg n k + 1) e), sk sg n (npp sg n (sk sg n k + 1) e), i, tTo sg n (npp sg n (sk sg n k + 1) e), tVa sg n (npp sg n (sk sg n k + 1) e) (vaN sg n (sk sg n k + 1) (tVa sg n k va) e)) (doN sg n s i) (rdN sg n (sk sg n k + 1) rd e) hId (sg (sk sg n k)) hv) rfl cw_X5_95 dX5_goesThrough_69 [] rfl [0, 3, 2] rfl rfl rfl 5 ?_ ⟨rfl, ⟨Nat.le_of_ble_eq_true rfl, Nat.le_of_ble_eq_true rfl⟩, ⟨rfl, rfl⟩, ⟨Nat.le_of_ble_eq_true rfl, Nat.le_of_ble_eq_true rfl⟩, Nat.le_of_ble_eq_true rfl, rfl, rfl⟩ rfl rfl rfl
          refine j_if_ne_B (tgt := 77) dX5_goesThrough_72 (by decide) (fun h72 => ?_) (fun h72 => ?_)
          · skip
            refine j_w (w2 := (MT D M u m n i sg (npp sg n (sk sg n k + 1) e) (vaN sg n (sk sg n k + 1) (tVa sg n k va) e)) ++ (AR D (M 8) 120 sg) ++ (AR D (M 9) 10 (rdN sg n (sk sg n k + 1) rd e)) ++ (AR D (M 1) 455 (doN sg n s (i + 1)))) (by rw [if_pos h72, hcg.1, show doN sg n s (i + 1) = doI (doN sg n s i) (sg (sk sg n k)) (iv sg n (sk sg n k)) from by rw [hps]; rfl]) ?_
            refine j_aload_n dX5_goesThrough_77 0 rfl ?_
            refine j_dup dX5_goesThrough_78 rfl ?_
            refine g_X5_89 rfl dX5_goesThrough_79 0 rfl rfl ?_
            refine j_iconst (v := nI 1) dX5_goesThrough_82 (by decide) ?_
            refine j_iadd (v := nI (i + 1)) dX5_goesThrough_83 (nI_add _ _) ?_
            refine p_X5_89 (w2 := (MT D M u m n (i + 1) sg (npp sg n (sk sg n k + 1) e) (vaN sg n (sk sg n k + 1) (tVa sg n k va) e)) ++ (AR D (M 8) 120 sg) ++ (AR D (M 9) 10 (rdN sg n (sk sg n k + 1) rd e)) ++ (AR D (M 1) 455 (doN sg n s (i + 1)))) rfl dX5_goesThrough_84 0 rfl (Nat.le_of_ble_eq_true rfl) (rfl) ?_
            refine j_aload_n dX5_goesThrough_87 0 rfl ?_
            refine j_V (w2 := (MT D M u m n (i + 1) sg (tNx sg n (npp sg n (sk sg n k + 1) e)) (tVa sg n (npp sg n (sk sg n k + 1) e) (vaN sg n (sk sg n k + 1) (tVa sg n k va) e))) ++ (AR D (M 8) 120 sg) ++ (AR D (M 9) 10 (rdN sg n (sk sg n k + 1) rd e)) ++ (AR D (M 1) 455 (doN sg n s (i + 1)))) (st2 := []) (c_X5_takes M u m n (tNx sg n (npp sg n (sk sg n k + 1) e)) (sk sg n (npp sg n (sk sg n k + 1) e)) (i + 1) (tTo sg n (npp sg n (sk sg n k + 1) e)) (tVa sg n (npp sg n (sk sg n k + 1) e) (vaN sg n (sk sg n k + 1) (tVa sg n k va) e)) sg (by omega) (tNx_le (npp_n hq1 e))) rfl cw_X5_65 dX5_goesThrough_88 [] rfl [0, 1] rfl rfl rfl 5 ?_ ⟨rfl, ⟨Nat.le_of_ble_eq_true rfl, Nat.le_of_ble_eq_true rfl⟩, ⟨rfl, rfl⟩, ⟨Nat.le_of_ble_eq_true rfl, Nat.le_of_ble_eq_true rfl⟩, Nat.le_of_ble_eq_true rfl, rfl, rfl⟩ rfl rfl rfl
            refine j_goto (tgt := 14) dX5_goesThrough_91 (by decide) ?_
            refine j_lv (lv2 := [(0, .ref (M 0)), (1, .int (nI 1))]) [0, 1] rfl ?_
            exact ih (i + 1) (tNx sg n (npp sg n (sk sg n k + 1) e)) _ _ (tNx_le (npp_n hq1 e)) (by rw [(hRI.1 h50).2, hps]; rfl) (by have := it_len h50; have := sk_le (sg := sg) (n := n) (itR sg n (sk sg n k)).2; show 5 * (i + 1) ≤ sk sg n (itR sg n (ps sg n i)).2; rw [← hps]; omega) (by have := it_len h50; have := it_n (sg := sg) hq1; omega) (by rw [he2, ← hps, prl_y hq1 h50, show 25 - (i + 1) = 24 - i by omega]; show _ = prl sg n (24 - i) (i + 1) (sk sg n (itR sg n (ps sg n i)).2); rw [hps]) (by show (okA sg n s i && _) = true; rw [hok, ← hps, ← hcg.2, h72]; rfl) (by show Inv (doI (doN sg n s i) (sg (ps sg n i)) (iv sg n (ps sg n i))); rw [← hps]; exact Inv_do hId hit) (by have := it_len h50; have := it_n (sg := sg) hq1; have := sk_le (sg := sg) (n := n) (itR sg n (sk sg n k)).2; show n - sk sg n (itR sg n (ps sg n i)).2 < fuel; rw [← hps]; omega)
          · skip
            have hno : okA sg n s (prA sg n).2 = false := okA_no (i := i) (by show (okA sg n s i && _) = false; rw [← hps, ← hcg.2, h72, Bool.and_false]) (by rw [he2, ← hps, prl_y hq1 h50]; exact prl_ge _ _ _)
            refine j_iconst (v := nI 0) dX5_goesThrough_75 (by decide) ?_
            exact j_zret dX5_goesThrough_76 (rfl) ⟨rfl, rfl⟩ ⟨rv_f hno, _, _, _, _, _, _, _, rfl, fun q => by rw [hno] at q; cases q⟩
        · skip
          refine j_iload_n dX5_goesThrough_33 2 rfl ?_
          refine j_bipush (v := nI 102) dX5_goesThrough_34 (by decide) ?_
          refine j_icmp_eq (tgt := 45) dX5_goesThrough_36 (by decide) (fun h36 => ?_) (fun h36 => ?_)
          · skip
            obtain ⟨hq1, hq2, hq3⟩ := tT_c (by decide) h36
            refine j_w (w2 := (MQx D M u m n (sk sg n k + 1) (sk sg n k) i (tTo sg n k) (tVa sg n k va)) ++ (AR D (M 8) 120 sg) ++ (AR D (M 9) 10 rd) ++ (AR D (M 1) 455 (doN sg n s i))) (by rw [show MT D M u m n i sg k va = MQx D M u m n (sk sg n k + 1) (sk sg n k) i (tTo sg n k) (tVa sg n k va) from by unfold MT; rw [hq3]]) ?_
            refine j_aload_n dX5_goesThrough_45 0 rfl ?_
            refine j_iload_n dX5_goesThrough_46 2 rfl ?_
            refine j_topi (v := nI 102) h36 ?_
            refine j_callV (c_X5_readsItem_f M u m n (sk sg n k) (sk sg n k) i (tTo sg n k) (tVa sg n k va) sg rd hn hq1 hs hq2) rfl cw_X5_92 rfl ⟨Nat.le_of_ble_eq_true rfl, Nat.le_of_ble_eq_true rfl⟩ ⟨rfl, rfl⟩ ⟨Nat.le_of_ble_eq_true rfl, Nat.le_of_ble_eq_true rfl⟩ dX5_goesThrough_47 (rest := []) rfl (Nat.le_of_ble_eq_true rfl) [0, 1, 2] rfl rfl 5 0 rfl rfl rfl (fun v_ w_ hf_ => ?_)
            obtain ⟨rfl, e, rfl, hRI⟩ := hf_
            refine ⟨rfl, ?_⟩
            refine j_ws (w2 := (MT D M u m n i sg (npp sg n (sk sg n k + 1) e) (vaN sg n (sk sg n k + 1) (tVa sg n k va) e)) ++ (AR D (M 8) 120 sg) ++ (AR D (M 9) 10 (rdN sg n (sk sg n k + 1) rd e)) ++ (AR D (M 1) 455 (doN sg n s i))) (st2 := [.int (bI ((itR sg n (sk sg n k)).1))]) rfl rfl ?_
            refine j_if_eq_B (tgt := 57) dX5_goesThrough_50 (by decide) (fun h50 => absurd hp (by rw [he2, ← hps, prl_e hlt h50]; exact Option.some_ne_none _)) (fun h50 => ?_)
            refine j_iconst (v := nI 1) dX5_goesThrough_53 (by decide) ?_
            refine j_goto (tgt := 58) dX5_goesThrough_54 (by decide) ?_
            refine j_istore_n (lv2 := [(0, .ref (M 0)), (1, .int (nI 1)), (2, .int (tTo sg n k)), (3, .int (nI 1))]) dX5_goesThrough_58 (by decide) [1, 2, 3, 0] rfl ?_
            refine j_iload_n dX5_goesThrough_59 3 rfl ?_
            refine j_if_eq_N (tgt := 75) dX5_goesThrough_60 (by decide) (by omega) (fun h60 => absurd h60 (by decide)) (fun h60 => ?_)
            refine j_iload_n dX5_goesThrough_63 1 rfl ?_
            refine j_if_eq_N (tgt := 77) dX5_goesThrough_64 (by decide) (by omega) (fun h64 => absurd h64 (by decide)) (fun h64 => ?_)
            refine j_aload_n dX5_goesThrough_67 0 rfl ?_
            refine j_iload_n dX5_goesThrough_68 2 rfl ?_
            refine j_topi (v := sg (sk sg n k)) (h36.trans hq2.symm) ?_
            have hit := it_ok h50
            have hiv := RI_iv (rd := rd) hRI h50
            have hcg := doI_cong (s := doN sg n s i) (v := rdN sg n (sk sg n k + 1) rd e) hiv hit.1
            have hv : ItOk (sg (sk sg n k)) (rdN sg n (sk sg n k + 1) rd e) := ⟨hit.1, fun j hj => by rw [hiv j hj]; exact hit.2 j hj⟩
            refine j_V (w2 := (MT D M u m n i sg (npp sg n (sk sg n k + 1) e) (vaN sg n (sk sg n k + 1) (tVa sg n k va) e)) ++ (AR D (M 8) 120 sg) ++ (AR D (M 9) 10 (rdN sg n (sk sg n k + 1) rd e)) ++ (AR D (M 1) 455 (if okI (doN sg n s i) (sg (sk sg n k)) (rdN sg n (sk sg n k + 1) rd e) = true then doI (doN sg n s i) (sg (sk sg n k)) (rdN sg n (sk sg n k + 1) rd e) else doN sg n s i))) (st2 := [.int (bI (okI (doN sg n s i) (sg (sk sg n k)) (rdN sg n (sk sg n k + 1) rd e)))]) (c_X5_doesItem M (u, m, n, tNx sg n (npp sg n (sk sg n k + 1) e), sk sg n (npp sg n (sk sg n k + 1) e), i, tTo sg n (npp sg n (sk sg n k + 1) e), tVa sg n (npp sg n (sk sg n k + 1) e) (vaN sg n (sk sg n k + 1) (tVa sg n k va) e)) (doN sg n s i) (rdN sg n (sk sg n k + 1) rd e) hId (sg (sk sg n k)) hv) rfl cw_X5_95 dX5_goesThrough_69 [] rfl [0, 3, 2] rfl rfl rfl 5 ?_ ⟨rfl, ⟨Nat.le_of_ble_eq_true rfl, Nat.le_of_ble_eq_true rfl⟩, ⟨rfl, rfl⟩, ⟨Nat.le_of_ble_eq_true rfl, Nat.le_of_ble_eq_true rfl⟩, Nat.le_of_ble_eq_true rfl, rfl, rfl⟩ rfl rfl rfl
            refine j_if_ne_B (tgt := 77) dX5_goesThrough_72 (by decide) (fun h72 => ?_) (fun h72 => ?_)
            · skip
              refine j_w (w2 := (MT D M u m n i sg (npp sg n (sk sg n k + 1) e) (vaN sg n (sk sg n k + 1) (tVa sg n k va) e)) ++ (AR D (M 8) 120 sg) ++ (AR D (M 9) 10 (rdN sg n (sk sg n k + 1) rd e)) ++ (AR D (M 1) 455 (doN sg n s (i + 1)))) (by rw [if_pos h72, hcg.1, show doN sg n s (i + 1) = doI (doN sg n s i) (sg (sk sg n k)) (iv sg n (sk sg n k)) from by rw [hps]; rfl]) ?_
              refine j_aload_n dX5_goesThrough_77 0 rfl ?_
              refine j_dup dX5_goesThrough_78 rfl ?_
              refine g_X5_89 rfl dX5_goesThrough_79 0 rfl rfl ?_
              refine j_iconst (v := nI 1) dX5_goesThrough_82 (by decide) ?_
              refine j_iadd (v := nI (i + 1)) dX5_goesThrough_83 (nI_add _ _) ?_
              refine p_X5_89 (w2 := (MT D M u m n (i + 1) sg (npp sg n (sk sg n k + 1) e) (vaN sg n (sk sg n k + 1) (tVa sg n k va) e)) ++ (AR D (M 8) 120 sg) ++ (AR D (M 9) 10 (rdN sg n (sk sg n k + 1) rd e)) ++ (AR D (M 1) 455 (doN sg n s (i + 1)))) rfl dX5_goesThrough_84 0 rfl (Nat.le_of_ble_eq_true rfl) (rfl) ?_
              refine j_aload_n dX5_goesThrough_87 0 rfl ?_
              refine j_V (w2 := (MT D M u m n (i + 1) sg (tNx sg n (npp sg n (sk sg n k + 1) e)) (tVa sg n (npp sg n (sk sg n k + 1) e) (vaN sg n (sk sg n k + 1) (tVa sg n k va) e))) ++ (AR D (M 8) 120 sg) ++ (AR D (M 9) 10 (rdN sg n (sk sg n k + 1) rd e)) ++ (AR D (M 1) 455 (doN sg n s (i + 1)))) (st2 := []) (c_X5_takes M u m n (tNx sg n (npp sg n (sk sg n k + 1) e)) (sk sg n (npp sg n (sk sg n k + 1) e)) (i + 1) (tTo sg n (npp sg n (sk sg n k + 1) e)) (tVa sg n (npp sg n (sk sg n k + 1) e) (vaN sg n (sk sg n k + 1) (tVa sg n k va) e)) sg (by omega) (tNx_le (npp_n hq1 e))) rfl cw_X5_65 dX5_goesThrough_88 [] rfl [0, 1] rfl rfl rfl 5 ?_ ⟨rfl, ⟨Nat.le_of_ble_eq_true rfl, Nat.le_of_ble_eq_true rfl⟩, ⟨rfl, rfl⟩, ⟨Nat.le_of_ble_eq_true rfl, Nat.le_of_ble_eq_true rfl⟩, Nat.le_of_ble_eq_true rfl, rfl, rfl⟩ rfl rfl rfl
              refine j_goto (tgt := 14) dX5_goesThrough_91 (by decide) ?_
              refine j_lv (lv2 := [(0, .ref (M 0)), (1, .int (nI 1))]) [0, 1] rfl ?_
              exact ih (i + 1) (tNx sg n (npp sg n (sk sg n k + 1) e)) _ _ (tNx_le (npp_n hq1 e)) (by rw [(hRI.1 h50).2, hps]; rfl) (by have := it_len h50; have := sk_le (sg := sg) (n := n) (itR sg n (sk sg n k)).2; show 5 * (i + 1) ≤ sk sg n (itR sg n (ps sg n i)).2; rw [← hps]; omega) (by have := it_len h50; have := it_n (sg := sg) hq1; omega) (by rw [he2, ← hps, prl_y hq1 h50, show 25 - (i + 1) = 24 - i by omega]; show _ = prl sg n (24 - i) (i + 1) (sk sg n (itR sg n (ps sg n i)).2); rw [hps]) (by show (okA sg n s i && _) = true; rw [hok, ← hps, ← hcg.2, h72]; rfl) (by show Inv (doI (doN sg n s i) (sg (ps sg n i)) (iv sg n (ps sg n i))); rw [← hps]; exact Inv_do hId hit) (by have := it_len h50; have := it_n (sg := sg) hq1; have := sk_le (sg := sg) (n := n) (itR sg n (sk sg n k)).2; show n - sk sg n (itR sg n (ps sg n i)).2 < fuel; rw [← hps]; omega)
            · skip
              have hno : okA sg n s (prA sg n).2 = false := okA_no (i := i) (by show (okA sg n s i && _) = false; rw [← hps, ← hcg.2, h72, Bool.and_false]) (by rw [he2, ← hps, prl_y hq1 h50]; exact prl_ge _ _ _)
              refine j_iconst (v := nI 0) dX5_goesThrough_75 (by decide) ?_
              exact j_zret dX5_goesThrough_76 (rfl) ⟨rfl, rfl⟩ ⟨rv_f hno, _, _, _, _, _, _, _, rfl, fun q => by rw [hno] at q; cases q⟩
          · skip
            refine j_iload_n dX5_goesThrough_39 2 rfl ?_
            refine j_bipush (v := nI 99) dX5_goesThrough_40 (by decide) ?_
            refine j_icmp_ne (tgt := 57) dX5_goesThrough_42 (by decide) (fun h42 => absurd hp (by rw [he2, ← hps, prl_e hlt (by rw [itR_0 (hcn_t h30 h36 h42 hlt)])]; exact Option.some_ne_none _)) (fun h42 => ?_)
            obtain ⟨hq1, hq2, hq3⟩ := tT_c (by decide) h42
            refine j_w (w2 := (MQx D M u m n (sk sg n k + 1) (sk sg n k) i (tTo sg n k) (tVa sg n k va)) ++ (AR D (M 8) 120 sg) ++ (AR D (M 9) 10 rd) ++ (AR D (M 1) 455 (doN sg n s i))) (by rw [show MT D M u m n i sg k va = MQx D M u m n (sk sg n k + 1) (sk sg n k) i (tTo sg n k) (tVa sg n k va) from by unfold MT; rw [hq3]]) ?_
            refine j_aload_n dX5_goesThrough_45 0 rfl ?_
            refine j_iload_n dX5_goesThrough_46 2 rfl ?_
            refine j_topi (v := nI 99) h42 ?_
            refine j_callV (c_X5_readsItem_c M u m n (sk sg n k) (sk sg n k) i (tTo sg n k) (tVa sg n k va) sg rd hn hq1 hs hq2) rfl cw_X5_92 rfl ⟨Nat.le_of_ble_eq_true rfl, Nat.le_of_ble_eq_true rfl⟩ ⟨rfl, rfl⟩ ⟨Nat.le_of_ble_eq_true rfl, Nat.le_of_ble_eq_true rfl⟩ dX5_goesThrough_47 (rest := []) rfl (Nat.le_of_ble_eq_true rfl) [0, 1, 2] rfl rfl 5 0 rfl rfl rfl (fun v_ w_ hf_ => ?_)
            obtain ⟨rfl, e, rfl, hRI⟩ := hf_
            refine ⟨rfl, ?_⟩
            refine j_ws (w2 := (MT D M u m n i sg (npp sg n (sk sg n k + 1) e) (vaN sg n (sk sg n k + 1) (tVa sg n k va) e)) ++ (AR D (M 8) 120 sg) ++ (AR D (M 9) 10 (rdN sg n (sk sg n k + 1) rd e)) ++ (AR D (M 1) 455 (doN sg n s i))) (st2 := [.int (bI ((itR sg n (sk sg n k)).1))]) rfl rfl ?_
            refine j_if_eq_B (tgt := 57) dX5_goesThrough_50 (by decide) (fun h50 => absurd hp (by rw [he2, ← hps, prl_e hlt h50]; exact Option.some_ne_none _)) (fun h50 => ?_)
            refine j_iconst (v := nI 1) dX5_goesThrough_53 (by decide) ?_
            refine j_goto (tgt := 58) dX5_goesThrough_54 (by decide) ?_
            refine j_istore_n (lv2 := [(0, .ref (M 0)), (1, .int (nI 1)), (2, .int (tTo sg n k)), (3, .int (nI 1))]) dX5_goesThrough_58 (by decide) [1, 2, 3, 0] rfl ?_
            refine j_iload_n dX5_goesThrough_59 3 rfl ?_
            refine j_if_eq_N (tgt := 75) dX5_goesThrough_60 (by decide) (by omega) (fun h60 => absurd h60 (by decide)) (fun h60 => ?_)
            refine j_iload_n dX5_goesThrough_63 1 rfl ?_
            refine j_if_eq_N (tgt := 77) dX5_goesThrough_64 (by decide) (by omega) (fun h64 => absurd h64 (by decide)) (fun h64 => ?_)
            refine j_aload_n dX5_goesThrough_67 0 rfl ?_
            refine j_iload_n dX5_goesThrough_68 2 rfl ?_
            refine j_topi (v := sg (sk sg n k)) (h42.trans hq2.symm) ?_
            have hit := it_ok h50
            have hiv := RI_iv (rd := rd) hRI h50
            have hcg := doI_cong (s := doN sg n s i) (v := rdN sg n (sk sg n k + 1) rd e) hiv hit.1
            have hv : ItOk (sg (sk sg n k)) (rdN sg n (sk sg n k + 1) rd e) := ⟨hit.1, fun j hj => by rw [hiv j hj]; exact hit.2 j hj⟩
            refine j_V (w2 := (MT D M u m n i sg (npp sg n (sk sg n k + 1) e) (vaN sg n (sk sg n k + 1) (tVa sg n k va) e)) ++ (AR D (M 8) 120 sg) ++ (AR D (M 9) 10 (rdN sg n (sk sg n k + 1) rd e)) ++ (AR D (M 1) 455 (if okI (doN sg n s i) (sg (sk sg n k)) (rdN sg n (sk sg n k + 1) rd e) = true then doI (doN sg n s i) (sg (sk sg n k)) (rdN sg n (sk sg n k + 1) rd e) else doN sg n s i))) (st2 := [.int (bI (okI (doN sg n s i) (sg (sk sg n k)) (rdN sg n (sk sg n k + 1) rd e)))]) (c_X5_doesItem M (u, m, n, tNx sg n (npp sg n (sk sg n k + 1) e), sk sg n (npp sg n (sk sg n k + 1) e), i, tTo sg n (npp sg n (sk sg n k + 1) e), tVa sg n (npp sg n (sk sg n k + 1) e) (vaN sg n (sk sg n k + 1) (tVa sg n k va) e)) (doN sg n s i) (rdN sg n (sk sg n k + 1) rd e) hId (sg (sk sg n k)) hv) rfl cw_X5_95 dX5_goesThrough_69 [] rfl [0, 3, 2] rfl rfl rfl 5 ?_ ⟨rfl, ⟨Nat.le_of_ble_eq_true rfl, Nat.le_of_ble_eq_true rfl⟩, ⟨rfl, rfl⟩, ⟨Nat.le_of_ble_eq_true rfl, Nat.le_of_ble_eq_true rfl⟩, Nat.le_of_ble_eq_true rfl, rfl, rfl⟩ rfl rfl rfl
            refine j_if_ne_B (tgt := 77) dX5_goesThrough_72 (by decide) (fun h72 => ?_) (fun h72 => ?_)
            · skip
              refine j_w (w2 := (MT D M u m n i sg (npp sg n (sk sg n k + 1) e) (vaN sg n (sk sg n k + 1) (tVa sg n k va) e)) ++ (AR D (M 8) 120 sg) ++ (AR D (M 9) 10 (rdN sg n (sk sg n k + 1) rd e)) ++ (AR D (M 1) 455 (doN sg n s (i + 1)))) (by rw [if_pos h72, hcg.1, show doN sg n s (i + 1) = doI (doN sg n s i) (sg (sk sg n k)) (iv sg n (sk sg n k)) from by rw [hps]; rfl]) ?_
              refine j_aload_n dX5_goesThrough_77 0 rfl ?_
              refine j_dup dX5_goesThrough_78 rfl ?_
              refine g_X5_89 rfl dX5_goesThrough_79 0 rfl rfl ?_
              refine j_iconst (v := nI 1) dX5_goesThrough_82 (by decide) ?_
              refine j_iadd (v := nI (i + 1)) dX5_goesThrough_83 (nI_add _ _) ?_
              refine p_X5_89 (w2 := (MT D M u m n (i + 1) sg (npp sg n (sk sg n k + 1) e) (vaN sg n (sk sg n k + 1) (tVa sg n k va) e)) ++ (AR D (M 8) 120 sg) ++ (AR D (M 9) 10 (rdN sg n (sk sg n k + 1) rd e)) ++ (AR D (M 1) 455 (doN sg n s (i + 1)))) rfl dX5_goesThrough_84 0 rfl (Nat.le_of_ble_eq_true rfl) (rfl) ?_
              refine j_aload_n dX5_goesThrough_87 0 rfl ?_
              refine j_V (w2 := (MT D M u m n (i + 1) sg (tNx sg n (npp sg n (sk sg n k + 1) e)) (tVa sg n (npp sg n (sk sg n k + 1) e) (vaN sg n (sk sg n k + 1) (tVa sg n k va) e))) ++ (AR D (M 8) 120 sg) ++ (AR D (M 9) 10 (rdN sg n (sk sg n k + 1) rd e)) ++ (AR D (M 1) 455 (doN sg n s (i + 1)))) (st2 := []) (c_X5_takes M u m n (tNx sg n (npp sg n (sk sg n k + 1) e)) (sk sg n (npp sg n (sk sg n k + 1) e)) (i + 1) (tTo sg n (npp sg n (sk sg n k + 1) e)) (tVa sg n (npp sg n (sk sg n k + 1) e) (vaN sg n (sk sg n k + 1) (tVa sg n k va) e)) sg (by omega) (tNx_le (npp_n hq1 e))) rfl cw_X5_65 dX5_goesThrough_88 [] rfl [0, 1] rfl rfl rfl 5 ?_ ⟨rfl, ⟨Nat.le_of_ble_eq_true rfl, Nat.le_of_ble_eq_true rfl⟩, ⟨rfl, rfl⟩, ⟨Nat.le_of_ble_eq_true rfl, Nat.le_of_ble_eq_true rfl⟩, Nat.le_of_ble_eq_true rfl, rfl, rfl⟩ rfl rfl rfl
              refine j_goto (tgt := 14) dX5_goesThrough_91 (by decide) ?_
              refine j_lv (lv2 := [(0, .ref (M 0)), (1, .int (nI 1))]) [0, 1] rfl ?_
              exact ih (i + 1) (tNx sg n (npp sg n (sk sg n k + 1) e)) _ _ (tNx_le (npp_n hq1 e)) (by rw [(hRI.1 h50).2, hps]; rfl) (by have := it_len h50; have := sk_le (sg := sg) (n := n) (itR sg n (sk sg n k)).2; show 5 * (i + 1) ≤ sk sg n (itR sg n (ps sg n i)).2; rw [← hps]; omega) (by have := it_len h50; have := it_n (sg := sg) hq1; omega) (by rw [he2, ← hps, prl_y hq1 h50, show 25 - (i + 1) = 24 - i by omega]; show _ = prl sg n (24 - i) (i + 1) (sk sg n (itR sg n (ps sg n i)).2); rw [hps]) (by show (okA sg n s i && _) = true; rw [hok, ← hps, ← hcg.2, h72]; rfl) (by show Inv (doI (doN sg n s i) (sg (ps sg n i)) (iv sg n (ps sg n i))); rw [← hps]; exact Inv_do hId hit) (by have := it_len h50; have := it_n (sg := sg) hq1; have := sk_le (sg := sg) (n := n) (itR sg n (sk sg n k)).2; show n - sk sg n (itR sg n (ps sg n i)).2 < fuel; rw [← hps]; omega)
            · skip
              have hno : okA sg n s (prA sg n).2 = false := okA_no (i := i) (by show (okA sg n s i && _) = false; rw [← hps, ← hcg.2, h72, Bool.and_false]) (by rw [he2, ← hps, prl_y hq1 h50]; exact prl_ge _ _ _)
              refine j_iconst (v := nI 0) dX5_goesThrough_75 (by decide) ?_
              exact j_zret dX5_goesThrough_76 (rfl) ⟨rfl, rfl⟩ ⟨rv_f hno, _, _, _, _, _, _, _, rfl, fun q => by rw [hno] at q; cases q⟩
  exact L14 (n + 1) 0 0 va rd (Nat.zero_le _) rfl (Nat.zero_le _) (by omega) rfl rfl hI (by omega)

set_option maxHeartbeats 4000000 in
set_option maxRecDepth 100000 in
theorem c_X5_posts_fault (M : Nat → Nat) (u m n nx pl it : Nat) (to va : Int32) (sg rd : SS) (hn : n ≤ 120) (hs : SgOk sg n) (f : Nat) (hp : (prA sg n).1 = some f) : Ct D yX5_posts cX5_posts 1 (some .int) ({ frames := 8, cells := 0, slots := 0, locals := 177 } : Room) [.ref (M 0)] ((MQx D M u m n nx pl it to va) ++ (AR D (M 8) 120 sg) ++ (AR D (M 9) 10 rd)) (fun v_ u_ => v_ = some (.int ((-10) - nI f)) ∧ ∃ (nx1 pl1 it1 : Nat) (to1 va1 : Int32) (rd1 : SS), u_ = (MQx D M u m n nx1 pl1 it1 to1 va1) ++ (AR D (M 8) 120 sg) ++ (AR D (M 9) 10 rd1)) := by
  refine ct_of (by decide) (Nat.le_of_ble_eq_true rfl) (lv0 := [(0, .ref (M 0))]) rfl (fun Γ => ?_)
  refine j_aload_n dX5_posts_0 0 rfl ?_
  refine j_iconst (v := nI 0) dX5_posts_1 (by decide) ?_
  refine j_callV (c_X5_goes0 M u m n nx pl it to va sg rd hn hs) rfl cw_X5_101 rfl ⟨Nat.le_of_ble_eq_true rfl, Nat.le_of_ble_eq_true rfl⟩ ⟨rfl, rfl⟩ ⟨Nat.le_of_ble_eq_true rfl, Nat.le_of_ble_eq_true rfl⟩ dX5_posts_2 (rest := []) rfl (Nat.le_of_ble_eq_true rfl) [0, 1, 2] rfl rfl 5 0 rfl rfl rfl (fun v_ w_ hf_ => ?_)
  obtain ⟨rfl, nx1, pl1, it1, to1, va1, rd1, rfl, hf⟩ := hf_
  refine ⟨rfl, ?_⟩
  refine j_ws (w2 := (MQx D M u m n nx1 pl1 it1 to1 va1) ++ (AR D (M 8) 120 sg) ++ (AR D (M 9) 10 rd1)) (st2 := [.int (bI ((prA sg n).1.isNone))]) rfl rfl ?_
  refine j_topi (v := bI false) (by rw [hp]; rfl) ?_
  refine j_if_ne_B (tgt := 16) dX5_posts_5 (by decide) (fun h5 => absurd h5 (by decide)) (fun h5 => ?_)
  refine j_bipush (v := (-10)) dX5_posts_8 (by decide) ?_
  refine j_aload_n dX5_posts_10 0 rfl ?_
  refine g_X5_59 rfl dX5_posts_11 0 rfl rfl ?_
  refine j_isub (v := (-10) - nI f) dX5_posts_14 (by rw [hf f hp]) ?_
  exact j_iret dX5_posts_15 ⟨rfl, rfl⟩ ⟨rfl, _, _, _, _, _, _, rfl⟩

set_option maxHeartbeats 4000000 in
set_option maxRecDepth 100000 in
theorem c_X5_posts_full (M : Nat → Nat) (u m n nx pl it : Nat) (to va : Int32) (sg rd : SS) (hn : n ≤ 120) (hs : SgOk sg n) (s sp : SS) (hI : Inv s) (hp : (prA sg n).1 = none) (hA : okA sg n s (prA sg n).2 = false) : Ct D yX5_posts cX5_posts 1 (some .int) ({ frames := 8, cells := 0, slots := 0, locals := 177 } : Room) [.ref (M 0)] ((MQx D M u m n nx pl it to va) ++ (AR D (M 8) 120 sg) ++ (AR D (M 9) 10 rd) ++ (AR D (M 1) 455 s) ++ (AR D (M 5) 455 sp)) (fun v_ u_ => v_ = some (.int (-3)) ∧ ∃ (nx1 pl1 it1 : Nat) (to1 va1 : Int32) (rd1 : SS), u_ = (MQx D M u m n nx1 pl1 it1 to1 va1) ++ (AR D (M 8) 120 sg) ++ (AR D (M 9) 10 rd1) ++ (AR D (M 1) 455 s) ++ (AR D (M 5) 455 s)) := by
  refine ct_of (by decide) (Nat.le_of_ble_eq_true rfl) (lv0 := [(0, .ref (M 0))]) rfl (fun Γ => ?_)
  refine j_aload_n dX5_posts_0 0 rfl ?_
  refine j_iconst (v := nI 0) dX5_posts_1 (by decide) ?_
  refine j_callV (c_X5_goes0 M u m n nx pl it to va sg rd hn hs) rfl cw_X5_101 rfl ⟨Nat.le_of_ble_eq_true rfl, Nat.le_of_ble_eq_true rfl⟩ ⟨rfl, rfl⟩ ⟨Nat.le_of_ble_eq_true rfl, Nat.le_of_ble_eq_true rfl⟩ dX5_posts_2 (rest := []) rfl (Nat.le_of_ble_eq_true rfl) [0, 1, 2] rfl rfl 5 0 rfl rfl rfl (fun v_ w_ hf_ => ?_)
  obtain ⟨rfl, nx1, pl1, it1, to1, va1, rd1, rfl, hf⟩ := hf_
  refine ⟨rfl, ?_⟩
  refine j_ws (w2 := (MQx D M u m n nx1 pl1 it1 to1 va1) ++ (AR D (M 8) 120 sg) ++ (AR D (M 9) 10 rd1) ++ (AR D (M 1) 455 s) ++ (AR D (M 5) 455 sp)) (st2 := [.int (bI ((prA sg n).1.isNone))]) rfl rfl ?_
  refine j_topi (v := bI true) (by rw [hp]; rfl) ?_
  refine j_if_ne_B (tgt := 16) dX5_posts_5 (by decide) (fun h5 => ?_) (fun h5 => absurd h5 (by decide))
  refine j_aload_n dX5_posts_16 0 rfl ?_
  refine j_V (w2 := (MQx D M u m n nx1 pl1 it1 to1 va1) ++ (AR D (M 8) 120 sg) ++ (AR D (M 9) 10 rd1) ++ (AR D (M 1) 455 s) ++ (AR D (M 5) 455 s)) (st2 := []) (c_X5_keepsSpare M (u, m, n, nx1, pl1, it1, to1, va1) s sp) rfl cw_X5_105 dX5_posts_17 [] rfl [0, 3, 4] rfl rfl rfl 5 ?_ ⟨rfl, ⟨Nat.le_of_ble_eq_true rfl, Nat.le_of_ble_eq_true rfl⟩, ⟨rfl, rfl⟩, ⟨Nat.le_of_ble_eq_true rfl, Nat.le_of_ble_eq_true rfl⟩, Nat.le_of_ble_eq_true rfl, rfl, rfl⟩ rfl rfl rfl
  refine j_aload_n dX5_posts_20 0 rfl ?_
  refine j_iconst (v := nI 1) dX5_posts_21 (by decide) ?_
  refine j_callV (c_X5_goes1 M u m n nx1 pl1 it1 to1 va1 sg rd1 hn hs s hI hp) rfl cw_X5_101 rfl ⟨Nat.le_of_ble_eq_true rfl, Nat.le_of_ble_eq_true rfl⟩ ⟨rfl, rfl⟩ ⟨Nat.le_of_ble_eq_true rfl, Nat.le_of_ble_eq_true rfl⟩ dX5_posts_22 (rest := []) rfl (Nat.le_of_ble_eq_true rfl) [0, 1, 2, 3] rfl rfl 5 0 rfl rfl rfl (fun v_ w_ hf_ => ?_)
  obtain ⟨rfl, nx2, pl2, it2, to2, va2, rd2, t2, rfl, hg⟩ := hf_
  refine ⟨rfl, ?_⟩
  refine j_ws (w2 := (MQx D M u m n nx2 pl2 it2 to2 va2) ++ (AR D (M 8) 120 sg) ++ (AR D (M 9) 10 rd2) ++ (AR D (M 1) 455 t2) ++ (AR D (M 5) 455 s)) (st2 := [.int (bI (okA sg n s (prA sg n).2))]) rfl rfl ?_
  refine j_topi (v := bI false) (by rw [hA]) ?_
  refine j_if_ne_B (tgt := 35) dX5_posts_25 (by decide) (fun h25 => absurd h25 (by decide)) (fun h25 => ?_)
  refine j_aload_n dX5_posts_28 0 rfl ?_
  refine j_V (w2 := (MQx D M u m n nx2 pl2 it2 to2 va2) ++ (AR D (M 8) 120 sg) ++ (AR D (M 9) 10 rd2) ++ (AR D (M 1) 455 s) ++ (AR D (M 5) 455 s)) (st2 := []) (c_X5_takesBack M (u, m, n, nx2, pl2, it2, to2, va2) t2 s) rfl cw_X5_108 dX5_posts_29 [] rfl [0, 3, 4] rfl rfl rfl 5 ?_ ⟨rfl, ⟨Nat.le_of_ble_eq_true rfl, Nat.le_of_ble_eq_true rfl⟩, ⟨rfl, rfl⟩, ⟨Nat.le_of_ble_eq_true rfl, Nat.le_of_ble_eq_true rfl⟩, Nat.le_of_ble_eq_true rfl, rfl, rfl⟩ rfl rfl rfl
  refine j_bipush (v := (-3)) dX5_posts_32 (by decide) ?_
  exact j_iret dX5_posts_34 ⟨rfl, rfl⟩ ⟨rfl, _, _, _, _, _, _, rfl⟩

set_option maxHeartbeats 4000000 in
set_option maxRecDepth 100000 in
theorem c_X5_posts_ok (M : Nat → Nat) (u m n nx pl it : Nat) (to va : Int32) (sg rd : SS) (hn : n ≤ 120) (hs : SgOk sg n) (s sp pa : SS) (hI : Inv s) (hp : (prA sg n).1 = none) (hA : okA sg n s (prA sg n).2 = true) (hu : u ≤ 6) : Ct D yX5_posts cX5_posts 1 (some .int) ({ frames := 8, cells := 0, slots := 0, locals := 177 } : Room) [.ref (M 0)] ((MQx D M u m n nx pl it to va) ++ (AR D (M 8) 120 sg) ++ (AR D (M 9) 10 rd) ++ (AR D (M 1) 455 s) ++ (AR D (M 5) 455 sp) ++ (AR D (M 2) 2730 pa)) (fun v_ u_ => v_ = some (.int (nI (prA sg n).2)) ∧ ∃ (nx1 pl1 it1 : Nat) (to1 va1 : Int32) (rd1 : SS), u_ = (MQx D M (min (u + 1) 6) m 0 nx1 pl1 it1 to1 va1) ++ (AR D (M 8) 120 sg) ++ (AR D (M 9) 10 rd1) ++ (AR D (M 1) 455 (doN sg n s (prA sg n).2)) ++ (AR D (M 5) 455 s) ++ (AR D (M 2) 2730 (rmF pa u s))) := by
  refine ct_of (by decide) (Nat.le_of_ble_eq_true rfl) (lv0 := [(0, .ref (M 0))]) rfl (fun Γ => ?_)
  refine j_aload_n dX5_posts_0 0 rfl ?_
  refine j_iconst (v := nI 0) dX5_posts_1 (by decide) ?_
  refine j_callV (c_X5_goes0 M u m n nx pl it to va sg rd hn hs) rfl cw_X5_101 rfl ⟨Nat.le_of_ble_eq_true rfl, Nat.le_of_ble_eq_true rfl⟩ ⟨rfl, rfl⟩ ⟨Nat.le_of_ble_eq_true rfl, Nat.le_of_ble_eq_true rfl⟩ dX5_posts_2 (rest := []) rfl (Nat.le_of_ble_eq_true rfl) [0, 1, 2] rfl rfl 5 0 rfl rfl rfl (fun v_ w_ hf_ => ?_)
  obtain ⟨rfl, nx1, pl1, it1, to1, va1, rd1, rfl, hf⟩ := hf_
  refine ⟨rfl, ?_⟩
  refine j_ws (w2 := (MQx D M u m n nx1 pl1 it1 to1 va1) ++ (AR D (M 8) 120 sg) ++ (AR D (M 9) 10 rd1) ++ (AR D (M 1) 455 s) ++ (AR D (M 5) 455 sp) ++ (AR D (M 2) 2730 pa)) (st2 := [.int (bI ((prA sg n).1.isNone))]) rfl rfl ?_
  refine j_topi (v := bI true) (by rw [hp]; rfl) ?_
  refine j_if_ne_B (tgt := 16) dX5_posts_5 (by decide) (fun h5 => ?_) (fun h5 => absurd h5 (by decide))
  refine j_aload_n dX5_posts_16 0 rfl ?_
  refine j_V (w2 := (MQx D M u m n nx1 pl1 it1 to1 va1) ++ (AR D (M 8) 120 sg) ++ (AR D (M 9) 10 rd1) ++ (AR D (M 1) 455 s) ++ (AR D (M 5) 455 s) ++ (AR D (M 2) 2730 pa)) (st2 := []) (c_X5_keepsSpare M (u, m, n, nx1, pl1, it1, to1, va1) s sp) rfl cw_X5_105 dX5_posts_17 [] rfl [0, 3, 4] rfl rfl rfl 5 ?_ ⟨rfl, ⟨Nat.le_of_ble_eq_true rfl, Nat.le_of_ble_eq_true rfl⟩, ⟨rfl, rfl⟩, ⟨Nat.le_of_ble_eq_true rfl, Nat.le_of_ble_eq_true rfl⟩, Nat.le_of_ble_eq_true rfl, rfl, rfl⟩ rfl rfl rfl
  refine j_aload_n dX5_posts_20 0 rfl ?_
  refine j_iconst (v := nI 1) dX5_posts_21 (by decide) ?_
  refine j_callV (c_X5_goes1 M u m n nx1 pl1 it1 to1 va1 sg rd1 hn hs s hI hp) rfl cw_X5_101 rfl ⟨Nat.le_of_ble_eq_true rfl, Nat.le_of_ble_eq_true rfl⟩ ⟨rfl, rfl⟩ ⟨Nat.le_of_ble_eq_true rfl, Nat.le_of_ble_eq_true rfl⟩ dX5_posts_22 (rest := []) rfl (Nat.le_of_ble_eq_true rfl) [0, 1, 2, 3] rfl rfl 5 0 rfl rfl rfl (fun v_ w_ hf_ => ?_)
  obtain ⟨rfl, nx2, pl2, it2, to2, va2, rd2, t2, rfl, hg⟩ := hf_
  refine ⟨rfl, ?_⟩
  refine j_ws (w2 := (MQx D M u m n nx2 pl2 it2 to2 va2) ++ (AR D (M 8) 120 sg) ++ (AR D (M 9) 10 rd2) ++ (AR D (M 1) 455 t2) ++ (AR D (M 5) 455 s) ++ (AR D (M 2) 2730 pa)) (st2 := [.int (bI (okA sg n s (prA sg n).2))]) rfl rfl ?_
  refine j_topi (v := bI true) (by rw [hA]) ?_
  refine j_if_ne_B (tgt := 35) dX5_posts_25 (by decide) (fun h25 => ?_) (fun h25 => absurd h25 (by decide))
  obtain ⟨hg1, hg2⟩ := hg hA
  refine j_w (w2 := (MQx D M u m n nx2 pl2 it2 to2 va2) ++ (AR D (M 8) 120 sg) ++ (AR D (M 9) 10 rd2) ++ (AR D (M 1) 455 (doN sg n s (prA sg n).2)) ++ (AR D (M 5) 455 s) ++ (AR D (M 2) 2730 pa)) (by rw [hg2]) ?_
  refine j_aload_n dX5_posts_35 0 rfl ?_
  refine j_V (w2 := (MQx D M (min (u + 1) 6) m n nx2 pl2 it2 to2 va2) ++ (AR D (M 8) 120 sg) ++ (AR D (M 9) 10 rd2) ++ (AR D (M 1) 455 (doN sg n s (prA sg n).2)) ++ (AR D (M 5) 455 s) ++ (AR D (M 2) 2730 (rmF pa u s))) (st2 := []) (c_X5_rem M u (m, n, nx2, pl2, it2, to2, va2) pa s hu) rfl cw_X5_111 dX5_posts_36 [] rfl [0, 5, 4] rfl rfl rfl 5 ?_ ⟨rfl, ⟨Nat.le_of_ble_eq_true rfl, Nat.le_of_ble_eq_true rfl⟩, ⟨rfl, rfl⟩, ⟨Nat.le_of_ble_eq_true rfl, Nat.le_of_ble_eq_true rfl⟩, Nat.le_of_ble_eq_true rfl, rfl, rfl⟩ rfl rfl rfl
  refine j_aload_n dX5_posts_39 0 rfl ?_
  refine j_iconst (v := nI 0) dX5_posts_40 (by decide) ?_
  refine p_X5_42 (w2 := (MQx D M (min (u + 1) 6) m 0 nx2 pl2 it2 to2 va2) ++ (AR D (M 8) 120 sg) ++ (AR D (M 9) 10 rd2) ++ (AR D (M 1) 455 (doN sg n s (prA sg n).2)) ++ (AR D (M 5) 455 s) ++ (AR D (M 2) 2730 (rmF pa u s))) rfl dX5_posts_41 0 rfl (Nat.le_of_ble_eq_true rfl) (rfl) ?_
  refine j_aload_n dX5_posts_44 0 rfl ?_
  refine g_X5_89 rfl dX5_posts_45 0 rfl rfl ?_
  refine j_topi (v := nI ((prA sg n).2)) (by rw [hg1]) ?_
  exact j_iret dX5_posts_48 ⟨rfl, rfl⟩ ⟨rfl, _, _, _, _, _, _, rfl⟩

end MD8
