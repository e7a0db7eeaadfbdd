section TX0
variable {sg kd nu : SS} {n k ic : Nat}
theorem itR_e108 (h : sg k = nI 108) : itR sg n k = frl sg n tLL tLM 10 0 (k + 1) := by unfold itR hcn lo3 hi3; rw [h]; rfl
theorem itKd_e108 (h : sg k = nI 108) : itKd sg k ic kd = upd kd ic (sg k) := by unfold itKd hcn; rw [h]; rfl
theorem itNu_e108 (h : sg k = nI 108) : itNu sg n k ic nu = fnu sg n tLL tLM (ic * 10) 10 0 (k + 1) nu := by unfold itNu hcn lo3 hi3; rw [h]; rfl
theorem itR_e102 (h : sg k = nI 102) : itR sg n k = frl sg n tFL tFM 2 0 (k + 1) := by unfold itR hcn lo3 hi3; rw [h]; rfl
theorem itKd_e102 (h : sg k = nI 102) : itKd sg k ic kd = upd kd ic (sg k) := by unfold itKd hcn; rw [h]; rfl
theorem itNu_e102 (h : sg k = nI 102) : itNu sg n k ic nu = fnu sg n tFL tFM (ic * 10) 2 0 (k + 1) nu := by unfold itNu hcn lo3 hi3; rw [h]; rfl
theorem itR_e99 (h : sg k = nI 99) : itR sg n k = frl sg n tTL tTM 3 0 (k + 1) := by unfold itR hcn lo3 hi3; rw [h]; rfl
theorem itKd_e99 (h : sg k = nI 99) : itKd sg k ic kd = upd kd ic (sg k) := by unfold itKd hcn; rw [h]; rfl
theorem itNu_e99 (h : sg k = nI 99) : itNu sg n k ic nu = fnu sg n tTL tTM (ic * 10) 3 0 (k + 1) nu := by unfold itNu hcn lo3 hi3; rw [h]; rfl
theorem hcn_0 {x : Int32} (h1 : ¬ x = nI 108) (h2 : ¬ x = nI 102) (h3 : ¬ x = nI 99) : hcn x = 0 := by unfold hcn; exact (if_neg h1).trans ((if_neg h2).trans (if_neg h3))
end TX0
section TX2
variable {D : DX}
set_option maxHeartbeats 4000000 in
set_option maxRecDepth 100000 in
theorem c_X3_readForm (X : Nat → Nat) (sg kd nu : SS) (k n ic : Nat) (kind : Int32) (ta tb c : Nat) (na nb : String) (lo hi : SS) (ha : ("TransferRings$Text", na, "[I", ta, c, lo) ∈ D.2.2.2) (hb : ("TransferRings$Text", nb, "[I", tb, c, hi) ∈ D.2.2.2) (hc : c ≤ 10) (hn : n ≤ 120) (hk : k < n) (hic : ic < 24) : Ct D yX3_readForm cX3_readForm 5 (some .boolean) ({ frames := 3, cells := 0, slots := 0, locals := 69 } : Room) [.ref (X 0), .int kind, .ref ta, .ref tb] (TW D X sg kd nu k n ic) (fun v_ u_ => v_ = some (.int (bI (frl sg n lo hi c 0 (k + 1)).1)) ∧ u_ = TW D X sg (upd kd ic kind) (fnu sg n lo hi (ic * 10) c 0 (k + 1) nu) ((frl sg n lo hi c 0 (k + 1)).2) n ic) := by
  refine ct_of (by decide) (Nat.le_of_ble_eq_true rfl) (lv0 := [(0, .ref (X 0)), (1, .int kind), (2, .ref ta), (3, .ref tb)]) rfl (fun Γ => ?_)
  refine j_aload_n dX3_readForm_0 0 rfl ?_
  refine g_X3_13 rfl dX3_readForm_1 0 rfl rfl ?_
  refine j_aload_n dX3_readForm_4 0 rfl ?_
  refine g_X3_26 rfl dX3_readForm_5 0 rfl rfl ?_
  refine j_iload_n dX3_readForm_8 1 rfl ?_
  refine j_iast (w2 := TW D X sg (upd kd ic kind) nu k n ic) dX3_readForm_9 2 ic rfl (rfl) (by omega) (Nat.le_of_ble_eq_true rfl) (rfl) ?_
  refine j_aload_n dX3_readForm_10 0 rfl ?_
  refine j_dup dX3_readForm_11 rfl ?_
  refine g_X3_19 rfl dX3_readForm_12 0 rfl rfl ?_
  refine j_iconst (v := nI 1) dX3_readForm_15 (by decide) ?_
  refine j_iadd (v := nI (k + 1)) dX3_readForm_16 (nI_add _ _) ?_
  refine p_X3_19 (w2 := TW D X sg (upd kd ic kind) nu (k + 1) n ic) rfl dX3_readForm_17 0 rfl (Nat.le_of_ble_eq_true rfl) (rfl) ?_
  refine j_iconst (v := nI 0) dX3_readForm_20 (by decide) ?_
  refine j_istore (lv2 := [(0, .ref (X 0)), (1, .int kind), (2, .ref ta), (3, .ref tb), (4, .int (nI 0))]) dX3_readForm_21 (by decide) [1, 2, 3, 4, 0] rfl ?_
  have L23 : ∀ (fuel : Nat) (i k' : Nat) (nu' : SS), i ≤ c → k' ≤ n → frl sg n lo hi c 0 (k + 1) = frl sg n lo hi (c - i) i k' → fnu sg n lo hi (ic * 10) c 0 (k + 1) nu = fnu sg n lo hi (ic * 10) (c - i) i k' nu' → c - i < fuel → J D Γ yX3_readForm cX3_readForm 5 (some .boolean) ({ frames := 3, cells := 0, slots := 0, locals := 69 } : Room) (Qf D Γ ({ frames := 3, cells := 0, slots := 0, locals := 69 } : Room) (fun v_ u_ => v_ = some (.int (bI (frl sg n lo hi c 0 (k + 1)).1)) ∧ u_ = TW D X sg (upd kd ic kind) (fnu sg n lo hi (ic * 10) c 0 (k + 1) nu) ((frl sg n lo hi c 0 (k + 1)).2) n ic)) 0 0 (TW D X sg (upd kd ic kind) nu' k' n ic) 23 [(0, .ref (X 0)), (1, .int kind), (2, .ref ta), (3, .ref tb), (4, .int (nI i))] [] := by
    intro fuel
    induction fuel with
    | zero => intro i k' nu' hi1 hk' he hf hm; exact absurd hm (Nat.not_lt_zero _)
    | succ fuel ih =>
      intro i k' nu' hi1 hk' he hf hm
      have hskn : sk sg n k' ≤ n := sk_n hk'
      refine j_iload dX3_readForm_23 4 rfl ?_
      refine j_aload_n dX3_readForm_25 2 rfl ?_
      refine j_tlen (v := nI c) ha dX3_readForm_26 rfl ?_
      refine j_icmp_ge_N (tgt := 67) dX3_readForm_27 (by decide) ⟨by omega, by omega⟩ (fun h27 => ?_) (fun h27 => ?_)
      · skip
        rw [show c - i = 0 by omega] at he hf
        have hf : fnu sg n lo hi (ic * 10) c 0 (k + 1) nu = nu' := hf
        refine j_aload_n dX3_readForm_67 0 rfl ?_
        refine j_V (w2 := TW D X sg (upd kd ic kind) nu' (sk sg n k') n ic) (st2 := []) (c_X3_skipBlanks X sg (upd kd ic kind) nu' k' n ic (by omega) (by omega)) rfl cw_X3_29 dX3_readForm_68 [] rfl [0, 1, 2, 3] rfl rfl rfl 3 ?_ ⟨rfl, ⟨Nat.le_of_ble_eq_true rfl, Nat.le_of_ble_eq_true rfl⟩, ⟨rfl, rfl⟩, ⟨Nat.le_of_ble_eq_true rfl, Nat.le_of_ble_eq_true rfl⟩, Nat.le_of_ble_eq_true rfl, rfl, rfl⟩ rfl rfl rfl
        refine j_aload_n dX3_readForm_71 0 rfl ?_
        refine g_X3_19 rfl dX3_readForm_72 0 rfl rfl ?_
        refine j_aload_n dX3_readForm_75 0 rfl ?_
        refine g_X3_23 rfl dX3_readForm_76 0 rfl rfl ?_
        refine j_icmp_ge_N (tgt := 96) dX3_readForm_79 (by decide) ⟨by omega, by omega⟩ (fun h79 => ?_) (fun h79 => ?_)
        · skip
          refine j_iconst (v := nI 0) dX3_readForm_96 (by decide) ?_
          exact j_zret dX3_readForm_97 (rfl) ⟨rfl, rfl⟩ ⟨rv_f (by rw [he]; unfold frl; rw [if_neg (fun q => by omega)]), by rw [he, hf]; unfold frl; rw [if_neg (fun q => by omega)]⟩
        · skip
          refine j_aload_n dX3_readForm_82 0 rfl ?_
          refine g_X3_9 rfl dX3_readForm_83 0 rfl rfl ?_
          refine j_aload_n dX3_readForm_86 0 rfl ?_
          refine g_X3_19 rfl dX3_readForm_87 0 rfl rfl ?_
          refine j_iald (v := sg (sk sg n k')) dX3_readForm_90 1 (sk sg n k') rfl (rfl) (by omega) (Nat.le_of_ble_eq_true rfl) (rfl) ?_
          refine j_bipush (v := nI 59) dX3_readForm_91 (by decide) ?_
          refine j_icmp_eq (tgt := 98) dX3_readForm_93 (by decide) (fun h93 => ?_) (fun h93 => ?_)
          · skip
            refine j_aload_n dX3_readForm_98 0 rfl ?_
            refine j_dup dX3_readForm_99 rfl ?_
            refine g_X3_19 rfl dX3_readForm_100 0 rfl rfl ?_
            refine j_iconst (v := nI 1) dX3_readForm_103 (by decide) ?_
            refine j_iadd (v := nI ((sk sg n k') + 1)) dX3_readForm_104 (nI_add _ _) ?_
            refine p_X3_19 (w2 := TW D X sg (upd kd ic kind) nu' (sk sg n k' + 1) n ic) rfl dX3_readForm_105 0 rfl (Nat.le_of_ble_eq_true rfl) (rfl) ?_
            refine j_iconst (v := nI 1) dX3_readForm_108 (by decide) ?_
            exact j_zret dX3_readForm_109 (rfl) ⟨rfl, rfl⟩ ⟨rv_t (by rw [he]; unfold frl; rw [if_pos ⟨by omega, h93⟩]), by rw [he, hf]; unfold frl; rw [if_pos ⟨by omega, h93⟩]⟩
          · skip
            refine j_iconst (v := nI 0) dX3_readForm_96 (by decide) ?_
            exact j_zret dX3_readForm_97 (rfl) ⟨rfl, rfl⟩ ⟨rv_f (by rw [he]; unfold frl; rw [if_neg (fun q => h93 q.2)]), by rw [he, hf]; unfold frl; rw [if_neg (fun q => h93 q.2)]⟩
      · skip
        refine j_aload_n dX3_readForm_30 0 rfl ?_
        refine j_V (w2 := TW D X sg (upd kd ic kind) nu' (sk sg n k') n ic) (st2 := []) (c_X3_skipBlanks X sg (upd kd ic kind) nu' k' n ic (by omega) (by omega)) rfl cw_X3_29 dX3_readForm_31 [] rfl [0, 1, 2, 3] rfl rfl rfl 3 ?_ ⟨rfl, ⟨Nat.le_of_ble_eq_true rfl, Nat.le_of_ble_eq_true rfl⟩, ⟨rfl, rfl⟩, ⟨Nat.le_of_ble_eq_true rfl, Nat.le_of_ble_eq_true rfl⟩, Nat.le_of_ble_eq_true rfl, rfl, rfl⟩ rfl rfl rfl
        refine j_aload_n dX3_readForm_34 0 rfl ?_
        refine j_aload_n dX3_readForm_35 0 rfl ?_
        refine g_X3_26 rfl dX3_readForm_36 0 rfl rfl ?_
        refine j_bipush (v := nI 10) dX3_readForm_39 (by decide) ?_
        refine j_imul (v := nI (ic * 10)) dX3_readForm_41 (pk_mul _ _) ?_
        refine j_iload dX3_readForm_42 4 rfl ?_
        refine j_iadd (v := nI (ic * 10 + i)) dX3_readForm_44 (nI_add _ _) ?_
        refine j_aload_n dX3_readForm_45 2 rfl ?_
        refine j_iload dX3_readForm_46 4 rfl ?_
        refine j_ti (v := lo i) ha dX3_readForm_48 i rfl (show i < c by omega) (show c < 2 ^ 31 by omega) rfl ?_
        refine j_aload_n dX3_readForm_49 3 rfl ?_
        refine j_iload dX3_readForm_50 4 rfl ?_
        refine j_ti (v := hi i) hb dX3_readForm_52 i rfl (show i < c by omega) (show c < 2 ^ 31 by omega) rfl ?_
        refine j_V (w2 := TW D X sg (upd kd ic kind) (rnU sg n (sk sg n k') (lo i) (hi i) nu' (ic * 10 + i)) (rnP sg n (sk sg n k') (lo i) (hi i)) n ic) (st2 := [.int (bI (rdk sg n (sk sg n k') (lo i) (hi i)))]) (c_X3_readNumber X sg (upd kd ic kind) nu' (sk sg n k') n ic (ic * 10 + i) (lo i) (hi i) (by omega) (by omega) (by omega)) rfl cw_X3_58 dX3_readForm_53 [] rfl [0, 1, 2, 3] rfl rfl rfl 3 ?_ ⟨rfl, ⟨Nat.le_of_ble_eq_true rfl, Nat.le_of_ble_eq_true rfl⟩, ⟨rfl, rfl⟩, ⟨Nat.le_of_ble_eq_true rfl, Nat.le_of_ble_eq_true rfl⟩, Nat.le_of_ble_eq_true rfl, rfl, rfl⟩ rfl rfl rfl
        refine j_if_ne_B (tgt := 61) dX3_readForm_56 (by decide) (fun h56 => ?_) (fun h56 => ?_)
        · skip
          refine j_w (w2 := TW D X sg (upd kd ic kind) (upd nu' (ic * 10 + i) (nval sg n (sk sg n k'))) (nend sg n (sk sg n k')) n ic) (by rw [rnW_t h56]) ?_
          refine j_iinc (v := nI (i + 1)) (lv2 := [(0, .ref (X 0)), (1, .int kind), (2, .ref ta), (3, .ref tb), (4, .int (nI (i + 1)))]) dX3_readForm_61 4 rfl (nI_1 _) (by decide) [1, 2, 3, 4, 0] rfl ?_
          refine j_goto (tgt := 23) dX3_readForm_64 (by decide) ?_
          exact ih (i + 1) _ _ (by omega) (nend_le hskn) (by rw [he, show c - i = (c - (i + 1)) + 1 by omega]; exact if_pos h56) (by rw [hf, show c - i = (c - (i + 1)) + 1 by omega]; exact if_pos h56) (by omega)
        · skip
          refine j_iconst (v := nI 0) dX3_readForm_59 (by decide) ?_
          exact j_zret dX3_readForm_60 (rfl) ⟨rfl, rfl⟩ ⟨rv_f (by rw [he, show c - i = (c - (i + 1)) + 1 by omega]; unfold frl; rw [if_neg (by rw [h56]; decide)]), by rw [rnW_f h56, he, hf, show c - i = (c - (i + 1)) + 1 by omega]; unfold frl fnu; rw [if_neg (by rw [h56]; decide), if_neg (by rw [h56]; decide)]⟩
  exact L23 (c + 1) 0 (k + 1) nu (by omega) (by omega) rfl rfl (by omega)

set_option maxHeartbeats 4000000 in
set_option maxRecDepth 100000 in
theorem c_X3_readItem (X : Nat → Nat) (sg kd nu : SS) (k n ic : Nat) (a : Nat → Nat) (hz : zT D a) (hn : n ≤ 120) (hk : k < n) (hic : ic < 24) : Ct D yX3_readItem cX3_readItem 2 (some .boolean) ({ frames := 4, cells := 0, slots := 0, locals := 93 } : Room) [.ref (X 0)] (TW D X sg kd nu k n ic) (fun v_ u_ => v_ = some (.int (bI (itR sg n k).1)) ∧ u_ = TW D X sg (itKd sg k ic kd) (itNu sg n k ic nu) ((itR sg n k).2) n ic) := by
  refine ct_of (by decide) (Nat.le_of_ble_eq_true rfl) (lv0 := [(0, .ref (X 0))]) rfl (fun Γ => ?_)
  refine j_aload_n dX3_readItem_0 0 rfl ?_
  refine g_X3_9 rfl dX3_readItem_1 0 rfl rfl ?_
  refine j_aload_n dX3_readItem_4 0 rfl ?_
  refine g_X3_19 rfl dX3_readItem_5 0 rfl rfl ?_
  refine j_iald (v := sg k) dX3_readItem_8 1 k rfl (rfl) (by omega) (Nat.le_of_ble_eq_true rfl) (rfl) ?_
  refine j_istore_n (lv2 := [(0, .ref (X 0)), (1, .int (sg k))]) dX3_readItem_9 (by decide) [1, 0] rfl ?_
  refine j_iload_n dX3_readItem_10 1 rfl ?_
  by_cases hs108 : sg k = nI 108
  · skip
    refine j_lookup (off := 33) (tgt := 44) dX3_readItem_11 (by decide) (by rw [hs108]; rfl) (by decide) ?_
    refine j_aload_n dX3_readItem_44 0 rfl ?_
    refine j_iload_n dX3_readItem_45 1 rfl ?_
    refine j_gs (q := ("TransferRings$Text", "LETTER_LEAST", "[I", a 0, 10, tLL)) m_fl_X3_36 hz.1 dX3_readItem_46 ?_
    refine j_gs (q := ("TransferRings$Text", "LETTER_MOST", "[I", a 1, 10, tLM)) m_fl_X3_39 hz.2.1 dX3_readItem_49 ?_
    refine j_V (w2 := TW D X sg (upd kd ic (sg k)) (fnu sg n tLL tLM (ic * 10) 10 0 (k + 1) nu) ((frl sg n tLL tLM 10 0 (k + 1)).2) n ic) (st2 := [.int (bI ((frl sg n tLL tLM 10 0 (k + 1)).1))]) (c_X3_readForm X sg kd nu k n ic (sg k) (a 0) (a 1) 10 "LETTER_LEAST" "LETTER_MOST" tLL tLM hz.1 hz.2.1 (by decide) hn hk hic) rfl cw_X3_42 dX3_readItem_52 [] rfl [0, 1, 2, 3] rfl rfl rfl 3 ?_ ⟨rfl, ⟨Nat.le_of_ble_eq_true rfl, Nat.le_of_ble_eq_true rfl⟩, ⟨rfl, rfl⟩, ⟨Nat.le_of_ble_eq_true rfl, Nat.le_of_ble_eq_true rfl⟩, Nat.le_of_ble_eq_true rfl, rfl, rfl⟩ rfl rfl rfl
    exact j_zret dX3_readItem_55 (nar_b _) ⟨rfl, rfl⟩ ⟨by rw [show itR sg n k = frl sg n tLL tLM 10 0 (k + 1) from itR_e108 hs108], by rw [show itR sg n k = frl sg n tLL tLM 10 0 (k + 1) from itR_e108 hs108, show itKd sg k ic kd = _ from itKd_e108 hs108, show itNu sg n k ic nu = _ from itNu_e108 hs108]⟩
  · skip
    by_cases hs102 : sg k = nI 102
    · skip
      refine j_lookup (off := 45) (tgt := 56) dX3_readItem_11 (by decide) (by rw [hs102]; rfl) (by decide) ?_
      refine j_aload_n dX3_readItem_56 0 rfl ?_
      refine j_iload_n dX3_readItem_57 1 rfl ?_
      refine j_gs (q := ("TransferRings$Text", "FILL_LEAST", "[I", a 2, 2, tFL)) m_fl_X3_46 hz.2.2.1 dX3_readItem_58 ?_
      refine j_gs (q := ("TransferRings$Text", "FILL_MOST", "[I", a 3, 2, tFM)) m_fl_X3_49 hz.2.2.2.1 dX3_readItem_61 ?_
      refine j_V (w2 := TW D X sg (upd kd ic (sg k)) (fnu sg n tFL tFM (ic * 10) 2 0 (k + 1) nu) ((frl sg n tFL tFM 2 0 (k + 1)).2) n ic) (st2 := [.int (bI ((frl sg n tFL tFM 2 0 (k + 1)).1))]) (c_X3_readForm X sg kd nu k n ic (sg k) (a 2) (a 3) 2 "FILL_LEAST" "FILL_MOST" tFL tFM hz.2.2.1 hz.2.2.2.1 (by decide) hn hk hic) rfl cw_X3_42 dX3_readItem_64 [] rfl [0, 1, 2, 3] rfl rfl rfl 3 ?_ ⟨rfl, ⟨Nat.le_of_ble_eq_true rfl, Nat.le_of_ble_eq_true rfl⟩, ⟨rfl, rfl⟩, ⟨Nat.le_of_ble_eq_true rfl, Nat.le_of_ble_eq_true rfl⟩, Nat.le_of_ble_eq_true rfl, rfl, rfl⟩ rfl rfl rfl
      exact j_zret dX3_readItem_67 (nar_b _) ⟨rfl, rfl⟩ ⟨by rw [show itR sg n k = frl sg n tFL tFM 2 0 (k + 1) from itR_e102 hs102], by rw [show itR sg n k = frl sg n tFL tFM 2 0 (k + 1) from itR_e102 hs102, show itKd sg k ic kd = _ from itKd_e102 hs102, show itNu sg n k ic nu = _ from itNu_e102 hs102]⟩
    · skip
      by_cases hs99 : sg k = nI 99
      · skip
        refine j_lookup (off := 57) (tgt := 68) dX3_readItem_11 (by decide) (by rw [hs99]; rfl) (by decide) ?_
        refine j_aload_n dX3_readItem_68 0 rfl ?_
        refine j_iload_n dX3_readItem_69 1 rfl ?_
        refine j_gs (q := ("TransferRings$Text", "TUNE_LEAST", "[I", a 4, 3, tTL)) m_fl_X3_52 hz.2.2.2.2.1 dX3_readItem_70 ?_
        refine j_gs (q := ("TransferRings$Text", "TUNE_MOST", "[I", a 5, 3, tTM)) m_fl_X3_55 hz.2.2.2.2.2 dX3_readItem_73 ?_
        refine j_V (w2 := TW D X sg (upd kd ic (sg k)) (fnu sg n tTL tTM (ic * 10) 3 0 (k + 1) nu) ((frl sg n tTL tTM 3 0 (k + 1)).2) n ic) (st2 := [.int (bI ((frl sg n tTL tTM 3 0 (k + 1)).1))]) (c_X3_readForm X sg kd nu k n ic (sg k) (a 4) (a 5) 3 "TUNE_LEAST" "TUNE_MOST" tTL tTM hz.2.2.2.2.1 hz.2.2.2.2.2 (by decide) hn hk hic) rfl cw_X3_42 dX3_readItem_76 [] rfl [0, 1, 2, 3] rfl rfl rfl 3 ?_ ⟨rfl, ⟨Nat.le_of_ble_eq_true rfl, Nat.le_of_ble_eq_true rfl⟩, ⟨rfl, rfl⟩, ⟨Nat.le_of_ble_eq_true rfl, Nat.le_of_ble_eq_true rfl⟩, Nat.le_of_ble_eq_true rfl, rfl, rfl⟩ rfl rfl rfl
        exact j_zret dX3_readItem_79 (nar_b _) ⟨rfl, rfl⟩ ⟨by rw [show itR sg n k = frl sg n tTL tTM 3 0 (k + 1) from itR_e99 hs99], by rw [show itR sg n k = frl sg n tTL tTM 3 0 (k + 1) from itR_e99 hs99, show itKd sg k ic kd = _ from itKd_e99 hs99, show itNu sg n k ic nu = _ from itNu_e99 hs99]⟩
      · skip
        refine j_lookup (off := 69) (tgt := 80) dX3_readItem_11 (by decide) (by rw [lv_osw hs99 (by decide)]; rw [lv_osw hs102 (by decide)]; rw [lv_osw hs108 (by decide)]; rfl) (by decide) ?_
        have hc0 : hcn (sg k) = 0 := hcn_0 hs108 hs102 hs99
        refine j_iconst (v := nI 0) dX3_readItem_80 (by decide) ?_
        exact j_zret dX3_readItem_81 (rfl) ⟨rfl, rfl⟩ ⟨rv_f (by rw [itR_0 hc0]), by rw [itR_0 hc0, show itKd sg k ic kd = kd from if_pos hc0, show itNu sg n k ic nu = nu from if_pos hc0]⟩

set_option maxHeartbeats 4000000 in
set_option maxRecDepth 100000 in
theorem c_X3_read (X : Nat → Nat) (sg kd nu : SS) (k n ic : Nat) (a : Nat → Nat) (hz : zT D a) (hn : n ≤ 120) : Ct D yX3_read cX3_read 1 (some .int) ({ frames := 5, cells := 0, slots := 0, locals := 114 } : Room) [.ref (X 0)] (TW D X sg kd nu k n ic) (fun v_ u_ => v_ = some (.int (rdI sg n)) ∧ ∃ (kd' nu' : SS) (k' : Nat), u_ = TW D X sg kd' nu' k' n (prA sg n).2 ∧ ((prA sg n).1 = none → GoodI sg n kd' nu' (prA sg n).2)) := by
  refine ct_of (by decide) (Nat.le_of_ble_eq_true rfl) (lv0 := [(0, .ref (X 0))]) rfl (fun Γ => ?_)
  refine j_aload_n dX3_read_0 0 rfl ?_
  refine j_iconst (v := nI 0) dX3_read_1 (by decide) ?_
  refine p_X3_19 (w2 := TW D X sg kd nu 0 n ic) rfl dX3_read_2 0 rfl (Nat.le_of_ble_eq_true rfl) (rfl) ?_
  refine j_aload_n dX3_read_5 0 rfl ?_
  refine j_iconst (v := nI 0) dX3_read_6 (by decide) ?_
  refine p_X3_26 (w2 := TW D X sg kd nu 0 n 0) rfl dX3_read_7 0 rfl (Nat.le_of_ble_eq_true rfl) (rfl) ?_
  refine j_aload_n dX3_read_10 0 rfl ?_
  refine j_V (w2 := TW D X sg kd nu (sk sg n 0) n 0) (st2 := []) (c_X3_skipBlanks X sg kd nu 0 n 0 (by omega) (by omega)) rfl cw_X3_29 dX3_read_11 [] rfl [0, 1, 2, 3] rfl rfl rfl 3 ?_ ⟨rfl, ⟨Nat.le_of_ble_eq_true rfl, Nat.le_of_ble_eq_true rfl⟩, ⟨rfl, rfl⟩, ⟨Nat.le_of_ble_eq_true rfl, Nat.le_of_ble_eq_true rfl⟩, Nat.le_of_ble_eq_true rfl, rfl, rfl⟩ rfl rfl rfl
  have L14 : ∀ (fuel : Nat) (i k' : Nat) (kd' nu' : SS), k' ≤ n → 5 * i ≤ k' → i ≤ 24 → k' = ps sg n i → prA sg n = prl sg n (25 - i) i k' → GoodI sg n kd' nu' i → n - k' < fuel → J D Γ yX3_read cX3_read 1 (some .int) ({ frames := 5, cells := 0, slots := 0, locals := 114 } : Room) (Qf D Γ ({ frames := 5, cells := 0, slots := 0, locals := 114 } : Room) (fun v_ u_ => v_ = some (.int (rdI sg n)) ∧ ∃ (kd' nu' : SS) (k' : Nat), u_ = TW D X sg kd' nu' k' n (prA sg n).2 ∧ ((prA sg n).1 = none → GoodI sg n kd' nu' (prA sg n).2))) 0 0 (TW D X sg kd' nu' k' n i) 14 [(0, .ref (X 0))] [] := by
    intro fuel
    induction fuel with
    | zero => intro i k' kd' nu' hk' h5 hi1 hps he hg hm; exact absurd hm (Nat.not_lt_zero _)
    | succ fuel ih =>
      intro i k' kd' nu' hk' h5 hi1 hps he hg hm
      have he2 := he
      rw [show 25 - i = (24 - i) + 1 by omega] at he2
      refine j_aload_n dX3_read_14 0 rfl ?_
      refine g_X3_19 rfl dX3_read_15 0 rfl rfl ?_
      refine j_aload_n dX3_read_18 0 rfl ?_
      refine g_X3_23 rfl dX3_read_19 0 rfl rfl ?_
      refine j_icmp_ge_N (tgt := 63) dX3_read_22 (by decide) ⟨by omega, by omega⟩ (fun h22 => ?_) (fun h22 => ?_)
      · skip
        refine j_aload_n dX3_read_63 0 rfl ?_
        refine g_X3_19 rfl dX3_read_64 0 rfl rfl ?_
        refine j_aload_n dX3_read_67 0 rfl ?_
        refine g_X3_23 rfl dX3_read_68 0 rfl rfl ?_
        refine j_icmp_ge_N (tgt := 81) dX3_read_71 (by decide) ⟨by omega, by omega⟩ (fun h71 => ?_) (fun h71 => absurd h22 h71)
        refine j_iconst (v := (-1)) dX3_read_81 (by decide) ?_
        exact j_iret dX3_read_82 ⟨rfl, rfl⟩ ⟨by unfold rdI; rw [he2, prl_n (by omega)], kd', nu', k', by rw [he2, prl_n (by omega)], fun _ => by rw [he2, prl_n (by omega)]; exact hg⟩
      · skip
        refine j_aload_n dX3_read_25 0 rfl ?_
        refine g_X3_26 rfl dX3_read_26 0 rfl rfl ?_
        refine j_bipush (v := nI 24) dX3_read_29 (by decide) ?_
        refine j_icmp_ge_N (tgt := 63) dX3_read_31 (by decide) ⟨by omega, by omega⟩ (fun h31 => absurd h31 (by omega)) (fun h31 => ?_)
        refine j_aload_n dX3_read_34 0 rfl ?_
        refine j_V (w2 := TW D X sg (itKd sg k' i kd') (itNu sg n k' i nu') ((itR sg n k').2) n i) (st2 := [.int (bI ((itR sg n k').1))]) (c_X3_readItem X sg kd' nu' k' n i a hz (by omega) (by omega) (by omega)) rfl cw_X3_32 dX3_read_35 [] rfl [0, 1, 2, 3] rfl rfl rfl 3 ?_ ⟨rfl, ⟨Nat.le_of_ble_eq_true rfl, Nat.le_of_ble_eq_true rfl⟩, ⟨rfl, rfl⟩, ⟨Nat.le_of_ble_eq_true rfl, Nat.le_of_ble_eq_true rfl⟩, Nat.le_of_ble_eq_true rfl, rfl, rfl⟩ rfl rfl rfl
        refine j_if_ne_B (tgt := 46) dX3_read_38 (by decide) (fun h38 => ?_) (fun h38 => ?_)
        · skip
          have hit := it_n (sg := sg) (k := k') (n := n) (by omega)
          refine j_aload_n dX3_read_46 0 rfl ?_
          refine j_dup dX3_read_47 rfl ?_
          refine g_X3_26 rfl dX3_read_48 0 rfl rfl ?_
          refine j_iconst (v := nI 1) dX3_read_51 (by decide) ?_
          refine j_iadd (v := nI (i + 1)) dX3_read_52 (nI_add _ _) ?_
          refine p_X3_26 (w2 := TW D X sg (itKd sg k' i kd') (itNu sg n k' i nu') ((itR sg n k').2) n (i + 1)) rfl dX3_read_53 0 rfl (Nat.le_of_ble_eq_true rfl) (rfl) ?_
          refine j_aload_n dX3_read_56 0 rfl ?_
          refine j_V (w2 := TW D X sg (itKd sg k' i kd') (itNu sg n k' i nu') (sk sg n ((itR sg n k').2)) n (i + 1)) (st2 := []) (c_X3_skipBlanks X sg (itKd sg k' i kd') (itNu sg n k' i nu') ((itR sg n k').2) n (i + 1) (by omega) (by omega)) rfl cw_X3_29 dX3_read_57 [] rfl [0, 1, 2, 3] rfl rfl rfl 3 ?_ ⟨rfl, ⟨Nat.le_of_ble_eq_true rfl, Nat.le_of_ble_eq_true rfl⟩, ⟨rfl, rfl⟩, ⟨Nat.le_of_ble_eq_true rfl, Nat.le_of_ble_eq_true rfl⟩, Nat.le_of_ble_eq_true rfl, rfl, rfl⟩ rfl rfl rfl
          refine j_goto (tgt := 14) dX3_read_60 (by decide) ?_
          exact ih (i + 1) _ _ _ (sk_n (it_n (by omega))) (by have := it_len h38; have := sk_le (sg := sg) (n := n) (itR sg n k').2; omega) (by have := it_len h38; have := it_n (sg := sg) (k := k') (n := n) (by omega); omega) (by rw [hps]; rfl) (by rw [he2, prl_y (by omega) h38, show 25 - (i + 1) = 24 - i by omega]) (GoodI_s hg hps h38 (by omega)) (by have := it_len h38; have := sk_le (sg := sg) (n := n) (itR sg n k').2; omega)
        · skip
          refine j_aload_n dX3_read_41 0 rfl ?_
          refine g_X3_19 rfl dX3_read_42 0 rfl rfl ?_
          exact j_iret dX3_read_45 ⟨rfl, rfl⟩ ⟨by unfold rdI; rw [he2, prl_e (by omega) h38], _, _, _, by rw [he2, prl_e (by omega) h38], fun z => by rw [he2, prl_e (by omega) h38] at z; cases z⟩
  exact L14 (n + 1) 0 (sk sg n 0) kd nu (sk_n (Nat.zero_le n)) (by omega) (by omega) rfl rfl (fun t ht => absurd ht (Nat.not_lt_zero _)) (by omega)

end TX2
