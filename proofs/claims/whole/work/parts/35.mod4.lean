theorem chF_o {s : SS} {v w : Int32} (h : inR w (nI 0) (nI 8) = false) : chF s v w = -1 := by
  have ne : ∀ i, i ≤ 8 → ¬ w = nI i := fun i hi e => by rw [e, inR_in (Nat.zero_le _) hi (by decide)] at h; cases h
  unfold chF
  split
  · rw [if_neg (ne 0 (by decide)), if_neg (ne 1 (by decide)), if_neg (ne 2 (by decide)), if_neg (ne 3 (by decide)), if_neg (ne 4 (by decide)), if_neg (ne 5 (by decide)), if_neg (ne 6 (by decide)), if_neg (ne 7 (by decide)), if_neg (ne 8 (by decide))]
  · rfl
theorem chF_5 {s : SS} {v w : Int32} (h : inR v (nI 0) (nI 3) = true) (hw : w = nI 5) : chF s v w = prR s (cl v) := by
  subst hw; unfold chF; rw [if_pos h]; rfl
theorem chF_6 {s : SS} {v w : Int32} (h : inR v (nI 0) (nI 3) = true) (hw : w = nI 6) : chF s v w = gC s (cl v) 5 := by
  subst hw; unfold chF; rw [if_pos h]; rfl
theorem chF_7 {s : SS} {v w : Int32} (h : inR v (nI 0) (nI 3) = true) (hw : w = nI 7) : chF s v w = gC s (cl v) 6 := by
  subst hw; unfold chF; rw [if_pos h]; rfl
theorem chF_8 {s : SS} {v w : Int32} (h : inR v (nI 0) (nI 3) = true) (hw : w = nI 8) : chF s v w = bI (rdy s (cl v)) := by
  subst hw; unfold chF; rw [if_pos h]; rfl
theorem chF_d {s : SS} {v : Int32} {e : Nat} (h : inR v (nI 0) (nI 3) = true) (he : e < 5) : chF s v (nI e) = gC s (cl v) e := by
  unfold chF; rw [if_pos h]
  rcases (show e = 0 ∨ e = 1 ∨ e = 2 ∨ e = 3 ∨ e = 4 by omega) with rfl | rfl | rfl | rfl | rfl <;> rfl
theorem bl_x {x : Int64} {k : Nat} (hk : k < 64) : ((x >>> ((nI k).toInt64 &&& 63)) &&& 1).toInt32 = nI (uL x / 2 ^ k % 2) := by
  have e := bl_bit (a := uL x) hk
  rw [← (uL_of x).1] at e
  rw [e, lN_i]
theorem cnt_add (f : Nat → Bool) (m : Nat) : ∀ j, cnt f (m + j) = cnt f m + cnt (fun i => f (m + i)) j
  | 0 => rfl
  | j + 1 => by
    show cnt f (m + j) + _ = cnt f m + (cnt (fun i => f (m + i)) j + _)
    rw [cnt_add f m j, Nat.add_assoc]; rfl
theorem els_24 {s : SS} : els s 4 = cnt (eng s) 24 := by
  have e0 := cnt_add (eng s) 0 6
  have e1 := cnt_add (eng s) 6 6
  have e2 := cnt_add (eng s) 12 6
  have e3 := cnt_add (eng s) 18 6
  show els s 0 + elo s 0 + elo s 1 + elo s 2 + elo s 3 = _
  rw [show (24 : Nat) = 18 + 6 from rfl, e3, show (18 : Nat) = 12 + 6 from rfl, e2, show (12 : Nat) = 6 + 6 from rfl, e1, show (6 : Nat) = 0 + 6 from rfl, e0]
  rfl
section MD4
variable {D : DX}
set_option maxHeartbeats 4000000 in
set_option maxRecDepth 100000 in
theorem c_X5_at (M : Nat → Nat) (q : QT) (s : SS) (v : Int32) : Ct D yX5_at cX5_at 2 (some .int) ({ frames := 1, cells := 0, slots := 0, locals := 22 } : Room) [.ref (M 0), .int v] ((MO D M q) ++ (AR D (M 1) 455 s)) (fun v_ u_ => v_ = some (.int (atF s v)) ∧ u_ = (MO D M q) ++ (AR D (M 1) 455 s)) := by
  refine ct_of (by decide) (Nat.le_of_ble_eq_true rfl) (lv0 := [(0, .ref (M 0)), (1, .int v)]) rfl (fun Γ => ?_)
  refine j_iload_n dX5_at_0 1 rfl ?_
  refine j_iconst (v := nI 0) dX5_at_1 (by decide) ?_
  refine j_bipush (v := nI 63) dX5_at_2 (by decide) ?_
  refine j_S (w2 := (MO D M q) ++ (AR D (M 1) 455 s)) (st2 := [.int (bI (inR v (nI 0) (nI 63)))]) (c_X5_in v (nI 0) (nI 63)) rfl cw_X5_38 dX5_at_4 [] rfl [] rfl rfl rfl ?_ ⟨rfl, ⟨Nat.le_of_ble_eq_true rfl, Nat.le_of_ble_eq_true rfl⟩, ⟨rfl, rfl⟩, ⟨Nat.le_of_ble_eq_true rfl, Nat.le_of_ble_eq_true rfl⟩, Nat.le_of_ble_eq_true rfl, rfl, rfl⟩
  refine j_if_eq_B (tgt := 19) dX5_at_7 (by decide) (fun h7 => ?_) (fun h7 => ?_)
  · skip
    refine j_iconst (v := (-1)) dX5_at_19 (by decide) ?_
    exact j_iret dX5_at_20 ⟨rfl, rfl⟩ ⟨by rw [show atF s v = -1 from if_neg (nBool h7)], rfl⟩
  · skip
    obtain ⟨c, hc1, hc2, rfl⟩ := inR_nat (by decide) (by decide) h7
    refine j_aload_n dX5_at_10 0 rfl ?_
    refine g_X5_7 rfl dX5_at_11 0 rfl rfl ?_
    refine j_iload_n dX5_at_14 1 rfl ?_
    refine j_iald (v := s c) dX5_at_15 1 c rfl (rfl) (by omega) (Nat.le_of_ble_eq_true rfl) (rfl) ?_
    refine j_goto (tgt := 20) dX5_at_16 (by decide) ?_
    exact j_iret dX5_at_20 ⟨rfl, rfl⟩ ⟨by rw [show atF s (nI c) = s c from by unfold atF; rw [if_pos h7, cl_nI (by omega)]], rfl⟩

set_option maxHeartbeats 4000000 in
set_option maxRecDepth 100000 in
theorem c_X5_channel (M : Nat → Nat) (q : QT) (s : SS) (hI : Inv s) (v w : Int32) : Ct D yX5_channel cX5_channel 4 (some .int) ({ frames := 3, cells := 0, slots := 0, locals := 66 } : Room) [.ref (M 0), .int v, .int w] ((MO D M q) ++ (AR D (M 1) 455 s)) (fun v_ u_ => v_ = some (.int (chF s v w)) ∧ u_ = (MO D M q) ++ (AR D (M 1) 455 s)) := by
  refine ct_of (by decide) (Nat.le_of_ble_eq_true rfl) (lv0 := [(0, .ref (M 0)), (1, .int v), (2, .int w)]) rfl (fun Γ => ?_)
  refine j_iload_n dX5_channel_0 1 rfl ?_
  refine j_S (w2 := (MO D M q) ++ (AR D (M 1) 455 s)) (st2 := [.int (bI (inR v (nI 0) (nI 3)))]) (c_X5_isChannel v) rfl cw_X5_141 dX5_channel_1 [] rfl [] rfl rfl rfl ?_ ⟨rfl, ⟨Nat.le_of_ble_eq_true rfl, Nat.le_of_ble_eq_true rfl⟩, ⟨rfl, rfl⟩, ⟨Nat.le_of_ble_eq_true rfl, Nat.le_of_ble_eq_true rfl⟩, Nat.le_of_ble_eq_true rfl, rfl, rfl⟩
  refine j_if_eq_B (tgt := 17) dX5_channel_4 (by decide) (fun h4 => ?_) (fun h4 => ?_)
  · skip
    refine j_iconst (v := (-1)) dX5_channel_17 (by decide) ?_
    exact j_iret dX5_channel_18 ⟨rfl, rfl⟩ ⟨by rw [show chF s v w = -1 from if_neg (nBool h4)], rfl⟩
  · skip
    refine j_iload_n dX5_channel_7 2 rfl ?_
    refine j_iconst (v := nI 0) dX5_channel_8 (by decide) ?_
    refine j_bipush (v := nI 8) dX5_channel_9 (by decide) ?_
    refine j_S (w2 := (MO D M q) ++ (AR D (M 1) 455 s)) (st2 := [.int (bI (inR w (nI 0) (nI 8)))]) (c_X5_in w (nI 0) (nI 8)) rfl cw_X5_38 dX5_channel_11 [] rfl [] rfl rfl rfl ?_ ⟨rfl, ⟨Nat.le_of_ble_eq_true rfl, Nat.le_of_ble_eq_true rfl⟩, ⟨rfl, rfl⟩, ⟨Nat.le_of_ble_eq_true rfl, Nat.le_of_ble_eq_true rfl⟩, Nat.le_of_ble_eq_true rfl, rfl, rfl⟩
    refine j_if_ne_B (tgt := 19) dX5_channel_14 (by decide) (fun h14 => ?_) (fun h14 => ?_)
    · skip
      obtain ⟨c, hc1, hc2, rfl⟩ := inR_nat (by decide) (by decide) h4
      refine j_iload_n dX5_channel_19 1 rfl ?_
      refine j_S (w2 := (MO D M q) ++ (AR D (M 1) 455 s)) (st2 := [.int (nI (64 + 7 * c))]) (c_X5_channelAt c) rfl cw_X5_75 dX5_channel_20 [] rfl [] rfl rfl rfl ?_ ⟨rfl, ⟨Nat.le_of_ble_eq_true rfl, Nat.le_of_ble_eq_true rfl⟩, ⟨rfl, rfl⟩, ⟨Nat.le_of_ble_eq_true rfl, Nat.le_of_ble_eq_true rfl⟩, Nat.le_of_ble_eq_true rfl, rfl, rfl⟩
      refine j_istore_n (lv2 := [(0, .ref (M 0)), (1, .int (nI c)), (2, .int w), (3, .int (nI (64 + 7 * c)))]) dX5_channel_23 (by decide) [1, 2, 3, 0] rfl ?_
      refine j_iload_n dX5_channel_24 2 rfl ?_
      by_cases hs5 : w = nI 5
      · skip
        refine j_tableIn (off := 31) (tgt := 56) dX5_channel_25 (by rw [hs5]; decide) (by rw [hs5]; decide) (by rw [hs5]; rfl) (by decide) ?_
        refine j_aload_n dX5_channel_56 0 rfl ?_
        refine j_iload_n dX5_channel_57 1 rfl ?_
        refine j_V (w2 := (MO D M q) ++ (AR D (M 1) 455 s)) (st2 := [.int (prM s c)]) (c_X5_present M q s hI c (by omega)) rfl cw_X5_114 dX5_channel_58 [] rfl [0, 1] rfl rfl rfl 5 ?_ ⟨rfl, ⟨Nat.le_of_ble_eq_true rfl, Nat.le_of_ble_eq_true rfl⟩, ⟨rfl, rfl⟩, ⟨Nat.le_of_ble_eq_true rfl, Nat.le_of_ble_eq_true rfl⟩, Nat.le_of_ble_eq_true rfl, rfl, rfl⟩ rfl rfl rfl
        rcases ht : tc s (pl s c) with _ | _
        · skip
          refine j_topi (v := (-9)) (prM_f ht) ?_
          refine j_bipush (v := (-9)) dX5_channel_61 (by decide) ?_
          refine j_icmp_ne (tgt := 70) dX5_channel_63 (by decide) (fun h63 => absurd rfl h63) (fun h63 => ?_)
          refine j_iconst (v := nI 0) dX5_channel_66 (by decide) ?_
          refine j_goto (tgt := 83) dX5_channel_67 (by decide) ?_
          exact j_iret dX5_channel_83 ⟨rfl, rfl⟩ ⟨by rw [chF_5 h4 hs5, cl_nI (by omega)]; unfold prR; rw [prs_f ht]; rfl, rfl⟩
        · skip
          refine j_topi (v := nI (92 + 14 * pl s c)) (prM_t ht) ?_
          have hpl := hI.pl_ (show c < 4 by omega)
          refine j_bipush (v := (-9)) dX5_channel_61 (by decide) ?_
          refine j_icmp_ne (tgt := 70) dX5_channel_63 (by decide) (fun h63 => ?_) (fun h63 => absurd h63 (nI_m9 (by omega)))
          refine j_aload_n dX5_channel_70 0 rfl ?_
          refine g_X5_7 rfl dX5_channel_71 0 rfl rfl ?_
          refine j_aload_n dX5_channel_74 0 rfl ?_
          refine j_iload_n dX5_channel_75 1 rfl ?_
          refine j_V (w2 := (MO D M q) ++ (AR D (M 1) 455 s)) (st2 := [.int (prM s c), .ref (M 1)]) (c_X5_present M q s hI c (by omega)) rfl cw_X5_114 dX5_channel_76 [.ref (M 1)] rfl [0, 1] rfl rfl rfl 5 ?_ ⟨rfl, ⟨Nat.le_of_ble_eq_true rfl, Nat.le_of_ble_eq_true rfl⟩, ⟨rfl, rfl⟩, ⟨Nat.le_of_ble_eq_true rfl, Nat.le_of_ble_eq_true rfl⟩, Nat.le_of_ble_eq_true rfl, rfl, rfl⟩ rfl rfl rfl
          refine j_topi (v := nI (92 + 14 * pl s c)) (prM_t ht) ?_
          refine j_bipush (v := nI 12) dX5_channel_79 (by decide) ?_
          refine j_iadd (v := nI (92 + 14 * pl s c + 12)) dX5_channel_81 (nI_add _ _) ?_
          refine j_iald (v := gL s (pl s c) 11) dX5_channel_82 1 (92 + 14 * pl s c + 12) rfl (rfl) (by omega) (Nat.le_of_ble_eq_true rfl) (congrArg s (by omega)) ?_
          exact j_iret dX5_channel_83 ⟨rfl, rfl⟩ ⟨by rw [chF_5 h4 hs5, cl_nI (by omega)]; unfold prR; rw [prs_t ht], rfl⟩
      · skip
        by_cases hs6 : w = nI 6
        · skip
          refine j_tableIn (off := 59) (tgt := 84) dX5_channel_25 (by rw [hs6]; decide) (by rw [hs6]; decide) (by rw [hs6]; rfl) (by decide) ?_
          refine j_aload_n dX5_channel_84 0 rfl ?_
          refine g_X5_7 rfl dX5_channel_85 0 rfl rfl ?_
          refine j_iload_n dX5_channel_88 3 rfl ?_
          refine j_iconst (v := nI 5) dX5_channel_89 (by decide) ?_
          refine j_iadd (v := nI (64 + 7 * c + 5)) dX5_channel_90 (nI_add _ _) ?_
          refine j_iald (v := gC s c 5) dX5_channel_91 1 (64 + 7 * c + 5) rfl (rfl) (by omega) (Nat.le_of_ble_eq_true rfl) (rfl) ?_
          exact j_iret dX5_channel_92 ⟨rfl, rfl⟩ ⟨by rw [chF_6 h4 hs6, cl_nI (by omega)], rfl⟩
        · skip
          by_cases hs7 : w = nI 7
          · skip
            refine j_tableIn (off := 68) (tgt := 93) dX5_channel_25 (by rw [hs7]; decide) (by rw [hs7]; decide) (by rw [hs7]; rfl) (by decide) ?_
            refine j_aload_n dX5_channel_93 0 rfl ?_
            refine g_X5_7 rfl dX5_channel_94 0 rfl rfl ?_
            refine j_iload_n dX5_channel_97 3 rfl ?_
            refine j_bipush (v := nI 6) dX5_channel_98 (by decide) ?_
            refine j_iadd (v := nI (64 + 7 * c + 6)) dX5_channel_100 (nI_add _ _) ?_
            refine j_iald (v := gC s c 6) dX5_channel_101 1 (64 + 7 * c + 6) rfl (rfl) (by omega) (Nat.le_of_ble_eq_true rfl) (rfl) ?_
            exact j_iret dX5_channel_102 ⟨rfl, rfl⟩ ⟨by rw [chF_7 h4 hs7, cl_nI (by omega)], rfl⟩
          · skip
            by_cases hs8 : w = nI 8
            · skip
              refine j_tableIn (off := 78) (tgt := 103) dX5_channel_25 (by rw [hs8]; decide) (by rw [hs8]; decide) (by rw [hs8]; rfl) (by decide) ?_
              refine j_aload_n dX5_channel_103 0 rfl ?_
              refine j_iload_n dX5_channel_104 1 rfl ?_
              refine j_V (w2 := (MO D M q) ++ (AR D (M 1) 455 s)) (st2 := [.int (bI (rdy s c))]) (c_X5_isReady M q s hI c (by omega)) rfl cw_X5_131 dX5_channel_105 [] rfl [0, 1] rfl rfl rfl 5 ?_ ⟨rfl, ⟨Nat.le_of_ble_eq_true rfl, Nat.le_of_ble_eq_true rfl⟩, ⟨rfl, rfl⟩, ⟨Nat.le_of_ble_eq_true rfl, Nat.le_of_ble_eq_true rfl⟩, Nat.le_of_ble_eq_true rfl, rfl, rfl⟩ rfl rfl rfl
              refine j_if_eq_B (tgt := 115) dX5_channel_108 (by decide) (fun h108 => ?_) (fun h108 => ?_)
              · skip
                refine j_iconst (v := nI 0) dX5_channel_115 (by decide) ?_
                exact j_iret dX5_channel_116 ⟨rfl, rfl⟩ ⟨by rw [chF_8 h4 hs8, cl_nI (by omega), h108]; rfl, rfl⟩
              · skip
                refine j_iconst (v := nI 1) dX5_channel_111 (by decide) ?_
                refine j_goto (tgt := 116) dX5_channel_112 (by decide) ?_
                exact j_iret dX5_channel_116 ⟨rfl, rfl⟩ ⟨by rw [chF_8 h4 hs8, cl_nI (by omega), h108]; rfl, rfl⟩
            · skip
              refine j_tableOut (tgt := 117) dX5_channel_25 (ts_out5_8 hs5 hs6 hs7 hs8) (by decide) ?_
              obtain ⟨e, he1, he2, rfl⟩ := inR_nat (by decide) (by decide) h14
              have k5 : e ≠ 5 := fun z => hs5 (by rw [z])
              have k6 : e ≠ 6 := fun z => hs6 (by rw [z])
              have k7 : e ≠ 7 := fun z => hs7 (by rw [z])
              have k8 : e ≠ 8 := fun z => hs8 (by rw [z])
              refine j_aload_n dX5_channel_117 0 rfl ?_
              refine g_X5_7 rfl dX5_channel_118 0 rfl rfl ?_
              refine j_iload_n dX5_channel_121 3 rfl ?_
              refine j_iload_n dX5_channel_122 2 rfl ?_
              refine j_iadd (v := nI (64 + 7 * c + e)) dX5_channel_123 (nI_add _ _) ?_
              refine j_iald (v := gC s c e) dX5_channel_124 1 (64 + 7 * c + e) rfl (rfl) (by omega) (Nat.le_of_ble_eq_true rfl) (rfl) ?_
              exact j_iret dX5_channel_125 ⟨rfl, rfl⟩ ⟨by rw [chF_d h4 (by omega), cl_nI (by omega)], rfl⟩
    · skip
      refine j_iconst (v := (-1)) dX5_channel_17 (by decide) ?_
      exact j_iret dX5_channel_18 ⟨rfl, rfl⟩ ⟨by rw [chF_o h14], rfl⟩

set_option maxHeartbeats 4000000 in
set_option maxRecDepth 100000 in
theorem c_X5_slot (M : Nat → Nat) (q : QT) (s : SS) (hI : Inv s) (v z w : Int32) : Ct D yX5_slot cX5_slot 5 (some .int) ({ frames := 3, cells := 0, slots := 0, locals := 63 } : Room) [.ref (M 0), .int v, .int z, .int w] ((MO D M q) ++ (AR D (M 1) 455 s)) (fun v_ u_ => v_ = some (.int (slF s v z w)) ∧ u_ = (MO D M q) ++ (AR D (M 1) 455 s)) := by
  refine ct_of (by decide) (Nat.le_of_ble_eq_true rfl) (lv0 := [(0, .ref (M 0)), (1, .int v), (2, .int z), (3, .int w)]) rfl (fun Γ => ?_)
  refine j_iload_n dX5_slot_0 1 rfl ?_
  refine j_iload_n dX5_slot_1 2 rfl ?_
  refine j_S (w2 := (MO D M q) ++ (AR D (M 1) 455 s)) (st2 := [.int (bI (inR v (nI 0) (nI 3) && inR z (nI 0) (nI 5)))]) (c_X5_isSlot v z) rfl cw_X5_147 dX5_slot_2 [] rfl [] rfl rfl rfl ?_ ⟨rfl, ⟨Nat.le_of_ble_eq_true rfl, Nat.le_of_ble_eq_true rfl⟩, ⟨rfl, rfl⟩, ⟨Nat.le_of_ble_eq_true rfl, Nat.le_of_ble_eq_true rfl⟩, Nat.le_of_ble_eq_true rfl, rfl, rfl⟩
  refine j_if_eq_B (tgt := 17) dX5_slot_5 (by decide) (fun h5 => ?_) (fun h5 => ?_)
  · skip
    refine j_iconst (v := (-1)) dX5_slot_17 (by decide) ?_
    exact j_iret dX5_slot_18 ⟨rfl, rfl⟩ ⟨by rw [show slF s v z w = -1 from if_neg (fun q => nBool h5 q.1)], rfl⟩
  · skip
    have hs_ := h5
    refine j_iload_n dX5_slot_8 3 rfl ?_
    refine j_iconst (v := nI 0) dX5_slot_9 (by decide) ?_
    refine j_iconst (v := nI 5) dX5_slot_10 (by decide) ?_
    refine j_S (w2 := (MO D M q) ++ (AR D (M 1) 455 s)) (st2 := [.int (bI (inR w (nI 0) (nI 5)))]) (c_X5_in w (nI 0) (nI 5)) rfl cw_X5_38 dX5_slot_11 [] rfl [] rfl rfl rfl ?_ ⟨rfl, ⟨Nat.le_of_ble_eq_true rfl, Nat.le_of_ble_eq_true rfl⟩, ⟨rfl, rfl⟩, ⟨Nat.le_of_ble_eq_true rfl, Nat.le_of_ble_eq_true rfl⟩, Nat.le_of_ble_eq_true rfl, rfl, rfl⟩
    refine j_if_ne_B (tgt := 19) dX5_slot_14 (by decide) (fun h14 => ?_) (fun h14 => ?_)
    · skip
      obtain ⟨hv1, hv2⟩ := (Bool.and_eq_true _ _).mp h5
      obtain ⟨c, hc1, hc2, rfl⟩ := inR_nat (by decide) (by decide) hv1
      obtain ⟨d, hd1, hd2, rfl⟩ := inR_nat (by decide) (by decide) hv2
      refine j_iload_n dX5_slot_19 1 rfl ?_
      refine j_iload_n dX5_slot_20 2 rfl ?_
      refine j_S (w2 := (MO D M q) ++ (AR D (M 1) 455 s)) (st2 := [.int (nI (92 + 14 * (c * 6 + d)))]) (c_X5_slotAt c d) rfl cw_X5_79 dX5_slot_21 [] rfl [] rfl rfl rfl ?_ ⟨rfl, ⟨Nat.le_of_ble_eq_true rfl, Nat.le_of_ble_eq_true rfl⟩, ⟨rfl, rfl⟩, ⟨Nat.le_of_ble_eq_true rfl, Nat.le_of_ble_eq_true rfl⟩, Nat.le_of_ble_eq_true rfl, rfl, rfl⟩
      refine j_istore (lv2 := [(0, .ref (M 0)), (1, .int (nI c)), (2, .int (nI d)), (3, .int w), (4, .int (nI (92 + 14 * (c * 6 + d))))]) dX5_slot_24 (by decide) [1, 2, 3, 4, 0] rfl ?_
      refine j_aload_n dX5_slot_26 0 rfl ?_
      refine g_X5_7 rfl dX5_slot_27 0 rfl rfl ?_
      refine j_iload dX5_slot_30 4 rfl ?_
      refine j_iconst (v := nI 0) dX5_slot_32 (by decide) ?_
      refine j_iadd (v := nI ((92 + 14 * (c * 6 + d)) + 0)) dX5_slot_33 (nI_add _ _) ?_
      refine j_iald (v := s (92 + 14 * (c * 6 + d))) dX5_slot_34 1 ((92 + 14 * (c * 6 + d)) + 0) rfl (rfl) (by omega) (Nat.le_of_ble_eq_true rfl) (rfl) ?_
      refine j_if_ne (tgt := 41) dX5_slot_35 (by decide) (fun h35 => ?_) (fun h35 => ?_)
      · skip
        refine j_iload_n dX5_slot_41 3 rfl ?_
        by_cases hs0 : w = nI 0
        · skip
          refine j_tableIn (off := 34) (tgt := 76) dX5_slot_42 (by rw [hs0]; decide) (by rw [hs0]; decide) (by rw [hs0]; rfl) (by decide) ?_
          refine j_aload_n dX5_slot_76 0 rfl ?_
          refine g_X5_7 rfl dX5_slot_77 0 rfl rfl ?_
          refine j_iload dX5_slot_80 4 rfl ?_
          refine j_bipush (v := nI 10) dX5_slot_82 (by decide) ?_
          refine j_iadd (v := nI ((92 + 14 * (c * 6 + d)) + 10)) dX5_slot_84 (nI_add _ _) ?_
          refine j_iald (v := gL s (c * 6 + d) 9) dX5_slot_85 1 ((92 + 14 * (c * 6 + d)) + 10) rfl (rfl) (by omega) (Nat.le_of_ble_eq_true rfl) (congrArg s (by omega)) ?_
          exact j_iret dX5_slot_86 ⟨rfl, rfl⟩ ⟨by unfold slF; rw [if_pos ⟨hs_, h14⟩, cl_nI (show c < 2 ^ 31 by omega), cl_nI (show d < 2 ^ 31 by omega), if_pos ((hI.hs (by omega)).mpr h35), if_pos hs0], rfl⟩
        · skip
          by_cases hs1 : w = nI 1
          · skip
            refine j_tableIn (off := 45) (tgt := 87) dX5_slot_42 (by rw [hs1]; decide) (by rw [hs1]; decide) (by rw [hs1]; rfl) (by decide) ?_
            refine j_aload_n dX5_slot_87 0 rfl ?_
            refine g_X5_7 rfl dX5_slot_88 0 rfl rfl ?_
            refine j_iload dX5_slot_91 4 rfl ?_
            refine j_bipush (v := nI 11) dX5_slot_93 (by decide) ?_
            refine j_iadd (v := nI ((92 + 14 * (c * 6 + d)) + 11)) dX5_slot_95 (nI_add _ _) ?_
            refine j_iald (v := gL s (c * 6 + d) 10) dX5_slot_96 1 ((92 + 14 * (c * 6 + d)) + 11) rfl (rfl) (by omega) (Nat.le_of_ble_eq_true rfl) (congrArg s (by omega)) ?_
            exact j_iret dX5_slot_97 ⟨rfl, rfl⟩ ⟨by unfold slF; rw [if_pos ⟨hs_, h14⟩, cl_nI (show c < 2 ^ 31 by omega), cl_nI (show d < 2 ^ 31 by omega), if_pos ((hI.hs (by omega)).mpr h35), if_neg hs0, if_pos hs1], rfl⟩
          · skip
            by_cases hs2 : w = nI 2
            · skip
              refine j_tableIn (off := 56) (tgt := 98) dX5_slot_42 (by rw [hs2]; decide) (by rw [hs2]; decide) (by rw [hs2]; rfl) (by decide) ?_
              refine j_aload_n dX5_slot_98 0 rfl ?_
              refine g_X5_7 rfl dX5_slot_99 0 rfl rfl ?_
              refine j_iload dX5_slot_102 4 rfl ?_
              refine j_bipush (v := nI 12) dX5_slot_104 (by decide) ?_
              refine j_iadd (v := nI ((92 + 14 * (c * 6 + d)) + 12)) dX5_slot_106 (nI_add _ _) ?_
              refine j_iald (v := gL s (c * 6 + d) 11) dX5_slot_107 1 ((92 + 14 * (c * 6 + d)) + 12) rfl (rfl) (by omega) (Nat.le_of_ble_eq_true rfl) (congrArg s (by omega)) ?_
              exact j_iret dX5_slot_108 ⟨rfl, rfl⟩ ⟨by unfold slF; rw [if_pos ⟨hs_, h14⟩, cl_nI (show c < 2 ^ 31 by omega), cl_nI (show d < 2 ^ 31 by omega), if_pos ((hI.hs (by omega)).mpr h35), if_neg hs0, if_neg hs1, if_pos hs2], rfl⟩
            · skip
              by_cases hs3 : w = nI 3
              · skip
                refine j_tableIn (off := 67) (tgt := 109) dX5_slot_42 (by rw [hs3]; decide) (by rw [hs3]; decide) (by rw [hs3]; rfl) (by decide) ?_
                refine j_aload_n dX5_slot_109 0 rfl ?_
                refine j_iload dX5_slot_110 4 rfl ?_
                refine j_V (w2 := (MO D M q) ++ (AR D (M 1) 455 s)) (st2 := [.int (gL s (c * 6 + d) 2 * gL s (c * 6 + d) 5)]) (c_X5_unitsOf M q s (c * 6 + d) (by omega)) rfl cw_X5_120 dX5_slot_112 [] rfl [0, 1] rfl rfl rfl 5 ?_ ⟨rfl, ⟨Nat.le_of_ble_eq_true rfl, Nat.le_of_ble_eq_true rfl⟩, ⟨rfl, rfl⟩, ⟨Nat.le_of_ble_eq_true rfl, Nat.le_of_ble_eq_true rfl⟩, Nat.le_of_ble_eq_true rfl, rfl, rfl⟩ rfl rfl rfl
                exact j_iret dX5_slot_115 ⟨rfl, rfl⟩ ⟨by unfold slF; rw [if_pos ⟨hs_, h14⟩, cl_nI (show c < 2 ^ 31 by omega), cl_nI (show d < 2 ^ 31 by omega), if_pos ((hI.hs (by omega)).mpr h35), if_neg hs0, if_neg hs1, if_neg hs2, if_pos hs3], rfl⟩
              · skip
                by_cases hs4 : w = nI 4
                · skip
                  refine j_tableIn (off := 74) (tgt := 116) dX5_slot_42 (by rw [hs4]; decide) (by rw [hs4]; decide) (by rw [hs4]; rfl) (by decide) ?_
                  refine j_aload_n dX5_slot_116 0 rfl ?_
                  refine g_X5_7 rfl dX5_slot_117 0 rfl rfl ?_
                  refine j_iload dX5_slot_120 4 rfl ?_
                  refine j_bipush (v := nI 9) dX5_slot_122 (by decide) ?_
                  refine j_iadd (v := nI ((92 + 14 * (c * 6 + d)) + 9)) dX5_slot_124 (nI_add _ _) ?_
                  refine j_iald (v := gL s (c * 6 + d) 8) dX5_slot_125 1 ((92 + 14 * (c * 6 + d)) + 9) rfl (rfl) (by omega) (Nat.le_of_ble_eq_true rfl) (congrArg s (by omega)) ?_
                  exact j_iret dX5_slot_126 ⟨rfl, rfl⟩ ⟨by unfold slF; rw [if_pos ⟨hs_, h14⟩, cl_nI (show c < 2 ^ 31 by omega), cl_nI (show d < 2 ^ 31 by omega), if_pos ((hI.hs (by omega)).mpr h35), if_neg hs0, if_neg hs1, if_neg hs2, if_neg hs3, if_pos hs4], rfl⟩
                · skip
                  refine j_tableOut (tgt := 127) dX5_slot_42 (ts_out0_4 hs0 hs1 hs2 hs3 hs4) (by decide) ?_
                  refine j_aload_n dX5_slot_127 0 rfl ?_
                  refine g_X5_7 rfl dX5_slot_128 0 rfl rfl ?_
                  refine j_iload dX5_slot_131 4 rfl ?_
                  refine j_bipush (v := nI 13) dX5_slot_133 (by decide) ?_
                  refine j_iadd (v := nI ((92 + 14 * (c * 6 + d)) + 13)) dX5_slot_135 (nI_add _ _) ?_
                  refine j_iald (v := gL s (c * 6 + d) 12) dX5_slot_136 1 ((92 + 14 * (c * 6 + d)) + 13) rfl (rfl) (by omega) (Nat.le_of_ble_eq_true rfl) (congrArg s (by omega)) ?_
                  exact j_iret dX5_slot_137 ⟨rfl, rfl⟩ ⟨by unfold slF; rw [if_pos ⟨hs_, h14⟩, cl_nI (show c < 2 ^ 31 by omega), cl_nI (show d < 2 ^ 31 by omega), if_pos ((hI.hs (by omega)).mpr h35), if_neg hs0, if_neg hs1, if_neg hs2, if_neg hs3, if_neg hs4], rfl⟩
      · skip
        refine j_bipush (v := (-9)) dX5_slot_38 (by decide) ?_
        exact j_iret dX5_slot_40 ⟨rfl, rfl⟩ ⟨by unfold slF; rw [if_pos ⟨hs_, h14⟩, cl_nI (show c < 2 ^ 31 by omega), cl_nI (show d < 2 ^ 31 by omega), if_neg (fun q => (hI.hs (by omega)).mp q h35)], rfl⟩
    · skip
      refine j_iconst (v := (-1)) dX5_slot_17 (by decide) ?_
      exact j_iret dX5_slot_18 ⟨rfl, rfl⟩ ⟨by rw [show slF s v z w = -1 from if_neg (fun q => nBool h14 q.2)], rfl⟩

set_option maxHeartbeats 4000000 in
set_option maxRecDepth 100000 in
theorem c_X5_unit (M : Nat → Nat) (q : QT) (s : SS) (hI : Inv s) (v z k w : Int32) : Ct D yX5_unit cX5_unit 6 (some .int) ({ frames := 3, cells := 0, slots := 0, locals := 63 } : Room) [.ref (M 0), .int v, .int z, .int k, .int w] ((MO D M q) ++ (AR D (M 1) 455 s)) (fun v_ u_ => v_ = some (.int (uiF s v z k w)) ∧ u_ = (MO D M q) ++ (AR D (M 1) 455 s)) := by
  refine ct_of (by decide) (Nat.le_of_ble_eq_true rfl) (lv0 := [(0, .ref (M 0)), (1, .int v), (2, .int z), (3, .int k), (4, .int w)]) rfl (fun Γ => ?_)
  refine j_iload_n dX5_unit_0 1 rfl ?_
  refine j_iload_n dX5_unit_1 2 rfl ?_
  refine j_S (w2 := (MO D M q) ++ (AR D (M 1) 455 s)) (st2 := [.int (bI (inR v (nI 0) (nI 3) && inR z (nI 0) (nI 5)))]) (c_X5_isSlot v z) rfl cw_X5_147 dX5_unit_2 [] rfl [] rfl rfl rfl ?_ ⟨rfl, ⟨Nat.le_of_ble_eq_true rfl, Nat.le_of_ble_eq_true rfl⟩, ⟨rfl, rfl⟩, ⟨Nat.le_of_ble_eq_true rfl, Nat.le_of_ble_eq_true rfl⟩, Nat.le_of_ble_eq_true rfl, rfl, rfl⟩
  refine j_if_eq_B (tgt := 22) dX5_unit_5 (by decide) (fun h5 => ?_) (fun h5 => ?_)
  · skip
    refine j_iconst (v := (-1)) dX5_unit_22 (by decide) ?_
    exact j_iret dX5_unit_23 ⟨rfl, rfl⟩ ⟨by rw [show uiF s v z k w = -1 from if_neg (fun q => nBool h5 q.1)], rfl⟩
  · skip
    have hs_ := h5
    refine j_iload_n dX5_unit_8 3 rfl ?_
    refine j_if_lt (tgt := 22) dX5_unit_9 (by decide) (fun h9 => ?_) (fun h9 => ?_)
    · skip
      refine j_iconst (v := (-1)) dX5_unit_22 (by decide) ?_
      exact j_iret dX5_unit_23 ⟨rfl, rfl⟩ ⟨by rw [show uiF s v z k w = -1 from if_neg (fun q => q.2.1 h9)], rfl⟩
    · skip
      refine j_iload dX5_unit_12 4 rfl ?_
      refine j_iconst (v := nI 0) dX5_unit_14 (by decide) ?_
      refine j_iconst (v := nI 1) dX5_unit_15 (by decide) ?_
      refine j_S (w2 := (MO D M q) ++ (AR D (M 1) 455 s)) (st2 := [.int (bI (inR w (nI 0) (nI 1)))]) (c_X5_in w (nI 0) (nI 1)) rfl cw_X5_38 dX5_unit_16 [] rfl [] rfl rfl rfl ?_ ⟨rfl, ⟨Nat.le_of_ble_eq_true rfl, Nat.le_of_ble_eq_true rfl⟩, ⟨rfl, rfl⟩, ⟨Nat.le_of_ble_eq_true rfl, Nat.le_of_ble_eq_true rfl⟩, Nat.le_of_ble_eq_true rfl, rfl, rfl⟩
      refine j_if_ne_B (tgt := 24) dX5_unit_19 (by decide) (fun h19 => ?_) (fun h19 => ?_)
      · skip
        obtain ⟨hv1, hv2⟩ := (Bool.and_eq_true _ _).mp h5
        obtain ⟨c, hc1, hc2, rfl⟩ := inR_nat (by decide) (by decide) hv1
        obtain ⟨d, hd1, hd2, rfl⟩ := inR_nat (by decide) (by decide) hv2
        obtain ⟨e, he1, he2, rfl⟩ := inR_nat (by decide) (by decide) h19
        obtain ⟨j, hj1, rfl⟩ := nI_of h9
        have hpd : c * 6 + d < 24 := by omega
        refine j_iload_n dX5_unit_24 1 rfl ?_
        refine j_iload_n dX5_unit_25 2 rfl ?_
        refine j_S (w2 := (MO D M q) ++ (AR D (M 1) 455 s)) (st2 := [.int (nI (92 + 14 * (c * 6 + d)))]) (c_X5_slotAt c d) rfl cw_X5_79 dX5_unit_26 [] rfl [] rfl rfl rfl ?_ ⟨rfl, ⟨Nat.le_of_ble_eq_true rfl, Nat.le_of_ble_eq_true rfl⟩, ⟨rfl, rfl⟩, ⟨Nat.le_of_ble_eq_true rfl, Nat.le_of_ble_eq_true rfl⟩, Nat.le_of_ble_eq_true rfl, rfl, rfl⟩
        refine j_istore (lv2 := [(0, .ref (M 0)), (1, .int (nI c)), (2, .int (nI d)), (3, .int (nI j)), (4, .int (nI e)), (5, .int (nI (92 + 14 * (c * 6 + d))))]) dX5_unit_29 (by decide) [1, 2, 3, 4, 5, 0] rfl ?_
        refine j_aload_n dX5_unit_31 0 rfl ?_
        refine g_X5_7 rfl dX5_unit_32 0 rfl rfl ?_
        refine j_iload dX5_unit_35 5 rfl ?_
        refine j_iconst (v := nI 0) dX5_unit_37 (by decide) ?_
        refine j_iadd (v := nI ((92 + 14 * (c * 6 + d)) + 0)) dX5_unit_38 (nI_add _ _) ?_
        refine j_iald (v := s (92 + 14 * (c * 6 + d))) dX5_unit_39 1 ((92 + 14 * (c * 6 + d)) + 0) rfl (rfl) (by omega) (Nat.le_of_ble_eq_true rfl) (rfl) ?_
        refine j_if_eq (tgt := 53) dX5_unit_40 (by decide) (fun h40 => ?_) (fun h40 => ?_)
        · skip
          refine j_bipush (v := (-9)) dX5_unit_53 (by decide) ?_
          refine j_goto (tgt := 67) dX5_unit_55 (by decide) ?_
          exact j_iret dX5_unit_67 ⟨rfl, rfl⟩ ⟨by unfold uiF; rw [if_pos ⟨hs_, h9, h19⟩, cl_nI (show c < 2 ^ 31 by omega), cl_nI (show d < 2 ^ 31 by omega), if_neg (fun q => (hI.hs hpd).mp q.1 h40)], rfl⟩
        · skip
          have hle := hI.le hpd h40
          have hun := un_lt hle.2.1.2.2 hle.2.2.1.2.2
          obtain ⟨hn, h1, h2⟩ := hle.2.1
          refine j_iload_n dX5_unit_43 3 rfl ?_
          refine j_aload_n dX5_unit_44 0 rfl ?_
          refine j_iload dX5_unit_45 5 rfl ?_
          refine j_V (w2 := (MO D M q) ++ (AR D (M 1) 455 s)) (st2 := [.int (gL s (c * 6 + d) 2 * gL s (c * 6 + d) 5), .int (nI j)]) (c_X5_unitsOf M q s (c * 6 + d) (by omega)) rfl cw_X5_120 dX5_unit_47 [.int (nI j)] rfl [0, 1] rfl rfl rfl 5 ?_ ⟨rfl, ⟨Nat.le_of_ble_eq_true rfl, Nat.le_of_ble_eq_true rfl⟩, ⟨rfl, rfl⟩, ⟨Nat.le_of_ble_eq_true rfl, Nat.le_of_ble_eq_true rfl⟩, Nat.le_of_ble_eq_true rfl, rfl, rfl⟩ rfl rfl rfl
          refine j_topi (v := nI (un s (c * 6 + d))) (by rw [hn, hle.2.2.1.1, pk_mul]; rfl) ?_
          refine j_icmp_lt_N (tgt := 58) dX5_unit_50 (by decide) ⟨by omega, by omega⟩ (fun h50 => ?_) (fun h50 => ?_)
          · skip
            refine j_aload_n dX5_unit_58 0 rfl ?_
            refine j_iload dX5_unit_59 5 rfl ?_
            refine j_iload_n dX5_unit_61 3 rfl ?_
            refine j_iload dX5_unit_62 4 rfl ?_
            refine j_V (w2 := (MO D M q) ++ (AR D (M 1) 455 s)) (st2 := [.int (nI (ad s (c * 6 + d) j e))]) (c_X5_addressOf M q s (c * 6 + d) j e (by omega) hn (by omega) (by omega) (by omega) (by omega)) rfl cw_X5_123 dX5_unit_64 [] rfl [0, 1] rfl rfl rfl 5 ?_ ⟨rfl, ⟨Nat.le_of_ble_eq_true rfl, Nat.le_of_ble_eq_true rfl⟩, ⟨rfl, rfl⟩, ⟨Nat.le_of_ble_eq_true rfl, Nat.le_of_ble_eq_true rfl⟩, Nat.le_of_ble_eq_true rfl, rfl, rfl⟩ rfl rfl rfl
            exact j_iret dX5_unit_67 ⟨rfl, rfl⟩ ⟨by unfold uiF; rw [if_pos ⟨hs_, h9, h19⟩, cl_nI (show c < 2 ^ 31 by omega), cl_nI (show d < 2 ^ 31 by omega), if_pos ⟨(hI.hs hpd).mpr h40, (nI_ltI (by omega) (by omega)).mpr h50⟩, cl_nI (by omega), cl_nI (by omega)], rfl⟩
          · skip
            refine j_bipush (v := (-9)) dX5_unit_53 (by decide) ?_
            refine j_goto (tgt := 67) dX5_unit_55 (by decide) ?_
            exact j_iret dX5_unit_67 ⟨rfl, rfl⟩ ⟨by unfold uiF; rw [if_pos ⟨hs_, h9, h19⟩, cl_nI (show c < 2 ^ 31 by omega), cl_nI (show d < 2 ^ 31 by omega), if_neg (fun q => h50 ((nI_ltI (by omega) (by omega)).mp q.2))], rfl⟩
      · skip
        refine j_iconst (v := (-1)) dX5_unit_22 (by decide) ?_
        exact j_iret dX5_unit_23 ⟨rfl, rfl⟩ ⟨by rw [show uiF s v z k w = -1 from if_neg (fun q => nBool h19 q.2.2)], rfl⟩

set_option maxHeartbeats 4000000 in
set_option maxRecDepth 100000 in
theorem c_X5_waiting (M : Nat → Nat) (q : QT) (s : SS) (hI : Inv s) (i : Int32) : Ct D yX5_waiting cX5_waiting 2 (some .int) ({ frames := 0, cells := 0, slots := 0, locals := 0 } : Room) [.ref (M 0), .int i] ((MO D M q) ++ (AR D (M 1) 455 s)) (fun v_ u_ => v_ = some (.int (waA s i)) ∧ u_ = (MO D M q) ++ (AR D (M 1) 455 s)) := by
  refine ct_of (by decide) (Nat.le_of_ble_eq_true rfl) (lv0 := [(0, .ref (M 0)), (1, .int i)]) rfl (fun Γ => ?_)
  refine j_iload_n dX5_waiting_0 1 rfl ?_
  refine j_if_ge (tgt := 6) dX5_waiting_1 (by decide) (fun h1 => ?_) (fun h1 => ?_)
  · skip
    refine j_iload_n dX5_waiting_6 1 rfl ?_
    refine j_aload_n dX5_waiting_7 0 rfl ?_
    refine g_X5_7 rfl dX5_waiting_8 0 rfl rfl ?_
    refine j_sipush (v := nI 428) dX5_waiting_11 (by decide) ?_
    refine j_iald (v := s 428) dX5_waiting_14 1 428 rfl (rfl) (by omega) (Nat.le_of_ble_eq_true rfl) (rfl) ?_
    refine j_icmp_ge (tgt := 51) dX5_waiting_15 (by decide) (fun h15 => ?_) (fun h15 => ?_)
    · skip
      refine j_bipush (v := (-9)) dX5_waiting_51 (by decide) ?_
      exact j_iret dX5_waiting_53 ⟨rfl, rfl⟩ ⟨by unfold waA; rw [if_neg (Int32.not_lt.mpr h1), if_neg (Int32.not_lt.mpr h15)], rfl⟩
    · skip
      have h14 := Int32.not_le.mp h15
      have hq : ¬ s 428 = 0 := fun e => by rw [e] at h14; exact absurd h14 (Int32.not_lt.mpr h1)
      have hqu := hI.qu_ hq
      have hq3 := hqu.2.2
      have hi0 : i = nI 0 := by
        obtain ⟨j, hj1, rfl⟩ := nI_of (Int32.not_lt.mpr h1)
        rw [hqu.1] at h14
        have := (nI_ltI (b := 1) hj1 (by decide)).mp h14
        rw [show j = 0 by omega]
      subst hi0
      refine j_bipush (v := nI 8) dX5_waiting_18 (by decide) ?_
      refine j_aload_n dX5_waiting_20 0 rfl ?_
      refine g_X5_7 rfl dX5_waiting_21 0 rfl rfl ?_
      refine j_sipush (v := nI 429) dX5_waiting_24 (by decide) ?_
      refine j_iload_n dX5_waiting_27 1 rfl ?_
      refine j_iadd (v := nI (429 + 0)) dX5_waiting_28 (nI_add _ _) ?_
      refine j_iald (v := nI (qu s)) dX5_waiting_29 1 (429 + 0) rfl (rfl) (by omega) (Nat.le_of_ble_eq_true rfl) (hqu.2.1) ?_
      refine j_bipush (v := nI 6) dX5_waiting_30 (by decide) ?_
      refine j_idiv (v := nI ((qu s) / 6)) dX5_waiting_32 (by decide) (pk_div (by omega) (by omega) (by omega)) ?_
      refine j_imul (v := nI (8 * ((qu s) / 6))) dX5_waiting_33 (pk_mul _ _) ?_
      refine j_aload_n dX5_waiting_34 0 rfl ?_
      refine g_X5_7 rfl dX5_waiting_35 0 rfl rfl ?_
      refine j_sipush (v := nI 429) dX5_waiting_38 (by decide) ?_
      refine j_iload_n dX5_waiting_41 1 rfl ?_
      refine j_iadd (v := nI (429 + 0)) dX5_waiting_42 (nI_add _ _) ?_
      refine j_iald (v := nI (qu s)) dX5_waiting_43 1 (429 + 0) rfl (rfl) (by omega) (Nat.le_of_ble_eq_true rfl) (hqu.2.1) ?_
      refine j_bipush (v := nI 6) dX5_waiting_44 (by decide) ?_
      refine j_irem (v := nI ((qu s) % 6)) dX5_waiting_46 (by decide) (pk_rem (by omega) (by omega) (by omega)) ?_
      refine j_iadd (v := nI ((8 * ((qu s) / 6)) + ((qu s) % 6))) dX5_waiting_47 (nI_add _ _) ?_
      refine j_goto (tgt := 53) dX5_waiting_48 (by decide) ?_
      exact j_iret dX5_waiting_53 ⟨rfl, rfl⟩ ⟨by unfold waA; rw [if_neg (Int32.not_lt.mpr h1), if_pos h14], rfl⟩
  · skip
    refine j_iconst (v := (-1)) dX5_waiting_4 (by decide) ?_
    exact j_iret dX5_waiting_5 ⟨rfl, rfl⟩ ⟨by unfold waA; rw [if_pos (Int32.not_le.mp h1)], rfl⟩

set_option maxHeartbeats 4000000 in
set_option maxRecDepth 100000 in
theorem c_X5_writesOf (M : Nat → Nat) (q : QT) (s : SS) (hI : Inv s) (p : Nat) (hp : p < 24) (hh : s (92 + 14 * p) ≠ 0) : Ct D yX5_writesOf cX5_writesOf 5 (some .long) ({ frames := 2, cells := 0, slots := 0, locals := 46 } : Room) [.ref (M 0), .int (nI (92 + 14 * p))] ((MO D M q) ++ (AR D (M 1) 455 s)) (fun v_ u_ => v_ = some (.long (wbs s p (un s p))) ∧ u_ = (MO D M q) ++ (AR D (M 1) 455 s)) := by
  have hle := hI.le hp hh
  have hre := hle.2.2.2.2
  have hun := un_lt hle.2.1.2.2 hle.2.2.1.2.2
  obtain ⟨hn, h1, h2⟩ := hle.2.1
  refine ct_of (by decide) (Nat.le_of_ble_eq_true rfl) (lv0 := [(0, .ref (M 0)), (1, .int (nI (92 + 14 * p)))]) rfl (fun Γ => ?_)
  refine j_lconst (v := 0) dX5_writesOf_0 (by decide) ?_
  refine j_lstore_n (lv2 := [(0, .ref (M 0)), (1, .int (nI (92 + 14 * p))), (2, .long 0)]) dX5_writesOf_1 (by decide) [1, 2, 0] rfl ?_
  refine j_iconst (v := nI 0) dX5_writesOf_2 (by decide) ?_
  refine j_istore (lv2 := [(0, .ref (M 0)), (1, .int (nI (92 + 14 * p))), (2, .long 0), (4, .int (nI 0))]) dX5_writesOf_3 (by decide) [1, 2, 3, 0] rfl ?_
  have L5 : ∀ (fuel : Nat) (i : Nat), i ≤ un s p → un s p - i < fuel → J D Γ yX5_writesOf cX5_writesOf 5 (some .long) ({ frames := 2, cells := 0, slots := 0, locals := 46 } : Room) (Qf D Γ ({ frames := 2, cells := 0, slots := 0, locals := 46 } : Room) (fun v_ u_ => v_ = some (.long (wbs s p (un s p))) ∧ u_ = (MO D M q) ++ (AR D (M 1) 455 s))) 0 0 ((MO D M q) ++ (AR D (M 1) 455 s)) 5 [(0, .ref (M 0)), (1, .int (nI (92 + 14 * p))), (2, .long (wbs s p i)), (4, .int (nI i))] [] := by
    intro fuel
    induction fuel with
    | zero => intro i hi hm; exact absurd hm (Nat.not_lt_zero _)
    | succ fuel ih =>
      intro i hi hm
      refine j_iload dX5_writesOf_5 3 rfl ?_
      refine j_aload_n dX5_writesOf_7 0 rfl ?_
      refine j_iload_n dX5_writesOf_8 1 rfl ?_
      refine j_V (w2 := (MO D M q) ++ (AR D (M 1) 455 s)) (st2 := [.int (gL s p 2 * gL s p 5), .int (nI i)]) (c_X5_unitsOf M q s p (by omega)) rfl cw_X5_120 dX5_writesOf_9 [.int (nI i)] rfl [0, 1] rfl rfl rfl 5 ?_ ⟨rfl, ⟨Nat.le_of_ble_eq_true rfl, Nat.le_of_ble_eq_true rfl⟩, ⟨rfl, rfl⟩, ⟨Nat.le_of_ble_eq_true rfl, Nat.le_of_ble_eq_true rfl⟩, Nat.le_of_ble_eq_true rfl, rfl, rfl⟩ rfl rfl rfl
      refine j_topi (v := nI (un s p)) (by rw [hn, hle.2.2.1.1, pk_mul]; rfl) ?_
      refine j_icmp_ge_N (tgt := 34) dX5_writesOf_12 (by decide) ⟨by omega, by omega⟩ (fun h12 => ?_) (fun h12 => ?_)
      · skip
        refine j_lload_n dX5_writesOf_34 2 rfl ?_
        exact j_lret dX5_writesOf_35 ⟨rfl, rfl⟩ ⟨by rw [show i = un s p by omega], rfl⟩
      · skip
        refine j_lload_n dX5_writesOf_15 2 rfl ?_
        refine j_lconst (v := 1) dX5_writesOf_16 (by decide) ?_
        refine j_aload_n dX5_writesOf_17 0 rfl ?_
        refine j_iload_n dX5_writesOf_18 1 rfl ?_
        refine j_iload dX5_writesOf_19 3 rfl ?_
        refine j_iconst (v := nI 1) dX5_writesOf_21 (by decide) ?_
        refine j_V (w2 := (MO D M q) ++ (AR D (M 1) 455 s)) (st2 := [.int (nI (ad s p i 1)), .long 1, .long (wbs s p i)]) (c_X5_addressOf M q s p i 1 (by omega) hn (by omega) (by omega) (by omega) (by omega)) rfl cw_X5_123 dX5_writesOf_22 [.long 1, .long (wbs s p i)] rfl [0, 1] rfl rfl rfl 5 ?_ ⟨rfl, ⟨Nat.le_of_ble_eq_true rfl, Nat.le_of_ble_eq_true rfl⟩, ⟨rfl, rfl⟩, ⟨Nat.le_of_ble_eq_true rfl, Nat.le_of_ble_eq_true rfl⟩, Nat.le_of_ble_eq_true rfl, rfl, rfl⟩ rfl rfl rfl
        refine j_lshl (v := 1 <<< ((nI (ad s p i 1)).toInt64 &&& 63)) dX5_writesOf_25 (rfl) ?_
        refine j_lor (v := wbs s p (i + 1)) dX5_writesOf_26 (rfl) ?_
        refine j_lstore_n (lv2 := [(0, .ref (M 0)), (1, .int (nI (92 + 14 * p))), (2, .long (wbs s p (i + 1))), (4, .int (nI i))]) dX5_writesOf_27 (by decide) [1, 2, 0, 3] rfl ?_
        refine j_iinc (v := nI (i + 1)) (lv2 := [(0, .ref (M 0)), (1, .int (nI (92 + 14 * p))), (2, .long (wbs s p (i + 1))), (4, .int (nI (i + 1)))]) dX5_writesOf_28 3 rfl (nI_1 _) (by decide) [1, 2, 3, 0] rfl ?_
        refine j_goto (tgt := 5) dX5_writesOf_31 (by decide) ?_
        exact ih (i + 1) (by omega) (by omega)
  exact L5 (un s p + 1) 0 (by omega) (by omega)

set_option maxHeartbeats 4000000 in
set_option maxRecDepth 100000 in
theorem c_X5_both (M : Nat → Nat) (q : QT) (s : SS) (hI : Inv s) (v z p w : Int32) : Ct D yX5_both cX5_both 11 (some .int) ({ frames := 3, cells := 0, slots := 0, locals := 70 } : Room) [.ref (M 0), .int v, .int z, .int p, .int w] ((MO D M q) ++ (AR D (M 1) 455 s)) (fun v_ u_ => v_ = some (.int (boF s v z p w)) ∧ u_ = (MO D M q) ++ (AR D (M 1) 455 s)) := by
  refine ct_of (by decide) (Nat.le_of_ble_eq_true rfl) (lv0 := [(0, .ref (M 0)), (1, .int v), (2, .int z), (3, .int p), (4, .int w)]) rfl (fun Γ => ?_)
  refine j_iload_n dX5_both_0 1 rfl ?_
  refine j_iload_n dX5_both_1 2 rfl ?_
  refine j_S (w2 := (MO D M q) ++ (AR D (M 1) 455 s)) (st2 := [.int (bI (inR v (nI 0) (nI 3) && inR z (nI 0) (nI 5)))]) (c_X5_isSlot v z) rfl cw_X5_147 dX5_both_2 [] rfl [] rfl rfl rfl ?_ ⟨rfl, ⟨Nat.le_of_ble_eq_true rfl, Nat.le_of_ble_eq_true rfl⟩, ⟨rfl, rfl⟩, ⟨Nat.le_of_ble_eq_true rfl, Nat.le_of_ble_eq_true rfl⟩, Nat.le_of_ble_eq_true rfl, rfl, rfl⟩
  refine j_if_eq_B (tgt := 17) dX5_both_5 (by decide) (fun h5 => ?_) (fun h5 => ?_)
  · skip
    refine j_iconst (v := (-1)) dX5_both_17 (by decide) ?_
    exact j_iret dX5_both_18 ⟨rfl, rfl⟩ ⟨by rw [show boF s v z p w = -1 from if_neg (fun r => nBool h5 r.1)], rfl⟩
  · skip
    refine j_iload_n dX5_both_8 3 rfl ?_
    refine j_iload dX5_both_9 4 rfl ?_
    refine j_S (w2 := (MO D M q) ++ (AR D (M 1) 455 s)) (st2 := [.int (bI (inR p (nI 0) (nI 3) && inR w (nI 0) (nI 5)))]) (c_X5_isSlot p w) rfl cw_X5_147 dX5_both_11 [] rfl [] rfl rfl rfl ?_ ⟨rfl, ⟨Nat.le_of_ble_eq_true rfl, Nat.le_of_ble_eq_true rfl⟩, ⟨rfl, rfl⟩, ⟨Nat.le_of_ble_eq_true rfl, Nat.le_of_ble_eq_true rfl⟩, Nat.le_of_ble_eq_true rfl, rfl, rfl⟩
    refine j_if_ne_B (tgt := 19) dX5_both_14 (by decide) (fun h14 => ?_) (fun h14 => ?_)
    · skip
      obtain ⟨hv1, hv2⟩ := (Bool.and_eq_true _ _).mp h5
      obtain ⟨hv3, hv4⟩ := (Bool.and_eq_true _ _).mp h14
      obtain ⟨c, hc1, hc2, rfl⟩ := inR_nat (by decide) (by decide) hv1
      obtain ⟨d, hd1, hd2, rfl⟩ := inR_nat (by decide) (by decide) hv2
      obtain ⟨e, he1, he2, rfl⟩ := inR_nat (by decide) (by decide) hv3
      obtain ⟨f, hf1, hf2, rfl⟩ := inR_nat (by decide) (by decide) hv4
      refine j_iload_n dX5_both_19 1 rfl ?_
      refine j_iload_n dX5_both_20 2 rfl ?_
      refine j_S (w2 := (MO D M q) ++ (AR D (M 1) 455 s)) (st2 := [.int (nI (92 + 14 * (c * 6 + d)))]) (c_X5_slotAt c d) rfl cw_X5_79 dX5_both_21 [] rfl [] rfl rfl rfl ?_ ⟨rfl, ⟨Nat.le_of_ble_eq_true rfl, Nat.le_of_ble_eq_true rfl⟩, ⟨rfl, rfl⟩, ⟨Nat.le_of_ble_eq_true rfl, Nat.le_of_ble_eq_true rfl⟩, Nat.le_of_ble_eq_true rfl, rfl, rfl⟩
      refine j_istore (lv2 := [(0, .ref (M 0)), (1, .int (nI c)), (2, .int (nI d)), (3, .int (nI e)), (4, .int (nI f)), (5, .int (nI (92 + 14 * (c * 6 + d))))]) dX5_both_24 (by decide) [1, 2, 3, 4, 5, 0] rfl ?_
      refine j_iload_n dX5_both_26 3 rfl ?_
      refine j_iload dX5_both_27 4 rfl ?_
      refine j_S (w2 := (MO D M q) ++ (AR D (M 1) 455 s)) (st2 := [.int (nI (92 + 14 * (e * 6 + f)))]) (c_X5_slotAt e f) rfl cw_X5_79 dX5_both_29 [] rfl [] rfl rfl rfl ?_ ⟨rfl, ⟨Nat.le_of_ble_eq_true rfl, Nat.le_of_ble_eq_true rfl⟩, ⟨rfl, rfl⟩, ⟨Nat.le_of_ble_eq_true rfl, Nat.le_of_ble_eq_true rfl⟩, Nat.le_of_ble_eq_true rfl, rfl, rfl⟩
      refine j_istore (lv2 := [(0, .ref (M 0)), (1, .int (nI c)), (2, .int (nI d)), (3, .int (nI e)), (4, .int (nI f)), (5, .int (nI (92 + 14 * (c * 6 + d)))), (6, .int (nI (92 + 14 * (e * 6 + f))))]) dX5_both_32 (by decide) [1, 2, 3, 4, 5, 6, 0] rfl ?_
      refine j_aload_n dX5_both_34 0 rfl ?_
      refine g_X5_7 rfl dX5_both_35 0 rfl rfl ?_
      refine j_iload dX5_both_38 5 rfl ?_
      refine j_iconst (v := nI 0) dX5_both_40 (by decide) ?_
      refine j_iadd (v := nI ((92 + 14 * (c * 6 + d)) + 0)) dX5_both_41 (nI_add _ _) ?_
      refine j_iald (v := s (92 + 14 * (c * 6 + d))) dX5_both_42 1 ((92 + 14 * (c * 6 + d)) + 0) rfl (rfl) (by omega) (Nat.le_of_ble_eq_true rfl) (rfl) ?_
      refine j_if_eq (tgt := 58) dX5_both_43 (by decide) (fun h43 => ?_) (fun h43 => ?_)
      · skip
        refine j_bipush (v := (-9)) dX5_both_58 (by decide) ?_
        exact j_iret dX5_both_60 ⟨rfl, rfl⟩ ⟨by unfold boF; rw [if_pos ⟨h5, h14⟩, cl_nI (show c < 2 ^ 31 by omega), cl_nI (show d < 2 ^ 31 by omega), cl_nI (show e < 2 ^ 31 by omega), cl_nI (show f < 2 ^ 31 by omega), if_neg (fun r => (hI.hs (show c * 6 + d < 24 by omega)).mp r.1 h43)], rfl⟩
      · skip
        refine j_aload_n dX5_both_46 0 rfl ?_
        refine g_X5_7 rfl dX5_both_47 0 rfl rfl ?_
        refine j_iload dX5_both_50 6 rfl ?_
        refine j_iconst (v := nI 0) dX5_both_52 (by decide) ?_
        refine j_iadd (v := nI ((92 + 14 * (e * 6 + f)) + 0)) dX5_both_53 (nI_add _ _) ?_
        refine j_iald (v := s (92 + 14 * (e * 6 + f))) dX5_both_54 1 ((92 + 14 * (e * 6 + f)) + 0) rfl (rfl) (by omega) (Nat.le_of_ble_eq_true rfl) (rfl) ?_
        refine j_if_ne (tgt := 61) dX5_both_55 (by decide) (fun h55 => ?_) (fun h55 => ?_)
        · skip
          refine j_aload_n dX5_both_61 0 rfl ?_
          refine j_iload dX5_both_62 5 rfl ?_
          refine j_V (w2 := (MO D M q) ++ (AR D (M 1) 455 s)) (st2 := [.long (wbs s (c * 6 + d) (un s (c * 6 + d)))]) (c_X5_writesOf M q s hI (c * 6 + d) (by omega) h43) rfl cw_X5_151 dX5_both_64 [] rfl [0, 1] rfl rfl rfl 5 ?_ ⟨rfl, ⟨Nat.le_of_ble_eq_true rfl, Nat.le_of_ble_eq_true rfl⟩, ⟨rfl, rfl⟩, ⟨Nat.le_of_ble_eq_true rfl, Nat.le_of_ble_eq_true rfl⟩, Nat.le_of_ble_eq_true rfl, rfl, rfl⟩ rfl rfl rfl
          refine j_aload_n dX5_both_67 0 rfl ?_
          refine j_iload dX5_both_68 6 rfl ?_
          refine j_V (w2 := (MO D M q) ++ (AR D (M 1) 455 s)) (st2 := [.long (wbs s (e * 6 + f) (un s (e * 6 + f))), .long (wbs s (c * 6 + d) (un s (c * 6 + d)))]) (c_X5_writesOf M q s hI (e * 6 + f) (by omega) h55) rfl cw_X5_151 dX5_both_70 [.long (wbs s (c * 6 + d) (un s (c * 6 + d)))] rfl [0, 1] rfl rfl rfl 5 ?_ ⟨rfl, ⟨Nat.le_of_ble_eq_true rfl, Nat.le_of_ble_eq_true rfl⟩, ⟨rfl, rfl⟩, ⟨Nat.le_of_ble_eq_true rfl, Nat.le_of_ble_eq_true rfl⟩, Nat.le_of_ble_eq_true rfl, rfl, rfl⟩ rfl rfl rfl
          refine j_land (v := (wbs s (c * 6 + d) (un s (c * 6 + d))) &&& (wbs s (e * 6 + f) (un s (e * 6 + f)))) dX5_both_73 (rfl) ?_
          refine j_lstore (lv2 := [(0, .ref (M 0)), (1, .int (nI c)), (2, .int (nI d)), (3, .int (nI e)), (4, .int (nI f)), (5, .int (nI (92 + 14 * (c * 6 + d)))), (6, .int (nI (92 + 14 * (e * 6 + f)))), (7, .long ((wbs s (c * 6 + d) (un s (c * 6 + d))) &&& (wbs s (e * 6 + f) (un s (e * 6 + f)))))]) dX5_both_74 (by decide) [1, 2, 3, 4, 5, 6, 7, 0] rfl ?_
          refine j_iconst (v := nI 0) dX5_both_76 (by decide) ?_
          refine j_istore (lv2 := [(0, .ref (M 0)), (1, .int (nI c)), (2, .int (nI d)), (3, .int (nI e)), (4, .int (nI f)), (5, .int (nI (92 + 14 * (c * 6 + d)))), (6, .int (nI (92 + 14 * (e * 6 + f)))), (7, .long ((wbs s (c * 6 + d) (un s (c * 6 + d))) &&& (wbs s (e * 6 + f) (un s (e * 6 + f))))), (9, .int (nI 0))]) dX5_both_77 (by decide) [1, 2, 3, 4, 5, 6, 7, 8, 0] rfl ?_
          refine j_iconst (v := nI 0) dX5_both_79 (by decide) ?_
          refine j_istore (lv2 := [(0, .ref (M 0)), (1, .int (nI c)), (2, .int (nI d)), (3, .int (nI e)), (4, .int (nI f)), (5, .int (nI (92 + 14 * (c * 6 + d)))), (6, .int (nI (92 + 14 * (e * 6 + f)))), (7, .long ((wbs s (c * 6 + d) (un s (c * 6 + d))) &&& (wbs s (e * 6 + f) (un s (e * 6 + f))))), (9, .int (nI 0)), (10, .int (nI 0))]) dX5_both_80 (by decide) [1, 2, 3, 4, 5, 6, 7, 8, 9, 0] rfl ?_
          have L82 : ∀ (fuel : Nat) (k : Nat), k ≤ 64 → 64 - k < fuel → J D Γ yX5_both cX5_both 11 (some .int) ({ frames := 3, cells := 0, slots := 0, locals := 70 } : Room) (Qf D Γ ({ frames := 3, cells := 0, slots := 0, locals := 70 } : Room) (fun v_ u_ => v_ = some (.int (boF s (nI c) (nI d) (nI e) (nI f))) ∧ u_ = (MO D M q) ++ (AR D (M 1) 455 s))) 0 0 ((MO D M q) ++ (AR D (M 1) 455 s)) 82 [(0, .ref (M 0)), (7, .long (wbs s (c * 6 + d) (un s (c * 6 + d)) &&& wbs s (e * 6 + f) (un s (e * 6 + f)))), (9, .int (nI (pcN (uL (wbs s (c * 6 + d) (un s (c * 6 + d)) &&& wbs s (e * 6 + f) (un s (e * 6 + f)))) k))), (10, .int (nI k))] [] := by
            intro fuel
            induction fuel with
            | zero => intro k hk hm; exact absurd hm (Nat.not_lt_zero _)
            | succ fuel ih =>
              intro k hk hm
              refine j_iload dX5_both_82 3 rfl ?_
              refine j_bipush (v := nI 64) dX5_both_84 (by decide) ?_
              refine j_icmp_ge_N (tgt := 108) dX5_both_86 (by decide) ⟨by omega, by omega⟩ (fun h86 => ?_) (fun h86 => ?_)
              · skip
                refine j_iload dX5_both_108 2 rfl ?_
                exact j_iret dX5_both_110 ⟨rfl, rfl⟩ ⟨by unfold boF; rw [if_pos ⟨h5, h14⟩, cl_nI (show c < 2 ^ 31 by omega), cl_nI (show d < 2 ^ 31 by omega), cl_nI (show e < 2 ^ 31 by omega), cl_nI (show f < 2 ^ 31 by omega), if_pos ⟨(hI.hs (show c * 6 + d < 24 by omega)).mpr h43, (hI.hs (show e * 6 + f < 24 by omega)).mpr h55⟩, show k = 64 by omega], rfl⟩
              · skip
                refine j_iload dX5_both_89 2 rfl ?_
                refine j_lload dX5_both_91 1 rfl ?_
                refine j_iload dX5_both_93 3 rfl ?_
                refine j_lshr (v := (wbs s (c * 6 + d) (un s (c * 6 + d)) &&& wbs s (e * 6 + f) (un s (e * 6 + f))) >>> ((nI k).toInt64 &&& 63)) dX5_both_95 (rfl) ?_
                refine j_lconst (v := 1) dX5_both_96 (by decide) ?_
                refine j_land (v := ((wbs s (c * 6 + d) (un s (c * 6 + d)) &&& wbs s (e * 6 + f) (un s (e * 6 + f))) >>> ((nI k).toInt64 &&& 63)) &&& 1) dX5_both_97 (rfl) ?_
                refine j_l2i (v := nI (uL (wbs s (c * 6 + d) (un s (c * 6 + d)) &&& wbs s (e * 6 + f) (un s (e * 6 + f))) / 2 ^ k % 2)) dX5_both_98 (bl_x (by omega)) ?_
                refine j_iadd (v := nI ((pcN (uL (wbs s (c * 6 + d) (un s (c * 6 + d)) &&& wbs s (e * 6 + f) (un s (e * 6 + f)))) k) + uL (wbs s (c * 6 + d) (un s (c * 6 + d)) &&& wbs s (e * 6 + f) (un s (e * 6 + f))) / 2 ^ k % 2)) dX5_both_99 (nI_add _ _) ?_
                refine j_istore (lv2 := [(0, .ref (M 0)), (7, .long (wbs s (c * 6 + d) (un s (c * 6 + d)) &&& wbs s (e * 6 + f) (un s (e * 6 + f)))), (9, .int (nI ((pcN (uL (wbs s (c * 6 + d) (un s (c * 6 + d)) &&& wbs s (e * 6 + f) (un s (e * 6 + f)))) k) + uL (wbs s (c * 6 + d) (un s (c * 6 + d)) &&& wbs s (e * 6 + f) (un s (e * 6 + f))) / 2 ^ k % 2))), (10, .int (nI k))]) dX5_both_100 (by decide) [1, 2, 0, 3] rfl ?_
                refine j_iinc (v := nI (k + 1)) (lv2 := [(0, .ref (M 0)), (7, .long (wbs s (c * 6 + d) (un s (c * 6 + d)) &&& wbs s (e * 6 + f) (un s (e * 6 + f)))), (9, .int (nI ((pcN (uL (wbs s (c * 6 + d) (un s (c * 6 + d)) &&& wbs s (e * 6 + f) (un s (e * 6 + f)))) k) + uL (wbs s (c * 6 + d) (un s (c * 6 + d)) &&& wbs s (e * 6 + f) (un s (e * 6 + f))) / 2 ^ k % 2))), (10, .int (nI (k + 1)))]) dX5_both_102 3 rfl (nI_1 _) (by decide) [1, 2, 3, 0] rfl ?_
                refine j_goto (tgt := 82) dX5_both_105 (by decide) ?_
                exact ih (k + 1) (by omega) (by omega)
          refine j_lv (lv2 := [(0, .ref (M 0)), (7, .long ((wbs s (c * 6 + d) (un s (c * 6 + d))) &&& (wbs s (e * 6 + f) (un s (e * 6 + f))))), (9, .int (nI 0)), (10, .int (nI 0))]) [0, 7, 8, 9] rfl ?_
          exact L82 65 0 (by omega) (by omega)
        · skip
          refine j_bipush (v := (-9)) dX5_both_58 (by decide) ?_
          exact j_iret dX5_both_60 ⟨rfl, rfl⟩ ⟨by unfold boF; rw [if_pos ⟨h5, h14⟩, cl_nI (show c < 2 ^ 31 by omega), cl_nI (show d < 2 ^ 31 by omega), cl_nI (show e < 2 ^ 31 by omega), cl_nI (show f < 2 ^ 31 by omega), if_neg (fun r => (hI.hs (show e * 6 + f < 24 by omega)).mp r.2 h55)], rfl⟩
    · skip
      refine j_iconst (v := (-1)) dX5_both_17 (by decide) ?_
      exact j_iret dX5_both_18 ⟨rfl, rfl⟩ ⟨by rw [show boF s v z p w = -1 from if_neg (fun r => nBool h14 r.2)], rfl⟩

set_option maxHeartbeats 4000000 in
set_option maxRecDepth 100000 in
theorem c_X5_lands (M : Nat → Nat) (q : QT) (s : SS) (hI : Inv s) (v : Int32) : Ct D yX5_lands cX5_lands 6 (some .int) ({ frames := 2, cells := 0, slots := 0, locals := 46 } : Room) [.ref (M 0), .int v] ((MO D M q) ++ (AR D (M 1) 455 s)) (fun v_ u_ => v_ = some (.int (lnF s v)) ∧ u_ = (MO D M q) ++ (AR D (M 1) 455 s)) := by
  refine ct_of (by decide) (Nat.le_of_ble_eq_true rfl) (lv0 := [(0, .ref (M 0)), (1, .int v)]) rfl (fun Γ => ?_)
  refine j_iload_n dX5_lands_0 1 rfl ?_
  refine j_iconst (v := nI 0) dX5_lands_1 (by decide) ?_
  refine j_bipush (v := nI 63) dX5_lands_2 (by decide) ?_
  refine j_S (w2 := (MO D M q) ++ (AR D (M 1) 455 s)) (st2 := [.int (bI (inR v (nI 0) (nI 63)))]) (c_X5_in v (nI 0) (nI 63)) rfl cw_X5_38 dX5_lands_4 [] rfl [] rfl rfl rfl ?_ ⟨rfl, ⟨Nat.le_of_ble_eq_true rfl, Nat.le_of_ble_eq_true rfl⟩, ⟨rfl, rfl⟩, ⟨Nat.le_of_ble_eq_true rfl, Nat.le_of_ble_eq_true rfl⟩, Nat.le_of_ble_eq_true rfl, rfl, rfl⟩
  refine j_if_ne_B (tgt := 12) dX5_lands_7 (by decide) (fun h7 => ?_) (fun h7 => ?_)
  · skip
    obtain ⟨a, ha1, ha2, rfl⟩ := inR_nat (by decide) (by decide) h7
    refine j_iconst (v := nI 0) dX5_lands_12 (by decide) ?_
    refine j_istore_n (lv2 := [(0, .ref (M 0)), (1, .int (nI a)), (2, .int (nI 0))]) dX5_lands_13 (by decide) [1, 2, 0] rfl ?_
    refine j_iconst (v := nI 0) dX5_lands_14 (by decide) ?_
    refine j_istore_n (lv2 := [(0, .ref (M 0)), (1, .int (nI a)), (2, .int (nI 0)), (3, .int (nI 0))]) dX5_lands_15 (by decide) [1, 2, 3, 0] rfl ?_
    have L16 : ∀ (fuel : Nat) (i : Nat), i ≤ 24 → 24 - i < fuel → J D Γ yX5_lands cX5_lands 6 (some .int) ({ frames := 2, cells := 0, slots := 0, locals := 46 } : Room) (Qf D Γ ({ frames := 2, cells := 0, slots := 0, locals := 46 } : Room) (fun v_ u_ => v_ = some (.int (lnF s (nI a))) ∧ u_ = (MO D M q) ++ (AR D (M 1) 455 s))) 0 0 ((MO D M q) ++ (AR D (M 1) 455 s)) 16 [(0, .ref (M 0)), (1, .int (nI a)), (2, .int (nI (lnd s a i))), (3, .int (nI i))] [] := by
      intro fuel
      induction fuel with
      | zero => intro i hi hm; exact absurd hm (Nat.not_lt_zero _)
      | succ fuel ih =>
        intro i hi hm
        have ih0 := ih
        refine j_iload_n dX5_lands_16 3 rfl ?_
        refine j_bipush (v := nI 24) dX5_lands_17 (by decide) ?_
        refine j_icmp_ge_N (tgt := 116) dX5_lands_19 (by decide) ⟨by omega, by omega⟩ (fun h19 => ?_) (fun h19 => ?_)
        · skip
          refine j_iload_n dX5_lands_116 2 rfl ?_
          exact j_iret dX5_lands_117 ⟨rfl, rfl⟩ ⟨by unfold lnF; rw [if_pos h7, cl_nI (by omega), show i = 24 by omega], rfl⟩
        · skip
          refine j_bipush (v := nI 92) dX5_lands_22 (by decide) ?_
          refine j_bipush (v := nI 14) dX5_lands_24 (by decide) ?_
          refine j_iload_n dX5_lands_26 3 rfl ?_
          refine j_imul (v := nI (14 * i)) dX5_lands_27 (pk_mul _ _) ?_
          refine j_iadd (v := nI (92 + 14 * i)) dX5_lands_28 (nI_add _ _) ?_
          refine j_istore (lv2 := [(0, .ref (M 0)), (1, .int (nI a)), (2, .int (nI (lnd s a i))), (3, .int (nI i)), (4, .int (nI (92 + 14 * i)))]) dX5_lands_29 (by decide) [1, 2, 3, 4, 0] rfl ?_
          refine j_aload_n dX5_lands_31 0 rfl ?_
          refine j_iload dX5_lands_32 4 rfl ?_
          refine j_V (w2 := (MO D M q) ++ (AR D (M 1) 455 s)) (st2 := [.int (bI (eng s i))]) (c_X5_isEngines M q s hI i (by omega)) rfl cw_X5_83 dX5_lands_34 [] rfl [0, 1] rfl rfl rfl 5 ?_ ⟨rfl, ⟨Nat.le_of_ble_eq_true rfl, Nat.le_of_ble_eq_true rfl⟩, ⟨rfl, rfl⟩, ⟨Nat.le_of_ble_eq_true rfl, Nat.le_of_ble_eq_true rfl⟩, Nat.le_of_ble_eq_true rfl, rfl, rfl⟩ rfl rfl rfl
          refine j_if_eq_B (tgt := 110) dX5_lands_37 (by decide) (fun h37 => ?_) (fun h37 => ?_)
          · skip
            refine j_iinc (v := nI (i + 1)) (lv2 := [(0, .ref (M 0)), (1, .int (nI a)), (2, .int (nI (lnd s a i))), (3, .int (nI (i + 1))), (4, .int (nI (92 + 14 * i)))]) dX5_lands_110 3 rfl (nI_1 _) (by decide) [1, 2, 3, 0, 4] rfl ?_
            refine j_goto (tgt := 16) dX5_lands_113 (by decide) ?_
            refine j_lv (lv2 := [(0, .ref (M 0)), (1, .int (nI a)), (2, .int (nI (lnd s a i))), (3, .int (nI (i + 1)))]) [0, 1, 2, 3] rfl ?_
            have hh2 := ih0 (i + 1) (by omega) (by omega)
            rw [lnd_f (tc_ef h37)] at hh2
            exact hh2
          · skip
            refine j_aload_n dX5_lands_40 0 rfl ?_
            refine g_X5_7 rfl dX5_lands_41 0 rfl rfl ?_
            refine j_iload dX5_lands_44 4 rfl ?_
            refine j_bipush (v := nI 13) dX5_lands_46 (by decide) ?_
            refine j_iadd (v := nI (92 + 14 * i + 13)) dX5_lands_48 (nI_add _ _) ?_
            refine j_iald (v := gL s i 12) dX5_lands_49 1 (92 + 14 * i + 13) rfl (rfl) (by omega) (Nat.le_of_ble_eq_true rfl) (congrArg s (by omega)) ?_
            refine j_if_ne (tgt := 110) dX5_lands_50 (by decide) (fun h50 => ?_) (fun h50 => ?_)
            · skip
              refine j_iinc (v := nI (i + 1)) (lv2 := [(0, .ref (M 0)), (1, .int (nI a)), (2, .int (nI (lnd s a i))), (3, .int (nI (i + 1))), (4, .int (nI (92 + 14 * i)))]) dX5_lands_110 3 rfl (nI_1 _) (by decide) [1, 2, 3, 0, 4] rfl ?_
              refine j_goto (tgt := 16) dX5_lands_113 (by decide) ?_
              refine j_lv (lv2 := [(0, .ref (M 0)), (1, .int (nI a)), (2, .int (nI (lnd s a i))), (3, .int (nI (i + 1)))]) [0, 1, 2, 3] rfl ?_
              have hh2 := ih0 (i + 1) (by omega) (by omega)
              rw [lnd_f (tc_f2 h50)] at hh2
              exact hh2
            · skip
              have htc := tc_e h37 h50
              have hh := hI.tc_ (show i < 24 by omega) htc
              have hle := hI.le (show i < 24 by omega) hh
              have hre := hle.2.2.2.2
              have hun := un_lt hle.2.1.2.2 hle.2.2.1.2.2
              obtain ⟨hn, h1, h2⟩ := hle.2.1
              refine j_aload_n dX5_lands_53 0 rfl ?_
              refine j_iload dX5_lands_54 4 rfl ?_
              refine j_V (w2 := (MO D M q) ++ (AR D (M 1) 455 s)) (st2 := [.int (gL s i 2 * gL s i 5)]) (c_X5_unitsOf M q s i (by omega)) rfl cw_X5_120 dX5_lands_56 [] rfl [0, 1] rfl rfl rfl 5 ?_ ⟨rfl, ⟨Nat.le_of_ble_eq_true rfl, Nat.le_of_ble_eq_true rfl⟩, ⟨rfl, rfl⟩, ⟨Nat.le_of_ble_eq_true rfl, Nat.le_of_ble_eq_true rfl⟩, Nat.le_of_ble_eq_true rfl, rfl, rfl⟩ rfl rfl rfl
              refine j_topi (v := nI (un s i)) (by rw [hn, hle.2.2.1.1, pk_mul]; rfl) ?_
              refine j_aload_n dX5_lands_59 0 rfl ?_
              refine g_X5_7 rfl dX5_lands_60 0 rfl rfl ?_
              refine j_iload dX5_lands_63 4 rfl ?_
              refine j_bipush (v := nI 12) dX5_lands_65 (by decide) ?_
              refine j_iadd (v := nI (92 + 14 * i + 12)) dX5_lands_67 (nI_add _ _) ?_
              refine j_iald (v := nI (re s i)) dX5_lands_68 1 (92 + 14 * i + 12) rfl (rfl) (by omega) (Nat.le_of_ble_eq_true rfl) ((congrArg s (by omega)).trans hle.2.2.2.1) ?_
              refine j_isub (v := nI ((un s i) - (re s i))) dX5_lands_69 (pk_sub (by omega)) ?_
              refine j_istore (lv2 := [(0, .ref (M 0)), (1, .int (nI a)), (2, .int (nI (lnd s a i))), (3, .int (nI i)), (4, .int (nI (92 + 14 * i))), (5, .int (nI ((un s i) - (re s i))))]) dX5_lands_70 (by decide) [1, 2, 3, 4, 5, 0] rfl ?_
              have L72 : ∀ (fuel : Nat) (j : Nat), j ≤ re s i → re s i - j < fuel → J D Γ yX5_lands cX5_lands 6 (some .int) ({ frames := 2, cells := 0, slots := 0, locals := 46 } : Room) (Qf D Γ ({ frames := 2, cells := 0, slots := 0, locals := 46 } : Room) (fun v_ u_ => v_ = some (.int (lnF s (nI a))) ∧ u_ = (MO D M q) ++ (AR D (M 1) 455 s))) 0 0 ((MO D M q) ++ (AR D (M 1) 455 s)) 72 [(0, .ref (M 0)), (1, .int (nI a)), (2, .int (nI (lnd s a i + cnt (ucP s i a) j))), (3, .int (nI i)), (4, .int (nI (92 + 14 * i))), (5, .int (nI (un s i - re s i + j)))] [] := by
                intro fuel
                induction fuel with
                | zero => intro j hj hm; exact absurd hm (Nat.not_lt_zero _)
                | succ fuel ih =>
                  intro j hj hm
                  have hal := ad_lt s i (un s i - re s i + j) 1
                  refine j_iload dX5_lands_72 5 rfl ?_
                  refine j_aload_n dX5_lands_74 0 rfl ?_
                  refine j_iload dX5_lands_75 4 rfl ?_
                  refine j_V (w2 := (MO D M q) ++ (AR D (M 1) 455 s)) (st2 := [.int (gL s i 2 * gL s i 5), .int (nI (un s i - re s i + j))]) (c_X5_unitsOf M q s i (by omega)) rfl cw_X5_120 dX5_lands_77 [.int (nI (un s i - re s i + j))] rfl [0, 1] rfl rfl rfl 5 ?_ ⟨rfl, ⟨Nat.le_of_ble_eq_true rfl, Nat.le_of_ble_eq_true rfl⟩, ⟨rfl, rfl⟩, ⟨Nat.le_of_ble_eq_true rfl, Nat.le_of_ble_eq_true rfl⟩, Nat.le_of_ble_eq_true rfl, rfl, rfl⟩ rfl rfl rfl
                  refine j_topi (v := nI (un s i)) (by rw [hn, hle.2.2.1.1, pk_mul]; rfl) ?_
                  refine j_icmp_ge_N (tgt := 110) dX5_lands_80 (by decide) ⟨by omega, by omega⟩ (fun h80 => ?_) (fun h80 => ?_)
                  · skip
                    refine j_iinc (v := nI (i + 1)) (lv2 := [(0, .ref (M 0)), (1, .int (nI a)), (2, .int (nI (lnd s a i + cnt (ucP s i a) j))), (3, .int (nI (i + 1))), (4, .int (nI (92 + 14 * i))), (5, .int (nI (un s i - re s i + j)))]) dX5_lands_110 3 rfl (nI_1 _) (by decide) [1, 2, 3, 0, 4, 5] rfl ?_
                    refine j_goto (tgt := 16) dX5_lands_113 (by decide) ?_
                    refine j_lv (lv2 := [(0, .ref (M 0)), (1, .int (nI a)), (2, .int (nI (lnd s a i + cnt (ucP s i a) j))), (3, .int (nI (i + 1)))]) [0, 1, 2, 3] rfl ?_
                    have hh2 := ih0 (i + 1) (by omega) (by omega)
                    rw [lnd_t htc, show ucF s i a = cnt (ucP s i a) j from by unfold ucF; rw [show j = re s i by omega]] at hh2
                    exact hh2
                  · skip
                    refine j_iload_n dX5_lands_83 2 rfl ?_
                    refine j_aload_n dX5_lands_84 0 rfl ?_
                    refine j_iload dX5_lands_85 4 rfl ?_
                    refine j_iload dX5_lands_87 5 rfl ?_
                    refine j_iconst (v := nI 1) dX5_lands_89 (by decide) ?_
                    refine j_V (w2 := (MO D M q) ++ (AR D (M 1) 455 s)) (st2 := [.int (nI (ad s i (un s i - re s i + j) 1)), .int (nI (lnd s a i + cnt (ucP s i a) j))]) (c_X5_addressOf M q s i (un s i - re s i + j) 1 (by omega) hn (by omega) (by omega) (by omega) (by omega)) rfl cw_X5_123 dX5_lands_90 [.int (nI (lnd s a i + cnt (ucP s i a) j))] rfl [0, 1] rfl rfl rfl 5 ?_ ⟨rfl, ⟨Nat.le_of_ble_eq_true rfl, Nat.le_of_ble_eq_true rfl⟩, ⟨rfl, rfl⟩, ⟨Nat.le_of_ble_eq_true rfl, Nat.le_of_ble_eq_true rfl⟩, Nat.le_of_ble_eq_true rfl, rfl, rfl⟩ rfl rfl rfl
                    refine j_iload_n dX5_lands_93 1 rfl ?_
                    refine j_icmp_ne_N (tgt := 101) dX5_lands_94 (by decide) ⟨by omega, by omega⟩ (fun h94 => ?_) (fun h94 => ?_)
                    · skip
                      refine j_iconst (v := nI 0) dX5_lands_101 (by decide) ?_
                      refine j_iadd (v := nI ((lnd s a i + cnt (ucP s i a) j) + 0)) dX5_lands_102 (nI_add _ _) ?_
                      refine j_istore_n (lv2 := [(0, .ref (M 0)), (1, .int (nI a)), (2, .int (nI ((lnd s a i + cnt (ucP s i a) j) + 0))), (3, .int (nI i)), (4, .int (nI (92 + 14 * i))), (5, .int (nI (un s i - re s i + j)))]) dX5_lands_103 (by decide) [1, 2, 0, 3, 4, 5] rfl ?_
                      refine j_iinc (v := nI (un s i - re s i + j + 1)) (lv2 := [(0, .ref (M 0)), (1, .int (nI a)), (2, .int (nI ((lnd s a i + cnt (ucP s i a) j) + 0))), (3, .int (nI i)), (4, .int (nI (92 + 14 * i))), (5, .int (nI (un s i - re s i + j + 1)))]) dX5_lands_104 5 rfl (nI_1 _) (by decide) [1, 2, 3, 4, 5, 0] rfl ?_
                      refine j_goto (tgt := 72) dX5_lands_107 (by decide) ?_
                      have hh2 := ih (j + 1) (by omega) (by omega)
                      rw [cnt_f (f := (ucP s i a)) (decide_eq_false h94)] at hh2
                      exact hh2
                    · skip
                      refine j_iconst (v := nI 1) dX5_lands_97 (by decide) ?_
                      refine j_goto (tgt := 102) dX5_lands_98 (by decide) ?_
                      refine j_iadd (v := nI ((lnd s a i + cnt (ucP s i a) j) + 1)) dX5_lands_102 (nI_add _ _) ?_
                      refine j_istore_n (lv2 := [(0, .ref (M 0)), (1, .int (nI a)), (2, .int (nI ((lnd s a i + cnt (ucP s i a) j) + 1))), (3, .int (nI i)), (4, .int (nI (92 + 14 * i))), (5, .int (nI (un s i - re s i + j)))]) dX5_lands_103 (by decide) [1, 2, 0, 3, 4, 5] rfl ?_
                      refine j_iinc (v := nI (un s i - re s i + j + 1)) (lv2 := [(0, .ref (M 0)), (1, .int (nI a)), (2, .int (nI ((lnd s a i + cnt (ucP s i a) j) + 1))), (3, .int (nI i)), (4, .int (nI (92 + 14 * i))), (5, .int (nI (un s i - re s i + j + 1)))]) dX5_lands_104 5 rfl (nI_1 _) (by decide) [1, 2, 3, 4, 5, 0] rfl ?_
                      refine j_goto (tgt := 72) dX5_lands_107 (by decide) ?_
                      have hh2 := ih (j + 1) (by omega) (by omega)
                      rw [cnt_t (f := (ucP s i a)) (decide_eq_true h94)] at hh2
                      exact hh2
              exact L72 (re s i + 1) 0 (by omega) (by omega)
    exact L16 25 0 (by omega) (by omega)
  · skip
    refine j_iconst (v := (-1)) dX5_lands_10 (by decide) ?_
    exact j_iret dX5_lands_11 ⟨rfl, rfl⟩ ⟨by rw [show lnF s v = -1 from if_neg (nBool h7)], rfl⟩

set_option maxHeartbeats 4000000 in
set_option maxRecDepth 100000 in
theorem c_X5_engines (M : Nat → Nat) (q : QT) (s : SS) (hI : Inv s) : Ct D yX5_engines cX5_engines 3 (some .int) ({ frames := 1, cells := 0, slots := 0, locals := 21 } : Room) [.ref (M 0)] ((MO D M q) ++ (AR D (M 1) 455 s)) (fun v_ u_ => v_ = some (.int (nI (els s 4))) ∧ u_ = (MO D M q) ++ (AR D (M 1) 455 s)) := by
  refine ct_of (by decide) (Nat.le_of_ble_eq_true rfl) (lv0 := [(0, .ref (M 0))]) rfl (fun Γ => ?_)
  refine j_iconst (v := nI 0) dX5_engines_0 (by decide) ?_
  refine j_istore_n (lv2 := [(0, .ref (M 0)), (1, .int (nI 0))]) dX5_engines_1 (by decide) [1, 0] rfl ?_
  refine j_iconst (v := nI 0) dX5_engines_2 (by decide) ?_
  refine j_istore_n (lv2 := [(0, .ref (M 0)), (1, .int (nI 0)), (2, .int (nI 0))]) dX5_engines_3 (by decide) [1, 2, 0] rfl ?_
  have L4 : ∀ (fuel : Nat) (i : Nat), i ≤ 24 → 24 - i < fuel → J D Γ yX5_engines cX5_engines 3 (some .int) ({ frames := 1, cells := 0, slots := 0, locals := 21 } : Room) (Qf D Γ ({ frames := 1, cells := 0, slots := 0, locals := 21 } : Room) (fun v_ u_ => v_ = some (.int (nI (els s 4))) ∧ u_ = (MO D M q) ++ (AR D (M 1) 455 s))) 0 0 ((MO D M q) ++ (AR D (M 1) 455 s)) 4 [(0, .ref (M 0)), (1, .int (nI (cnt (eng s) i))), (2, .int (nI i))] [] := by
    intro fuel
    induction fuel with
    | zero => intro i hi hm; exact absurd hm (Nat.not_lt_zero _)
    | succ fuel ih =>
      intro i hi hm
      refine j_iload_n dX5_engines_4 2 rfl ?_
      refine j_bipush (v := nI 24) dX5_engines_5 (by decide) ?_
      refine j_icmp_ge_N (tgt := 38) dX5_engines_7 (by decide) ⟨by omega, by omega⟩ (fun h7 => ?_) (fun h7 => ?_)
      · skip
        refine j_iload_n dX5_engines_38 1 rfl ?_
        exact j_iret dX5_engines_39 ⟨rfl, rfl⟩ ⟨by rw [els_24, show i = 24 by omega], rfl⟩
      · skip
        refine j_iload_n dX5_engines_10 1 rfl ?_
        refine j_aload_n dX5_engines_11 0 rfl ?_
        refine j_bipush (v := nI 92) dX5_engines_12 (by decide) ?_
        refine j_bipush (v := nI 14) dX5_engines_14 (by decide) ?_
        refine j_iload_n dX5_engines_16 2 rfl ?_
        refine j_imul (v := nI (14 * i)) dX5_engines_17 (pk_mul _ _) ?_
        refine j_iadd (v := nI (92 + 14 * i)) dX5_engines_18 (nI_add _ _) ?_
        refine j_V (w2 := (MO D M q) ++ (AR D (M 1) 455 s)) (st2 := [.int (bI (eng s i)), .int (nI (cnt (eng s) i))]) (c_X5_isEngines M q s hI i (by omega)) rfl cw_X5_83 dX5_engines_19 [.int (nI (cnt (eng s) i))] rfl [0, 1] rfl rfl rfl 5 ?_ ⟨rfl, ⟨Nat.le_of_ble_eq_true rfl, Nat.le_of_ble_eq_true rfl⟩, ⟨rfl, rfl⟩, ⟨Nat.le_of_ble_eq_true rfl, Nat.le_of_ble_eq_true rfl⟩, Nat.le_of_ble_eq_true rfl, rfl, rfl⟩ rfl rfl rfl
        refine j_if_eq_B (tgt := 29) dX5_engines_22 (by decide) (fun h22 => ?_) (fun h22 => ?_)
        · skip
          refine j_iconst (v := nI 0) dX5_engines_29 (by decide) ?_
          refine j_iadd (v := nI ((cnt (eng s) i) + 0)) dX5_engines_30 (nI_add _ _) ?_
          refine j_istore_n (lv2 := [(0, .ref (M 0)), (1, .int (nI ((cnt (eng s) i) + 0))), (2, .int (nI i))]) dX5_engines_31 (by decide) [1, 0, 2] rfl ?_
          refine j_iinc (v := nI (i + 1)) (lv2 := [(0, .ref (M 0)), (1, .int (nI ((cnt (eng s) i) + 0))), (2, .int (nI (i + 1)))]) dX5_engines_32 2 rfl (nI_1 _) (by decide) [1, 2, 0] rfl ?_
          refine j_goto (tgt := 4) dX5_engines_35 (by decide) ?_
          have hh2 := ih (i + 1) (by omega) (by omega)
          rw [cnt_f (f := eng s) h22] at hh2
          exact hh2
        · skip
          refine j_iconst (v := nI 1) dX5_engines_25 (by decide) ?_
          refine j_goto (tgt := 30) dX5_engines_26 (by decide) ?_
          refine j_iadd (v := nI ((cnt (eng s) i) + 1)) dX5_engines_30 (nI_add _ _) ?_
          refine j_istore_n (lv2 := [(0, .ref (M 0)), (1, .int (nI ((cnt (eng s) i) + 1))), (2, .int (nI i))]) dX5_engines_31 (by decide) [1, 0, 2] rfl ?_
          refine j_iinc (v := nI (i + 1)) (lv2 := [(0, .ref (M 0)), (1, .int (nI ((cnt (eng s) i) + 1))), (2, .int (nI (i + 1)))]) dX5_engines_32 2 rfl (nI_1 _) (by decide) [1, 2, 0] rfl ?_
          refine j_goto (tgt := 4) dX5_engines_35 (by decide) ?_
          have hh2 := ih (i + 1) (by omega) (by omega)
          rw [cnt_t (f := eng s) h22] at hh2
          exact hh2
  exact L4 25 0 (by omega) (by omega)

set_option maxHeartbeats 4000000 in
set_option maxRecDepth 100000 in
theorem c_X5_keep_bad (M : Nat → Nat) (q : QT) (v : Int32) (hb : inR v (nI 0) (nI 1) = false) : Ct D yX5_keep cX5_keep 3 (some .int) ({ frames := 1, cells := 0, slots := 0, locals := 22 } : Room) [.ref (M 0), .int v] (MO D M q) (fun v_ u_ => v_ = some (.int (-1)) ∧ u_ = MO D M q) := by
  refine ct_of (by decide) (Nat.le_of_ble_eq_true rfl) (lv0 := [(0, .ref (M 0)), (1, .int v)]) rfl (fun Γ => ?_)
  refine j_iload_n dX5_keep_0 1 rfl ?_
  refine j_iconst (v := nI 0) dX5_keep_1 (by decide) ?_
  refine j_iconst (v := nI 1) dX5_keep_2 (by decide) ?_
  refine j_S (w2 := MO D M q) (st2 := [.int (bI (inR v (nI 0) (nI 1)))]) (c_X5_in v (nI 0) (nI 1)) rfl cw_X5_38 dX5_keep_3 [] rfl [] rfl rfl rfl ?_ ⟨rfl, ⟨Nat.le_of_ble_eq_true rfl, Nat.le_of_ble_eq_true rfl⟩, ⟨rfl, rfl⟩, ⟨Nat.le_of_ble_eq_true rfl, Nat.le_of_ble_eq_true rfl⟩, Nat.le_of_ble_eq_true rfl, rfl, rfl⟩
  refine j_if_ne_B (tgt := 11) dX5_keep_6 (by decide) (fun h6 => absurd (hb.symm.trans h6) (by decide)) (fun h6 => ?_)
  refine j_iconst (v := (-1)) dX5_keep_9 (by decide) ?_
  exact j_iret dX5_keep_10 ⟨rfl, rfl⟩ ⟨rfl, rfl⟩

set_option maxHeartbeats 4000000 in
set_option maxRecDepth 100000 in
theorem c_X5_keep_ok (M : Nat → Nat) (q : QT) (s kp kt : SS) (hI : Inv s) (e : Nat) (he : e < 2) : Ct D yX5_keep cX5_keep 3 (some .int) ({ frames := 2, cells := 0, slots := 0, locals := 43 } : Room) [.ref (M 0), .int (nI e)] ((MO D M q) ++ (AR D (M 1) 455 s) ++ (AZ D (M 3) 2 kp) ++ (AR D (M 4) 910 kt)) (fun v_ u_ => v_ = some (.int (nI (els s 4))) ∧ u_ = (MO D M q) ++ (AR D (M 1) 455 s) ++ (AZ D (M 3) 2 (upd kp e 1)) ++ (AR D (M 4) 910 (inN kt e s 455))) := by
  refine ct_of (by decide) (Nat.le_of_ble_eq_true rfl) (lv0 := [(0, .ref (M 0)), (1, .int (nI e))]) rfl (fun Γ => ?_)
  refine j_iload_n dX5_keep_0 1 rfl ?_
  refine j_iconst (v := nI 0) dX5_keep_1 (by decide) ?_
  refine j_iconst (v := nI 1) dX5_keep_2 (by decide) ?_
  refine j_S (w2 := (MO D M q) ++ (AR D (M 1) 455 s) ++ (AZ D (M 3) 2 kp) ++ (AR D (M 4) 910 kt)) (st2 := [.int (bI (inR (nI e) (nI 0) (nI 1)))]) (c_X5_in (nI e) (nI 0) (nI 1)) rfl cw_X5_38 dX5_keep_3 [] rfl [] rfl rfl rfl ?_ ⟨rfl, ⟨Nat.le_of_ble_eq_true rfl, Nat.le_of_ble_eq_true rfl⟩, ⟨rfl, rfl⟩, ⟨Nat.le_of_ble_eq_true rfl, Nat.le_of_ble_eq_true rfl⟩, Nat.le_of_ble_eq_true rfl, rfl, rfl⟩
  refine j_if_ne_B (tgt := 11) dX5_keep_6 (by decide) (fun h6 => ?_) (fun h6 => absurd (inR_in (by omega) (by omega) (by omega)) (nBool h6))
  refine j_iconst (v := nI 0) dX5_keep_11 (by decide) ?_
  refine j_w (w2 := (MO D M q) ++ (AR D (M 1) 455 s) ++ (AZ D (M 3) 2 kp) ++ (AR D (M 4) 910 (inN kt e s 0))) (by rw [inN_0]) ?_
  refine j_istore_n (lv2 := [(0, .ref (M 0)), (1, .int (nI e)), (2, .int (nI 0))]) dX5_keep_12 (by decide) [1, 2, 0] rfl ?_
  have L13 : ∀ (fuel : Nat) (i : Nat), i ≤ 455 → 455 - i < fuel → J D Γ yX5_keep cX5_keep 3 (some .int) ({ frames := 2, cells := 0, slots := 0, locals := 43 } : Room) (Qf D Γ ({ frames := 2, cells := 0, slots := 0, locals := 43 } : Room) (fun v_ u_ => v_ = some (.int (nI (els s 4))) ∧ u_ = (MO D M q) ++ (AR D (M 1) 455 s) ++ (AZ D (M 3) 2 (upd kp e 1)) ++ (AR D (M 4) 910 (inN kt e s 455)))) 0 0 ((MO D M q) ++ (AR D (M 1) 455 s) ++ (AZ D (M 3) 2 kp) ++ (AR D (M 4) 910 (inN kt e s i))) 13 [(0, .ref (M 0)), (1, .int (nI e)), (2, .int (nI i))] [] := by
    intro fuel
    induction fuel with
    | zero => intro i hi hm; exact absurd hm (Nat.not_lt_zero _)
    | succ fuel ih =>
      intro i hi hm
      refine j_iload_n dX5_keep_13 2 rfl ?_
      refine j_sipush (v := nI 455) dX5_keep_14 (by decide) ?_
      refine j_icmp_ge_N (tgt := 44) dX5_keep_17 (by decide) ⟨by omega, by omega⟩ (fun h17 => ?_) (fun h17 => ?_)
      · skip
        obtain rfl : i = 455 := by omega
        refine j_aload_n dX5_keep_44 0 rfl ?_
        refine g_X5_16 rfl dX5_keep_45 0 rfl rfl ?_
        refine j_iload_n dX5_keep_48 1 rfl ?_
        refine j_iconst (v := nI 1) dX5_keep_49 (by decide) ?_
        refine j_zast (w2 := (MO D M q) ++ (AR D (M 1) 455 s) ++ (AZ D (M 3) 2 (upd kp e 1)) ++ (AR D (M 4) 910 (inN kt e s 455))) dX5_keep_50 2 e rfl (rfl) (by omega) (Nat.le_of_ble_eq_true rfl) (rfl) ?_
        refine j_aload_n dX5_keep_51 0 rfl ?_
        refine j_V (w2 := (MO D M q) ++ (AR D (M 1) 455 s) ++ (AZ D (M 3) 2 (upd kp e 1)) ++ (AR D (M 4) 910 (inN kt e s 455))) (st2 := [.int (nI (els s 4))]) (c_X5_engines M q s hI) rfl cw_X5_167 dX5_keep_52 [] rfl [0, 1] rfl rfl rfl 5 ?_ ⟨rfl, ⟨Nat.le_of_ble_eq_true rfl, Nat.le_of_ble_eq_true rfl⟩, ⟨rfl, rfl⟩, ⟨Nat.le_of_ble_eq_true rfl, Nat.le_of_ble_eq_true rfl⟩, Nat.le_of_ble_eq_true rfl, rfl, rfl⟩ rfl rfl rfl
        exact j_iret dX5_keep_55 ⟨rfl, rfl⟩ ⟨rfl, rfl⟩
      · skip
        refine j_aload_n dX5_keep_20 0 rfl ?_
        refine g_X5_20 rfl dX5_keep_21 0 rfl rfl ?_
        refine j_sipush (v := nI 455) dX5_keep_24 (by decide) ?_
        refine j_iload_n dX5_keep_27 1 rfl ?_
        refine j_imul (v := nI (455 * e)) dX5_keep_28 (pk_mul _ _) ?_
        refine j_iload_n dX5_keep_29 2 rfl ?_
        refine j_iadd (v := nI (455 * e + i)) dX5_keep_30 (nI_add _ _) ?_
        refine j_aload_n dX5_keep_31 0 rfl ?_
        refine g_X5_7 rfl dX5_keep_32 0 rfl rfl ?_
        refine j_iload_n dX5_keep_35 2 rfl ?_
        refine j_iald (v := s i) dX5_keep_36 1 i rfl (rfl) (by omega) (Nat.le_of_ble_eq_true rfl) (rfl) ?_
        refine j_iast (w2 := (MO D M q) ++ (AR D (M 1) 455 s) ++ (AZ D (M 3) 2 kp) ++ (AR D (M 4) 910 (inN kt e s (i + 1)))) dX5_keep_37 3 (455 * e + i) rfl (rfl) (by omega) (Nat.le_of_ble_eq_true rfl) (by rw [← inN_s]; rfl) ?_
        refine j_iinc (v := nI (i + 1)) (lv2 := [(0, .ref (M 0)), (1, .int (nI e)), (2, .int (nI (i + 1)))]) dX5_keep_38 2 rfl (nI_1 _) (by decide) [1, 2, 0] rfl ?_
        refine j_goto (tgt := 13) dX5_keep_41 (by decide) ?_
        exact ih (i + 1) (by omega) (by omega)
  exact L13 456 0 (by omega) (by omega)

set_option maxHeartbeats 4000000 in
set_option maxRecDepth 100000 in
theorem c_X5_back_bad (M : Nat → Nat) (q : QT) (v : Int32) (hb : inR v (nI 0) (nI 1) = false) : Ct D yX5_back cX5_back 3 (some .int) ({ frames := 1, cells := 0, slots := 0, locals := 22 } : Room) [.ref (M 0), .int v] (MO D M q) (fun v_ u_ => v_ = some (.int (-1)) ∧ u_ = MO D M q) := by
  refine ct_of (by decide) (Nat.le_of_ble_eq_true rfl) (lv0 := [(0, .ref (M 0)), (1, .int v)]) rfl (fun Γ => ?_)
  refine j_iload_n dX5_back_0 1 rfl ?_
  refine j_iconst (v := nI 0) dX5_back_1 (by decide) ?_
  refine j_iconst (v := nI 1) dX5_back_2 (by decide) ?_
  refine j_S (w2 := MO D M q) (st2 := [.int (bI (inR v (nI 0) (nI 1)))]) (c_X5_in v (nI 0) (nI 1)) rfl cw_X5_38 dX5_back_3 [] rfl [] rfl rfl rfl ?_ ⟨rfl, ⟨Nat.le_of_ble_eq_true rfl, Nat.le_of_ble_eq_true rfl⟩, ⟨rfl, rfl⟩, ⟨Nat.le_of_ble_eq_true rfl, Nat.le_of_ble_eq_true rfl⟩, Nat.le_of_ble_eq_true rfl, rfl, rfl⟩
  refine j_if_ne_B (tgt := 11) dX5_back_6 (by decide) (fun h6 => absurd (hb.symm.trans h6) (by decide)) (fun h6 => ?_)
  refine j_iconst (v := (-1)) dX5_back_9 (by decide) ?_
  exact j_iret dX5_back_10 ⟨rfl, rfl⟩ ⟨rfl, rfl⟩

set_option maxHeartbeats 4000000 in
set_option maxRecDepth 100000 in
theorem c_X5_back_none (M : Nat → Nat) (q : QT) (kp : SS) (e : Nat) (he : e < 2) (hk : kp e = 0) : Ct D yX5_back cX5_back 3 (some .int) ({ frames := 1, cells := 0, slots := 0, locals := 22 } : Room) [.ref (M 0), .int (nI e)] ((MO D M q) ++ (AZ D (M 3) 2 kp)) (fun v_ u_ => v_ = some (.int (-2)) ∧ u_ = (MO D M q) ++ (AZ D (M 3) 2 kp)) := by
  refine ct_of (by decide) (Nat.le_of_ble_eq_true rfl) (lv0 := [(0, .ref (M 0)), (1, .int (nI e))]) rfl (fun Γ => ?_)
  refine j_iload_n dX5_back_0 1 rfl ?_
  refine j_iconst (v := nI 0) dX5_back_1 (by decide) ?_
  refine j_iconst (v := nI 1) dX5_back_2 (by decide) ?_
  refine j_S (w2 := (MO D M q) ++ (AZ D (M 3) 2 kp)) (st2 := [.int (bI (inR (nI e) (nI 0) (nI 1)))]) (c_X5_in (nI e) (nI 0) (nI 1)) rfl cw_X5_38 dX5_back_3 [] rfl [] rfl rfl rfl ?_ ⟨rfl, ⟨Nat.le_of_ble_eq_true rfl, Nat.le_of_ble_eq_true rfl⟩, ⟨rfl, rfl⟩, ⟨Nat.le_of_ble_eq_true rfl, Nat.le_of_ble_eq_true rfl⟩, Nat.le_of_ble_eq_true rfl, rfl, rfl⟩
  refine j_if_ne_B (tgt := 11) dX5_back_6 (by decide) (fun h6 => ?_) (fun h6 => absurd (inR_in (by omega) (by omega) (by omega)) (nBool h6))
  refine j_aload_n dX5_back_11 0 rfl ?_
  refine g_X5_16 rfl dX5_back_12 0 rfl rfl ?_
  refine j_iload_n dX5_back_15 1 rfl ?_
  refine j_zald (v := nI 0) dX5_back_16 1 e rfl (rfl) (by omega) (Nat.le_of_ble_eq_true rfl) (hk) ?_
  refine j_if_ne_N (tgt := 23) dX5_back_17 (by decide) (by omega) (fun h17 => absurd rfl h17) (fun h17 => ?_)
  refine j_bipush (v := (-2)) dX5_back_20 (by decide) ?_
  exact j_iret dX5_back_22 ⟨rfl, rfl⟩ ⟨rfl, rfl⟩

set_option maxHeartbeats 4000000 in
set_option maxRecDepth 100000 in
theorem c_X5_back_ok (M : Nat → Nat) (u : Nat) (r : RT) (s kp kt g : SS) (hI : Inv g) (e : Nat) (he : e < 2) (hk : kp e = 1) (hg : ∀ j, j < 455 → kt (455 * e + j) = g j) : Ct D yX5_back cX5_back 3 (some .int) ({ frames := 2, cells := 0, slots := 0, locals := 43 } : Room) [.ref (M 0), .int (nI e)] ((MO D M (u, r)) ++ (AR D (M 1) 455 s) ++ (AZ D (M 3) 2 kp) ++ (AR D (M 4) 910 kt)) (fun v_ u_ => v_ = some (.int (nI (els g 4))) ∧ u_ = (MO D M (0, r)) ++ (AR D (M 1) 455 g) ++ (AZ D (M 3) 2 kp) ++ (AR D (M 4) 910 kt)) := by
  refine ct_of (by decide) (Nat.le_of_ble_eq_true rfl) (lv0 := [(0, .ref (M 0)), (1, .int (nI e))]) rfl (fun Γ => ?_)
  refine j_iload_n dX5_back_0 1 rfl ?_
  refine j_iconst (v := nI 0) dX5_back_1 (by decide) ?_
  refine j_iconst (v := nI 1) dX5_back_2 (by decide) ?_
  refine j_S (w2 := (MO D M (u, r)) ++ (AR D (M 1) 455 s) ++ (AZ D (M 3) 2 kp) ++ (AR D (M 4) 910 kt)) (st2 := [.int (bI (inR (nI e) (nI 0) (nI 1)))]) (c_X5_in (nI e) (nI 0) (nI 1)) rfl cw_X5_38 dX5_back_3 [] rfl [] rfl rfl rfl ?_ ⟨rfl, ⟨Nat.le_of_ble_eq_true rfl, Nat.le_of_ble_eq_true rfl⟩, ⟨rfl, rfl⟩, ⟨Nat.le_of_ble_eq_true rfl, Nat.le_of_ble_eq_true rfl⟩, Nat.le_of_ble_eq_true rfl, rfl, rfl⟩
  refine j_if_ne_B (tgt := 11) dX5_back_6 (by decide) (fun h6 => ?_) (fun h6 => absurd (inR_in (by omega) (by omega) (by omega)) (nBool h6))
  refine j_aload_n dX5_back_11 0 rfl ?_
  refine g_X5_16 rfl dX5_back_12 0 rfl rfl ?_
  refine j_iload_n dX5_back_15 1 rfl ?_
  refine j_zald (v := nI 1) dX5_back_16 2 e rfl (rfl) (by omega) (Nat.le_of_ble_eq_true rfl) (hk) ?_
  refine j_if_ne_N (tgt := 23) dX5_back_17 (by decide) (by omega) (fun h17 => ?_) (fun h17 => absurd h17 (by decide))
  refine j_iconst (v := nI 0) dX5_back_23 (by decide) ?_
  refine j_istore_n (lv2 := [(0, .ref (M 0)), (1, .int (nI e)), (2, .int (nI 0))]) dX5_back_24 (by decide) [1, 2, 0] rfl ?_
  have L25 : ∀ (fuel : Nat) (i : Nat), i ≤ 455 → 455 - i < fuel → J D Γ yX5_back cX5_back 3 (some .int) ({ frames := 2, cells := 0, slots := 0, locals := 43 } : Room) (Qf D Γ ({ frames := 2, cells := 0, slots := 0, locals := 43 } : Room) (fun v_ u_ => v_ = some (.int (nI (els g 4))) ∧ u_ = (MO D M (0, r)) ++ (AR D (M 1) 455 g) ++ (AZ D (M 3) 2 kp) ++ (AR D (M 4) 910 kt))) 0 0 ((MO D M (u, r)) ++ (AR D (M 1) 455 (cpN g s i)) ++ (AZ D (M 3) 2 kp) ++ (AR D (M 4) 910 kt)) 25 [(0, .ref (M 0)), (1, .int (nI e)), (2, .int (nI i))] [] := by
    intro fuel
    induction fuel with
    | zero => intro i hi hm; exact absurd hm (Nat.not_lt_zero _)
    | succ fuel ih =>
      intro i hi hm
      refine j_iload_n dX5_back_25 2 rfl ?_
      refine j_sipush (v := nI 455) dX5_back_26 (by decide) ?_
      refine j_icmp_ge_N (tgt := 56) dX5_back_29 (by decide) ⟨by omega, by omega⟩ (fun h29 => ?_) (fun h29 => ?_)
      · skip
        obtain rfl : i = 455 := by omega
        refine j_cong (w2 := (MO D M (u, r)) ++ (AR D (M 1) 455 g) ++ (AZ D (M 3) 2 kp) ++ (AR D (M 4) 910 kt)) 1 rfl (fun j hj => if_pos hj) rfl ?_
        refine j_aload_n dX5_back_56 0 rfl ?_
        refine j_iconst (v := nI 0) dX5_back_57 (by decide) ?_
        refine p_X5_98 (w2 := (MO D M (0, r)) ++ (AR D (M 1) 455 g) ++ (AZ D (M 3) 2 kp) ++ (AR D (M 4) 910 kt)) rfl dX5_back_58 0 rfl (Nat.le_of_ble_eq_true rfl) (rfl) ?_
        refine j_aload_n dX5_back_61 0 rfl ?_
        refine j_V (w2 := (MO D M (0, r)) ++ (AR D (M 1) 455 g) ++ (AZ D (M 3) 2 kp) ++ (AR D (M 4) 910 kt)) (st2 := [.int (nI (els g 4))]) (c_X5_engines M (0, r) g hI) rfl cw_X5_167 dX5_back_62 [] rfl [0, 1] rfl rfl rfl 5 ?_ ⟨rfl, ⟨Nat.le_of_ble_eq_true rfl, Nat.le_of_ble_eq_true rfl⟩, ⟨rfl, rfl⟩, ⟨Nat.le_of_ble_eq_true rfl, Nat.le_of_ble_eq_true rfl⟩, Nat.le_of_ble_eq_true rfl, rfl, rfl⟩ rfl rfl rfl
        exact j_iret dX5_back_65 ⟨rfl, rfl⟩ ⟨rfl, rfl⟩
      · skip
        refine j_aload_n dX5_back_32 0 rfl ?_
        refine g_X5_7 rfl dX5_back_33 0 rfl rfl ?_
        refine j_iload_n dX5_back_36 2 rfl ?_
        refine j_aload_n dX5_back_37 0 rfl ?_
        refine g_X5_20 rfl dX5_back_38 0 rfl rfl ?_
        refine j_sipush (v := nI 455) dX5_back_41 (by decide) ?_
        refine j_iload_n dX5_back_44 1 rfl ?_
        refine j_imul (v := nI (455 * e)) dX5_back_45 (pk_mul _ _) ?_
        refine j_iload_n dX5_back_46 2 rfl ?_
        refine j_iadd (v := nI (455 * e + i)) dX5_back_47 (nI_add _ _) ?_
        refine j_iald (v := g i) dX5_back_48 3 (455 * e + i) rfl (rfl) (by omega) (Nat.le_of_ble_eq_true rfl) (hg i (by omega)) ?_
        refine j_iast (w2 := (MO D M (u, r)) ++ (AR D (M 1) 455 (cpN g s (i + 1))) ++ (AZ D (M 3) 2 kp) ++ (AR D (M 4) 910 kt)) dX5_back_49 1 i rfl (rfl) (by omega) (Nat.le_of_ble_eq_true rfl) (by rw [← cpN_s]; rfl) ?_
        refine j_iinc (v := nI (i + 1)) (lv2 := [(0, .ref (M 0)), (1, .int (nI e)), (2, .int (nI (i + 1)))]) dX5_back_50 2 rfl (nI_1 _) (by decide) [1, 2, 0] rfl ?_
        refine j_goto (tgt := 25) dX5_back_53 (by decide) ?_
        exact ih (i + 1) (by omega) (by omega)
  exact L25 456 0 (by omega) (by omega)

set_option maxHeartbeats 4000000 in
set_option maxRecDepth 100000 in
theorem c_X5_count (M : Nat → Nat) (q : QT) (s : SS) (hI : Inv s) (w : Int32) : Ct D yX5_count cX5_count 2 (some .int) ({ frames := 2, cells := 0, slots := 0, locals := 43 } : Room) [.ref (M 0), .int w] ((MO D M q) ++ (AR D (M 1) 455 s)) (fun v_ u_ => v_ = some (.int (coF s q.2.1 q.2.2.1 q.1 w)) ∧ u_ = (MO D M q) ++ (AR D (M 1) 455 s)) := by
  refine ct_of (by decide) (Nat.le_of_ble_eq_true rfl) (lv0 := [(0, .ref (M 0)), (1, .int w)]) rfl (fun Γ => ?_)
  refine j_iload_n dX5_count_0 1 rfl ?_
  by_cases hs0 : w = nI 0
  · skip
    refine j_tableIn (off := 43) (tgt := 44) dX5_count_1 (by rw [hs0]; decide) (by rw [hs0]; decide) (by rw [hs0]; rfl) (by decide) ?_
    refine j_aload_n dX5_count_44 0 rfl ?_
    refine j_V (w2 := (MO D M q) ++ (AR D (M 1) 455 s)) (st2 := [.int (nI (els s 4))]) (c_X5_engines M q s hI) rfl cw_X5_167 dX5_count_45 [] rfl [0, 1] rfl rfl rfl 5 ?_ ⟨rfl, ⟨Nat.le_of_ble_eq_true rfl, Nat.le_of_ble_eq_true rfl⟩, ⟨rfl, rfl⟩, ⟨Nat.le_of_ble_eq_true rfl, Nat.le_of_ble_eq_true rfl⟩, Nat.le_of_ble_eq_true rfl, rfl, rfl⟩ rfl rfl rfl
    exact j_iret dX5_count_48 ⟨rfl, rfl⟩ ⟨by unfold coF; rw [if_pos hs0], rfl⟩
  · skip
    by_cases hs1 : w = nI 1
    · skip
      refine j_tableIn (off := 48) (tgt := 49) dX5_count_1 (by rw [hs1]; decide) (by rw [hs1]; decide) (by rw [hs1]; rfl) (by decide) ?_
      refine j_aload_n dX5_count_49 0 rfl ?_
      refine g_X5_7 rfl dX5_count_50 0 rfl rfl ?_
      refine j_sipush (v := nI 428) dX5_count_53 (by decide) ?_
      refine j_iald (v := s 428) dX5_count_56 1 428 rfl (rfl) (by omega) (Nat.le_of_ble_eq_true rfl) (rfl) ?_
      exact j_iret dX5_count_57 ⟨rfl, rfl⟩ ⟨by unfold coF; rw [if_neg hs0, if_pos hs1], rfl⟩
    · skip
      by_cases hs2 : w = nI 2
      · skip
        refine j_tableIn (off := 57) (tgt := 58) dX5_count_1 (by rw [hs2]; decide) (by rw [hs2]; decide) (by rw [hs2]; rfl) (by decide) ?_
        refine j_aload_n dX5_count_58 0 rfl ?_
        refine g_X5_7 rfl dX5_count_59 0 rfl rfl ?_
        refine j_sipush (v := nI 453) dX5_count_62 (by decide) ?_
        refine j_iald (v := s 453) dX5_count_65 1 453 rfl (rfl) (by omega) (Nat.le_of_ble_eq_true rfl) (rfl) ?_
        exact j_iret dX5_count_66 ⟨rfl, rfl⟩ ⟨by unfold coF; rw [if_neg hs0, if_neg hs1, if_pos hs2], rfl⟩
      · skip
        by_cases hs3 : w = nI 3
        · skip
          refine j_tableIn (off := 66) (tgt := 67) dX5_count_1 (by rw [hs3]; decide) (by rw [hs3]; decide) (by rw [hs3]; rfl) (by decide) ?_
          refine j_aload_n dX5_count_67 0 rfl ?_
          refine g_X5_161 rfl dX5_count_68 0 rfl rfl ?_
          exact j_iret dX5_count_71 ⟨rfl, rfl⟩ ⟨by unfold coF; rw [if_neg hs0, if_neg hs1, if_neg hs2, if_pos hs3], rfl⟩
        · skip
          by_cases hs4 : w = nI 4
          · skip
            refine j_tableIn (off := 71) (tgt := 72) dX5_count_1 (by rw [hs4]; decide) (by rw [hs4]; decide) (by rw [hs4]; rfl) (by decide) ?_
            refine j_aload_n dX5_count_72 0 rfl ?_
            refine g_X5_42 rfl dX5_count_73 0 rfl rfl ?_
            exact j_iret dX5_count_76 ⟨rfl, rfl⟩ ⟨by unfold coF; rw [if_neg hs0, if_neg hs1, if_neg hs2, if_neg hs3, if_pos hs4], rfl⟩
          · skip
            by_cases hs5 : w = nI 5
            · skip
              refine j_tableIn (off := 76) (tgt := 77) dX5_count_1 (by rw [hs5]; decide) (by rw [hs5]; decide) (by rw [hs5]; rfl) (by decide) ?_
              refine j_aload_n dX5_count_77 0 rfl ?_
              refine g_X5_98 rfl dX5_count_78 0 rfl rfl ?_
              exact j_iret dX5_count_81 ⟨rfl, rfl⟩ ⟨by unfold coF; rw [if_neg hs0, if_neg hs1, if_neg hs2, if_neg hs3, if_neg hs4, if_pos hs5], rfl⟩
            · skip
              by_cases hs6 : w = nI 6
              · skip
                refine j_tableIn (off := 81) (tgt := 82) dX5_count_1 (by rw [hs6]; decide) (by rw [hs6]; decide) (by rw [hs6]; rfl) (by decide) ?_
                refine j_aload_n dX5_count_82 0 rfl ?_
                refine g_X5_7 rfl dX5_count_83 0 rfl rfl ?_
                refine j_sipush (v := nI 454) dX5_count_86 (by decide) ?_
                refine j_iald (v := s 454) dX5_count_89 1 454 rfl (rfl) (by omega) (Nat.le_of_ble_eq_true rfl) (rfl) ?_
                exact j_iret dX5_count_90 ⟨rfl, rfl⟩ ⟨by unfold coF; rw [if_neg hs0, if_neg hs1, if_neg hs2, if_neg hs3, if_neg hs4, if_neg hs5, if_pos hs6], rfl⟩
              · skip
                refine j_tableOut (tgt := 91) dX5_count_1 (ts_out0_6 hs0 hs1 hs2 hs3 hs4 hs5 hs6) (by decide) ?_
                refine j_iconst (v := (-1)) dX5_count_91 (by decide) ?_
                exact j_iret dX5_count_92 ⟨rfl, rfl⟩ ⟨by unfold coF; rw [if_neg hs0, if_neg hs1, if_neg hs2, if_neg hs3, if_neg hs4, if_neg hs5, if_neg hs6], rfl⟩

set_option maxHeartbeats 4000000 in
set_option maxRecDepth 100000 in
theorem c_X5_sees_bad (M : Nat → Nat) (q : QT) (v w : Int32) (hb : ¬ (inR v (nI 1) (nI 40) = true ∧ (inR w (nI 0) (nI 3) = true ∨ w = -9))) : Ct D yX5_sees cX5_sees 3 (some .int) ({ frames := 2, cells := 0, slots := 0, locals := 42 } : Room) [.ref (M 0), .int v, .int w] (MO D M q) (fun v_ u_ => v_ = some (.int (-1)) ∧ u_ = MO D M q) := by
  refine ct_of (by decide) (Nat.le_of_ble_eq_true rfl) (lv0 := [(0, .ref (M 0)), (1, .int v), (2, .int w)]) rfl (fun Γ => ?_)
  refine j_iload_n dX5_sees_0 1 rfl ?_
  refine j_iconst (v := nI 1) dX5_sees_1 (by decide) ?_
  refine j_bipush (v := nI 40) dX5_sees_2 (by decide) ?_
  refine j_S (w2 := MO D M q) (st2 := [.int (bI (inR v (nI 1) (nI 40)))]) (c_X5_in v (nI 1) (nI 40)) rfl cw_X5_38 dX5_sees_4 [] rfl [] rfl rfl rfl ?_ ⟨rfl, ⟨Nat.le_of_ble_eq_true rfl, Nat.le_of_ble_eq_true rfl⟩, ⟨rfl, rfl⟩, ⟨Nat.le_of_ble_eq_true rfl, Nat.le_of_ble_eq_true rfl⟩, Nat.le_of_ble_eq_true rfl, rfl, rfl⟩
  refine j_if_eq_B (tgt := 23) dX5_sees_7 (by decide) (fun h7 => ?_) (fun h7 => ?_)
  · skip
    refine j_iconst (v := (-1)) dX5_sees_23 (by decide) ?_
    exact j_iret dX5_sees_24 ⟨rfl, rfl⟩ ⟨rfl, rfl⟩
  · skip
    refine j_iload_n dX5_sees_10 2 rfl ?_
    refine j_S (w2 := MO D M q) (st2 := [.int (bI (inR w (nI 0) (nI 3)))]) (c_X5_isChannel w) rfl cw_X5_141 dX5_sees_11 [] rfl [] rfl rfl rfl ?_ ⟨rfl, ⟨Nat.le_of_ble_eq_true rfl, Nat.le_of_ble_eq_true rfl⟩, ⟨rfl, rfl⟩, ⟨Nat.le_of_ble_eq_true rfl, Nat.le_of_ble_eq_true rfl⟩, Nat.le_of_ble_eq_true rfl, rfl, rfl⟩
    refine j_if_ne_B (tgt := 25) dX5_sees_14 (by decide) (fun h14 => absurd ⟨h7, Or.inl h14⟩ hb) (fun h14 => ?_)
    refine j_iload_n dX5_sees_17 2 rfl ?_
    refine j_bipush (v := (-9)) dX5_sees_18 (by decide) ?_
    refine j_icmp_eq (tgt := 25) dX5_sees_20 (by decide) (fun h20 => absurd ⟨h7, Or.inr h20⟩ hb) (fun h20 => ?_)
    refine j_iconst (v := (-1)) dX5_sees_23 (by decide) ?_
    exact j_iret dX5_sees_24 ⟨rfl, rfl⟩ ⟨rfl, rfl⟩

set_option maxHeartbeats 4000000 in
set_option maxRecDepth 100000 in
theorem c_X5_sees_full (M : Nat → Nat) (u m : Nat) (r : Nat × Nat × Nat × Nat × Int32 × Int32) (tk wh : SS) (v w : Int32) (hb : (inR v (nI 1) (nI 40) = true ∧ (inR w (nI 0) (nI 3) = true ∨ w = -9))) (hm : m = 6) : Ct D yX5_sees cX5_sees 3 (some .int) ({ frames := 2, cells := 0, slots := 0, locals := 42 } : Room) [.ref (M 0), .int v, .int w] ((MO D M (u, m, r)) ++ (AR D (M 6) 6 tk) ++ (AR D (M 7) 6 wh)) (fun v_ u_ => v_ = some (.int (-3)) ∧ u_ = (MO D M (u, m, r)) ++ (AR D (M 6) 6 tk) ++ (AR D (M 7) 6 wh)) := by
  refine ct_of (by decide) (Nat.le_of_ble_eq_true rfl) (lv0 := [(0, .ref (M 0)), (1, .int v), (2, .int w)]) rfl (fun Γ => ?_)
  refine j_iload_n dX5_sees_0 1 rfl ?_
  refine j_iconst (v := nI 1) dX5_sees_1 (by decide) ?_
  refine j_bipush (v := nI 40) dX5_sees_2 (by decide) ?_
  refine j_S (w2 := (MO D M (u, m, r)) ++ (AR D (M 6) 6 tk) ++ (AR D (M 7) 6 wh)) (st2 := [.int (bI (inR v (nI 1) (nI 40)))]) (c_X5_in v (nI 1) (nI 40)) rfl cw_X5_38 dX5_sees_4 [] rfl [] rfl rfl rfl ?_ ⟨rfl, ⟨Nat.le_of_ble_eq_true rfl, Nat.le_of_ble_eq_true rfl⟩, ⟨rfl, rfl⟩, ⟨Nat.le_of_ble_eq_true rfl, Nat.le_of_ble_eq_true rfl⟩, Nat.le_of_ble_eq_true rfl, rfl, rfl⟩
  refine j_if_eq_B (tgt := 23) dX5_sees_7 (by decide) (fun h7 => absurd (hb.1.symm.trans h7) (by decide)) (fun h7 => ?_)
  refine j_iload_n dX5_sees_10 2 rfl ?_
  refine j_S (w2 := (MO D M (u, m, r)) ++ (AR D (M 6) 6 tk) ++ (AR D (M 7) 6 wh)) (st2 := [.int (bI (inR w (nI 0) (nI 3)))]) (c_X5_isChannel w) rfl cw_X5_141 dX5_sees_11 [] rfl [] rfl rfl rfl ?_ ⟨rfl, ⟨Nat.le_of_ble_eq_true rfl, Nat.le_of_ble_eq_true rfl⟩, ⟨rfl, rfl⟩, ⟨Nat.le_of_ble_eq_true rfl, Nat.le_of_ble_eq_true rfl⟩, Nat.le_of_ble_eq_true rfl, rfl, rfl⟩
  refine j_if_ne_B (tgt := 25) dX5_sees_14 (by decide) (fun h14 => ?_) (fun h14 => ?_)
  · skip
    refine j_aload_n dX5_sees_25 0 rfl ?_
    refine g_X5_161 rfl dX5_sees_26 0 rfl rfl ?_
    refine j_bipush (v := nI 6) dX5_sees_29 (by decide) ?_
    refine j_icmp_ne_N (tgt := 37) dX5_sees_31 (by decide) ⟨by show m < 2 ^ 31; omega, by omega⟩ (fun h31 => absurd hm h31) (fun h31 => ?_)
    refine j_bipush (v := (-3)) dX5_sees_34 (by decide) ?_
    exact j_iret dX5_sees_36 ⟨rfl, rfl⟩ ⟨rfl, rfl⟩
  · skip
    refine j_iload_n dX5_sees_17 2 rfl ?_
    refine j_bipush (v := (-9)) dX5_sees_18 (by decide) ?_
    refine j_icmp_eq (tgt := 25) dX5_sees_20 (by decide) (fun h20 => ?_) (fun h20 => absurd (hb.2.resolve_left (nBool h14)) h20)
    refine j_aload_n dX5_sees_25 0 rfl ?_
    refine g_X5_161 rfl dX5_sees_26 0 rfl rfl ?_
    refine j_bipush (v := nI 6) dX5_sees_29 (by decide) ?_
    refine j_icmp_ne_N (tgt := 37) dX5_sees_31 (by decide) ⟨by show m < 2 ^ 31; omega, by omega⟩ (fun h31 => absurd hm h31) (fun h31 => ?_)
    refine j_bipush (v := (-3)) dX5_sees_34 (by decide) ?_
    exact j_iret dX5_sees_36 ⟨rfl, rfl⟩ ⟨rfl, rfl⟩

set_option maxHeartbeats 4000000 in
set_option maxRecDepth 100000 in
theorem c_X5_sees_ok (M : Nat → Nat) (u m : Nat) (r : Nat × Nat × Nat × Nat × Int32 × Int32) (tk wh : SS) (v w : Int32) (hb : (inR v (nI 1) (nI 40) = true ∧ (inR w (nI 0) (nI 3) = true ∨ w = -9))) (hm : m < 6) : Ct D yX5_sees cX5_sees 3 (some .int) ({ frames := 2, cells := 0, slots := 0, locals := 42 } : Room) [.ref (M 0), .int v, .int w] ((MO D M (u, m, r)) ++ (AR D (M 6) 6 tk) ++ (AR D (M 7) 6 wh)) (fun v_ u_ => v_ = some (.int (nI (m + 1))) ∧ u_ = (MO D M (u, m + 1, r)) ++ (AR D (M 6) 6 (upd tk m v)) ++ (AR D (M 7) 6 (upd wh m w))) := by
  refine ct_of (by decide) (Nat.le_of_ble_eq_true rfl) (lv0 := [(0, .ref (M 0)), (1, .int v), (2, .int w)]) rfl (fun Γ => ?_)
  refine j_iload_n dX5_sees_0 1 rfl ?_
  refine j_iconst (v := nI 1) dX5_sees_1 (by decide) ?_
  refine j_bipush (v := nI 40) dX5_sees_2 (by decide) ?_
  refine j_S (w2 := (MO D M (u, m, r)) ++ (AR D (M 6) 6 tk) ++ (AR D (M 7) 6 wh)) (st2 := [.int (bI (inR v (nI 1) (nI 40)))]) (c_X5_in v (nI 1) (nI 40)) rfl cw_X5_38 dX5_sees_4 [] rfl [] rfl rfl rfl ?_ ⟨rfl, ⟨Nat.le_of_ble_eq_true rfl, Nat.le_of_ble_eq_true rfl⟩, ⟨rfl, rfl⟩, ⟨Nat.le_of_ble_eq_true rfl, Nat.le_of_ble_eq_true rfl⟩, Nat.le_of_ble_eq_true rfl, rfl, rfl⟩
  refine j_if_eq_B (tgt := 23) dX5_sees_7 (by decide) (fun h7 => absurd (hb.1.symm.trans h7) (by decide)) (fun h7 => ?_)
  refine j_iload_n dX5_sees_10 2 rfl ?_
  refine j_S (w2 := (MO D M (u, m, r)) ++ (AR D (M 6) 6 tk) ++ (AR D (M 7) 6 wh)) (st2 := [.int (bI (inR w (nI 0) (nI 3)))]) (c_X5_isChannel w) rfl cw_X5_141 dX5_sees_11 [] rfl [] rfl rfl rfl ?_ ⟨rfl, ⟨Nat.le_of_ble_eq_true rfl, Nat.le_of_ble_eq_true rfl⟩, ⟨rfl, rfl⟩, ⟨Nat.le_of_ble_eq_true rfl, Nat.le_of_ble_eq_true rfl⟩, Nat.le_of_ble_eq_true rfl, rfl, rfl⟩
  refine j_if_ne_B (tgt := 25) dX5_sees_14 (by decide) (fun h14 => ?_) (fun h14 => ?_)
  · skip
    refine j_aload_n dX5_sees_25 0 rfl ?_
    refine g_X5_161 rfl dX5_sees_26 0 rfl rfl ?_
    refine j_bipush (v := nI 6) dX5_sees_29 (by decide) ?_
    refine j_icmp_ne_N (tgt := 37) dX5_sees_31 (by decide) ⟨by show m < 2 ^ 31; omega, by omega⟩ (fun h31 => ?_) (fun h31 => absurd h31 (by show ¬ m = 6; omega))
    refine j_aload_n dX5_sees_37 0 rfl ?_
    refine g_X5_26 rfl dX5_sees_38 0 rfl rfl ?_
    refine j_aload_n dX5_sees_41 0 rfl ?_
    refine g_X5_161 rfl dX5_sees_42 0 rfl rfl ?_
    refine j_iload_n dX5_sees_45 1 rfl ?_
    refine j_iast (w2 := (MO D M (u, m, r)) ++ (AR D (M 6) 6 (upd tk m v)) ++ (AR D (M 7) 6 wh)) dX5_sees_46 1 m rfl (rfl) (by omega) (Nat.le_of_ble_eq_true rfl) (rfl) ?_
    refine j_aload_n dX5_sees_47 0 rfl ?_
    refine g_X5_29 rfl dX5_sees_48 0 rfl rfl ?_
    refine j_aload_n dX5_sees_51 0 rfl ?_
    refine g_X5_161 rfl dX5_sees_52 0 rfl rfl ?_
    refine j_iload_n dX5_sees_55 2 rfl ?_
    refine j_iast (w2 := (MO D M (u, m, r)) ++ (AR D (M 6) 6 (upd tk m v)) ++ (AR D (M 7) 6 (upd wh m w))) dX5_sees_56 2 m rfl (rfl) (by omega) (Nat.le_of_ble_eq_true rfl) (rfl) ?_
    refine j_aload_n dX5_sees_57 0 rfl ?_
    refine j_dup dX5_sees_58 rfl ?_
    refine g_X5_161 rfl dX5_sees_59 0 rfl rfl ?_
    refine j_iconst (v := nI 1) dX5_sees_62 (by decide) ?_
    refine j_iadd (v := nI (m + 1)) dX5_sees_63 (nI_add _ _) ?_
    refine p_X5_161 (w2 := (MO D M (u, m + 1, r)) ++ (AR D (M 6) 6 (upd tk m v)) ++ (AR D (M 7) 6 (upd wh m w))) rfl dX5_sees_64 0 rfl (Nat.le_of_ble_eq_true rfl) (rfl) ?_
    refine j_aload_n dX5_sees_67 0 rfl ?_
    refine g_X5_161 rfl dX5_sees_68 0 rfl rfl ?_
    exact j_iret dX5_sees_71 ⟨rfl, rfl⟩ ⟨rfl, rfl⟩
  · skip
    refine j_iload_n dX5_sees_17 2 rfl ?_
    refine j_bipush (v := (-9)) dX5_sees_18 (by decide) ?_
    refine j_icmp_eq (tgt := 25) dX5_sees_20 (by decide) (fun h20 => ?_) (fun h20 => absurd (hb.2.resolve_left (nBool h14)) h20)
    refine j_aload_n dX5_sees_25 0 rfl ?_
    refine g_X5_161 rfl dX5_sees_26 0 rfl rfl ?_
    refine j_bipush (v := nI 6) dX5_sees_29 (by decide) ?_
    refine j_icmp_ne_N (tgt := 37) dX5_sees_31 (by decide) ⟨by show m < 2 ^ 31; omega, by omega⟩ (fun h31 => ?_) (fun h31 => absurd h31 (by show ¬ m = 6; omega))
    refine j_aload_n dX5_sees_37 0 rfl ?_
    refine g_X5_26 rfl dX5_sees_38 0 rfl rfl ?_
    refine j_aload_n dX5_sees_41 0 rfl ?_
    refine g_X5_161 rfl dX5_sees_42 0 rfl rfl ?_
    refine j_iload_n dX5_sees_45 1 rfl ?_
    refine j_iast (w2 := (MO D M (u, m, r)) ++ (AR D (M 6) 6 (upd tk m v)) ++ (AR D (M 7) 6 wh)) dX5_sees_46 1 m rfl (rfl) (by omega) (Nat.le_of_ble_eq_true rfl) (rfl) ?_
    refine j_aload_n dX5_sees_47 0 rfl ?_
    refine g_X5_29 rfl dX5_sees_48 0 rfl rfl ?_
    refine j_aload_n dX5_sees_51 0 rfl ?_
    refine g_X5_161 rfl dX5_sees_52 0 rfl rfl ?_
    refine j_iload_n dX5_sees_55 2 rfl ?_
    refine j_iast (w2 := (MO D M (u, m, r)) ++ (AR D (M 6) 6 (upd tk m v)) ++ (AR D (M 7) 6 (upd wh m w))) dX5_sees_56 2 m rfl (rfl) (by omega) (Nat.le_of_ble_eq_true rfl) (rfl) ?_
    refine j_aload_n dX5_sees_57 0 rfl ?_
    refine j_dup dX5_sees_58 rfl ?_
    refine g_X5_161 rfl dX5_sees_59 0 rfl rfl ?_
    refine j_iconst (v := nI 1) dX5_sees_62 (by decide) ?_
    refine j_iadd (v := nI (m + 1)) dX5_sees_63 (nI_add _ _) ?_
    refine p_X5_161 (w2 := (MO D M (u, m + 1, r)) ++ (AR D (M 6) 6 (upd tk m v)) ++ (AR D (M 7) 6 (upd wh m w))) rfl dX5_sees_64 0 rfl (Nat.le_of_ble_eq_true rfl) (rfl) ?_
    refine j_aload_n dX5_sees_67 0 rfl ?_
    refine g_X5_161 rfl dX5_sees_68 0 rfl rfl ?_
    exact j_iret dX5_sees_71 ⟨rfl, rfl⟩ ⟨rfl, rfl⟩

set_option maxHeartbeats 4000000 in
set_option maxRecDepth 100000 in
theorem c_X5_forget (M : Nat → Nat) (u m : Nat) (r : Nat × Nat × Nat × Nat × Int32 × Int32) : Ct D yX5_forget cX5_forget 2 (some .int) ({ frames := 0, cells := 0, slots := 0, locals := 0 } : Room) [.ref (M 0)] (MO D M (u, m, r)) (fun v_ u_ => v_ = some (.int (nI m)) ∧ u_ = MO D M (u, 0, r)) := by
  refine ct_of (by decide) (Nat.le_of_ble_eq_true rfl) (lv0 := [(0, .ref (M 0))]) rfl (fun Γ => ?_)
  refine j_aload_n dX5_forget_0 0 rfl ?_
  refine g_X5_161 rfl dX5_forget_1 0 rfl rfl ?_
  refine j_istore_n (lv2 := [(0, .ref (M 0)), (1, .int (nI m))]) dX5_forget_4 (by decide) [1, 0] rfl ?_
  refine j_aload_n dX5_forget_5 0 rfl ?_
  refine j_iconst (v := nI 0) dX5_forget_6 (by decide) ?_
  refine p_X5_161 (w2 := MO D M (u, 0, r)) rfl dX5_forget_7 0 rfl (Nat.le_of_ble_eq_true rfl) (rfl) ?_
  refine j_iload_n dX5_forget_10 1 rfl ?_
  exact j_iret dX5_forget_11 ⟨rfl, rfl⟩ ⟨rfl, rfl⟩

set_option maxHeartbeats 4000000 in
set_option maxRecDepth 100000 in
theorem c_X5_clear (M : Nat → Nat) (u m n : Nat) (r : Nat × Nat × Nat × Int32 × Int32) : Ct D yX5_clear cX5_clear 2 (some .int) ({ frames := 0, cells := 0, slots := 0, locals := 0 } : Room) [.ref (M 0)] (MO D M (u, m, n, r)) (fun v_ u_ => v_ = some (.int (nI n)) ∧ u_ = MO D M (u, m, 0, r)) := by
  refine ct_of (by decide) (Nat.le_of_ble_eq_true rfl) (lv0 := [(0, .ref (M 0))]) rfl (fun Γ => ?_)
  refine j_aload_n dX5_clear_0 0 rfl ?_
  refine g_X5_42 rfl dX5_clear_1 0 rfl rfl ?_
  refine j_istore_n (lv2 := [(0, .ref (M 0)), (1, .int (nI n))]) dX5_clear_4 (by decide) [1, 0] rfl ?_
  refine j_aload_n dX5_clear_5 0 rfl ?_
  refine j_iconst (v := nI 0) dX5_clear_6 (by decide) ?_
  refine p_X5_42 (w2 := MO D M (u, m, 0, r)) rfl dX5_clear_7 0 rfl (Nat.le_of_ble_eq_true rfl) (rfl) ?_
  refine j_iload_n dX5_clear_10 1 rfl ?_
  exact j_iret dX5_clear_11 ⟨rfl, rfl⟩ ⟨rfl, rfl⟩

set_option maxHeartbeats 4000000 in
set_option maxRecDepth 100000 in
theorem c_X5_type_bad (M : Nat → Nat) (q : QT) (v : Int32) (hb : inR v (nI 0) (nI 255) = false) : Ct D yX5_type cX5_type 2 (some .int) ({ frames := 1, cells := 0, slots := 0, locals := 22 } : Room) [.ref (M 0), .int v] (MO D M q) (fun v_ u_ => v_ = some (.int (-1)) ∧ u_ = MO D M q) := by
  refine ct_of (by decide) (Nat.le_of_ble_eq_true rfl) (lv0 := [(0, .ref (M 0)), (1, .int v)]) rfl (fun Γ => ?_)
  refine j_iload_n dX5_type_0 1 rfl ?_
  refine j_iconst (v := nI 0) dX5_type_1 (by decide) ?_
  refine j_sipush (v := nI 255) dX5_type_2 (by decide) ?_
  refine j_S (w2 := MO D M q) (st2 := [.int (bI (inR v (nI 0) (nI 255)))]) (c_X5_in v (nI 0) (nI 255)) rfl cw_X5_38 dX5_type_5 [] rfl [] rfl rfl rfl ?_ ⟨rfl, ⟨Nat.le_of_ble_eq_true rfl, Nat.le_of_ble_eq_true rfl⟩, ⟨rfl, rfl⟩, ⟨Nat.le_of_ble_eq_true rfl, Nat.le_of_ble_eq_true rfl⟩, Nat.le_of_ble_eq_true rfl, rfl, rfl⟩
  refine j_if_ne_B (tgt := 13) dX5_type_8 (by decide) (fun h8 => absurd (hb.symm.trans h8) (by decide)) (fun h8 => ?_)
  refine j_iconst (v := (-1)) dX5_type_11 (by decide) ?_
  exact j_iret dX5_type_12 ⟨rfl, rfl⟩ ⟨rfl, rfl⟩

set_option maxHeartbeats 4000000 in
set_option maxRecDepth 100000 in
theorem c_X5_type_full (M : Nat → Nat) (u m n : Nat) (r : Nat × Nat × Nat × Int32 × Int32) (sg : SS) (v : Int32) (hb : inR v (nI 0) (nI 255) = true) (hn : n = 120) : Ct D yX5_type cX5_type 2 (some .int) ({ frames := 1, cells := 0, slots := 0, locals := 22 } : Room) [.ref (M 0), .int v] ((MO D M (u, m, n, r)) ++ (AR D (M 8) 120 sg)) (fun v_ u_ => v_ = some (.int (-3)) ∧ u_ = (MO D M (u, m, n, r)) ++ (AR D (M 8) 120 sg)) := by
  refine ct_of (by decide) (Nat.le_of_ble_eq_true rfl) (lv0 := [(0, .ref (M 0)), (1, .int v)]) rfl (fun Γ => ?_)
  refine j_iload_n dX5_type_0 1 rfl ?_
  refine j_iconst (v := nI 0) dX5_type_1 (by decide) ?_
  refine j_sipush (v := nI 255) dX5_type_2 (by decide) ?_
  refine j_S (w2 := (MO D M (u, m, n, r)) ++ (AR D (M 8) 120 sg)) (st2 := [.int (bI (inR v (nI 0) (nI 255)))]) (c_X5_in v (nI 0) (nI 255)) rfl cw_X5_38 dX5_type_5 [] rfl [] rfl rfl rfl ?_ ⟨rfl, ⟨Nat.le_of_ble_eq_true rfl, Nat.le_of_ble_eq_true rfl⟩, ⟨rfl, rfl⟩, ⟨Nat.le_of_ble_eq_true rfl, Nat.le_of_ble_eq_true rfl⟩, Nat.le_of_ble_eq_true rfl, rfl, rfl⟩
  refine j_if_ne_B (tgt := 13) dX5_type_8 (by decide) (fun h8 => ?_) (fun h8 => absurd (hb.symm.trans h8) (by decide))
  refine j_aload_n dX5_type_13 0 rfl ?_
  refine g_X5_42 rfl dX5_type_14 0 rfl rfl ?_
  refine j_bipush (v := nI 120) dX5_type_17 (by decide) ?_
  refine j_icmp_ne_N (tgt := 25) dX5_type_19 (by decide) ⟨by show n < 2 ^ 31; omega, by omega⟩ (fun h19 => absurd hn h19) (fun h19 => ?_)
  refine j_bipush (v := (-3)) dX5_type_22 (by decide) ?_
  exact j_iret dX5_type_24 ⟨rfl, rfl⟩ ⟨rfl, rfl⟩

set_option maxHeartbeats 4000000 in
set_option maxRecDepth 100000 in
theorem c_X5_type_ok (M : Nat → Nat) (u m n : Nat) (r : Nat × Nat × Nat × Int32 × Int32) (sg : SS) (v : Int32) (hb : inR v (nI 0) (nI 255) = true) (hn : n < 120) : Ct D yX5_type cX5_type 2 (some .int) ({ frames := 1, cells := 0, slots := 0, locals := 22 } : Room) [.ref (M 0), .int v] ((MO D M (u, m, n, r)) ++ (AR D (M 8) 120 sg)) (fun v_ u_ => v_ = some (.int (nI (n + 1))) ∧ u_ = (MO D M (u, m, n + 1, r)) ++ (AR D (M 8) 120 (upd sg n v))) := by
  refine ct_of (by decide) (Nat.le_of_ble_eq_true rfl) (lv0 := [(0, .ref (M 0)), (1, .int v)]) rfl (fun Γ => ?_)
  refine j_iload_n dX5_type_0 1 rfl ?_
  refine j_iconst (v := nI 0) dX5_type_1 (by decide) ?_
  refine j_sipush (v := nI 255) dX5_type_2 (by decide) ?_
  refine j_S (w2 := (MO D M (u, m, n, r)) ++ (AR D (M 8) 120 sg)) (st2 := [.int (bI (inR v (nI 0) (nI 255)))]) (c_X5_in v (nI 0) (nI 255)) rfl cw_X5_38 dX5_type_5 [] rfl [] rfl rfl rfl ?_ ⟨rfl, ⟨Nat.le_of_ble_eq_true rfl, Nat.le_of_ble_eq_true rfl⟩, ⟨rfl, rfl⟩, ⟨Nat.le_of_ble_eq_true rfl, Nat.le_of_ble_eq_true rfl⟩, Nat.le_of_ble_eq_true rfl, rfl, rfl⟩
  refine j_if_ne_B (tgt := 13) dX5_type_8 (by decide) (fun h8 => ?_) (fun h8 => absurd (hb.symm.trans h8) (by decide))
  refine j_aload_n dX5_type_13 0 rfl ?_
  refine g_X5_42 rfl dX5_type_14 0 rfl rfl ?_
  refine j_bipush (v := nI 120) dX5_type_17 (by decide) ?_
  refine j_icmp_ne_N (tgt := 25) dX5_type_19 (by decide) ⟨by show n < 2 ^ 31; omega, by omega⟩ (fun h19 => ?_) (fun h19 => absurd h19 (by show ¬ n = 120; omega))
  refine j_aload_n dX5_type_25 0 rfl ?_
  refine g_X5_32 rfl dX5_type_26 0 rfl rfl ?_
  refine j_aload_n dX5_type_29 0 rfl ?_
  refine g_X5_42 rfl dX5_type_30 0 rfl rfl ?_
  refine j_iload_n dX5_type_33 1 rfl ?_
  refine j_iast (w2 := (MO D M (u, m, n, r)) ++ (AR D (M 8) 120 (upd sg n v))) dX5_type_34 1 n rfl (rfl) (by omega) (Nat.le_of_ble_eq_true rfl) (rfl) ?_
  refine j_aload_n dX5_type_35 0 rfl ?_
  refine j_dup dX5_type_36 rfl ?_
  refine g_X5_42 rfl dX5_type_37 0 rfl rfl ?_
  refine j_iconst (v := nI 1) dX5_type_40 (by decide) ?_
  refine j_iadd (v := nI (n + 1)) dX5_type_41 (nI_add _ _) ?_
  refine p_X5_42 (w2 := (MO D M (u, m, n + 1, r)) ++ (AR D (M 8) 120 (upd sg n v))) rfl dX5_type_42 0 rfl (Nat.le_of_ble_eq_true rfl) (rfl) ?_
  refine j_aload_n dX5_type_45 0 rfl ?_
  refine g_X5_42 rfl dX5_type_46 0 rfl rfl ?_
  exact j_iret dX5_type_49 ⟨rfl, rfl⟩ ⟨rfl, rfl⟩

end MD4
