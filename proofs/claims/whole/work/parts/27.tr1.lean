theorem inR_in {j a b : Nat} (h1 : a ≤ j) (h2 : j ≤ b) (hb : b < 2 ^ 31) : inR (nI j) (nI a) (nI b) = true := inR_iff.mpr ⟨nI_le h1 (by omega), nI_le h2 hb⟩
section TR1
variable {D : DX}
set_option maxHeartbeats 4000000 in
set_option maxRecDepth 100000 in
theorem c_X4_at (O : Nat) (X E F Y Z V : Nat → Nat) (s : SS) (v : Int32) : Ct D yX4_at cX4_at 2 (some .int) ({ frames := 1, cells := 0, slots := 0, locals := 22 } : Room) [.ref O, .int v] ((TR D O X E F Y Z V) ++ (EW D E s)) (fun v_ u_ => v_ = some (.int (atF s v)) ∧ u_ = (TR D O X E F Y Z V) ++ (EW D E s)) := by
  refine ct_of (by decide) (Nat.le_of_ble_eq_true rfl) (lv0 := [(0, .ref O), (1, .int v)]) rfl (fun Γ => ?_)
  refine j_iload_n dX4_at_0 1 rfl ?_
  refine j_iconst (v := nI 0) dX4_at_1 (by decide) ?_
  refine j_bipush (v := nI 63) dX4_at_2 (by decide) ?_
  refine j_S (w2 := (TR D O X E F Y Z V) ++ (EW D E s)) (st2 := [.int (bI (inR v (nI 0) (nI 63)))]) (c_X4_within v (nI 0) (nI 63)) rfl cw_X4_48 dX4_at_4 [] rfl [] rfl rfl rfl ?_ ⟨rfl, ⟨Nat.le_of_ble_eq_true rfl, Nat.le_of_ble_eq_true rfl⟩, ⟨rfl, rfl⟩, ⟨Nat.le_of_ble_eq_true rfl, Nat.le_of_ble_eq_true rfl⟩, Nat.le_of_ble_eq_true rfl, rfl, rfl⟩
  refine j_if_eq_B (tgt := 22) dX4_at_7 (by decide) (fun h7 => ?_) (fun h7 => ?_)
  · skip
    refine j_iconst (v := (-1)) dX4_at_22 (by decide) ?_
    exact j_iret dX4_at_23 ⟨rfl, rfl⟩ ⟨by rw [show atF s v = -1 from if_neg (nBool h7)], rfl⟩
  · skip
    obtain ⟨c, hc1, hc2, rfl⟩ := inR_nat (by decide) (by decide) h7
    refine j_aload_n dX4_at_10 0 rfl ?_
    refine g_X4_19 rfl dX4_at_11 0 rfl rfl ?_
    refine g_X4_110 rfl dX4_at_14 1 rfl rfl ?_
    refine j_iload_n dX4_at_17 1 rfl ?_
    refine j_iald (v := s c) dX4_at_18 2 c rfl (rfl) (by omega) (Nat.le_of_ble_eq_true rfl) (vM_at (by omega)) ?_
    refine j_goto (tgt := 23) dX4_at_19 (by decide) ?_
    exact j_iret dX4_at_23 ⟨rfl, rfl⟩ ⟨by rw [show atF s (nI c) = s c from by unfold atF; rw [if_pos h7, cl_nI (by omega)]], rfl⟩

set_option maxHeartbeats 4000000 in
set_option maxRecDepth 100000 in
theorem c_X4_presentResidue (O : Nat) (X E F Y Z V : Nat → Nat) (s : SS) (hI : Inv s) (c : Nat) (hc : c < 4) : Ct D yX4_presentResidue cX4_presentResidue 3 (some .int) ({ frames := 2, cells := 0, slots := 0, locals := 44 } : Room) [.ref O, .int (nI c)] ((TR D O X E F Y Z V) ++ (EW D E s)) (fun v_ u_ => v_ = some (.int (prR s c)) ∧ u_ = (TR D O X E F Y Z V) ++ (EW D E s)) := by
  refine ct_of (by decide) (Nat.le_of_ble_eq_true rfl) (lv0 := [(0, .ref O), (1, .int (nI c))]) rfl (fun Γ => ?_)
  refine j_aload_n dX4_presentResidue_0 0 rfl ?_
  refine g_X4_19 rfl dX4_presentResidue_1 0 rfl rfl ?_
  refine j_iload_n dX4_presentResidue_4 1 rfl ?_
  refine j_V (w2 := (TR D O X E F Y Z V) ++ (EW D E s)) (st2 := [.int (oN (prs s c))]) (c_X0_presentOf E s hI c (by omega)) rfl cw_X4_88 dX4_presentResidue_5 [] rfl [1, 2, 3, 4, 5] rfl rfl rfl 0 ?_ ⟨rfl, ⟨Nat.le_of_ble_eq_true rfl, Nat.le_of_ble_eq_true rfl⟩, ⟨rfl, rfl⟩, ⟨Nat.le_of_ble_eq_true rfl, Nat.le_of_ble_eq_true rfl⟩, Nat.le_of_ble_eq_true rfl, rfl, rfl⟩ rfl rfl rfl
  rcases hpr : prs s c with _ | p
  · skip
    refine j_istore_n (lv2 := [(0, .ref O), (1, .int (nI c)), (2, .int (-9))]) dX4_presentResidue_8 (by decide) [1, 2, 0] rfl ?_
    refine j_iload_n dX4_presentResidue_9 2 rfl ?_
    refine j_bipush (v := (-9)) dX4_presentResidue_10 (by decide) ?_
    refine j_icmp_ne (tgt := 19) dX4_presentResidue_12 (by decide) (fun h12 => absurd rfl h12) (fun h12 => ?_)
    refine j_iconst (v := nI 0) dX4_presentResidue_15 (by decide) ?_
    refine j_goto (tgt := 29) dX4_presentResidue_16 (by decide) ?_
    exact j_iret dX4_presentResidue_29 ⟨rfl, rfl⟩ ⟨by unfold prR; rw [hpr]; rfl, rfl⟩
  · skip
    obtain ⟨hp1, hp2⟩ := prs_some hpr
    have hpl := hI.pl_ hc
    refine j_istore_n (lv2 := [(0, .ref O), (1, .int (nI c)), (2, .int (nI p))]) dX4_presentResidue_8 (by decide) [1, 2, 0] rfl ?_
    refine j_iload_n dX4_presentResidue_9 2 rfl ?_
    refine j_bipush (v := (-9)) dX4_presentResidue_10 (by decide) ?_
    refine j_icmp_ne (tgt := 19) dX4_presentResidue_12 (by decide) (fun h12 => ?_) (fun h12 => absurd h12 (nI_m9 (by omega)))
    refine j_aload_n dX4_presentResidue_19 0 rfl ?_
    refine g_X4_19 rfl dX4_presentResidue_20 0 rfl rfl ?_
    refine j_iload_n dX4_presentResidue_23 2 rfl ?_
    refine j_bipush (v := nI 11) dX4_presentResidue_24 (by decide) ?_
    refine j_V (w2 := (TR D O X E F Y Z V) ++ (EW D E s)) (st2 := [.int (gL s p 11)]) (c_X0_ofLetter E s p 11 (by omega) (by omega)) rfl cw_X4_130 dX4_presentResidue_26 [] rfl [1, 2, 3, 4, 5] rfl rfl rfl 0 ?_ ⟨rfl, ⟨Nat.le_of_ble_eq_true rfl, Nat.le_of_ble_eq_true rfl⟩, ⟨rfl, rfl⟩, ⟨Nat.le_of_ble_eq_true rfl, Nat.le_of_ble_eq_true rfl⟩, Nat.le_of_ble_eq_true rfl, rfl, rfl⟩ rfl rfl rfl
    exact j_iret dX4_presentResidue_29 ⟨rfl, rfl⟩ ⟨by unfold prR; rw [hpr], rfl⟩

set_option maxHeartbeats 4000000 in
set_option maxRecDepth 100000 in
theorem c_X4_channel (O : Nat) (X E F Y Z V : Nat → Nat) (s : SS) (hI : Inv s) (v w : Int32) : Ct D yX4_channel cX4_channel 3 (some .int) ({ frames := 3, cells := 0, slots := 0, locals := 66 } : Room) [.ref O, .int v, .int w] ((TR D O X E F Y Z V) ++ (EW D E s)) (fun v_ u_ => v_ = some (.int (chF s v w)) ∧ u_ = (TR D O X E F Y Z V) ++ (EW D E s)) := by
  refine ct_of (by decide) (Nat.le_of_ble_eq_true rfl) (lv0 := [(0, .ref O), (1, .int v), (2, .int w)]) rfl (fun Γ => ?_)
  refine j_iload_n dX4_channel_0 1 rfl ?_
  refine j_S (w2 := (TR D O X E F Y Z V) ++ (EW D E s)) (st2 := [.int (bI (inR v (nI 0) (nI 3)))]) (c_X4_isChannel v) rfl cw_X4_85 dX4_channel_1 [] rfl [] rfl rfl rfl ?_ ⟨rfl, ⟨Nat.le_of_ble_eq_true rfl, Nat.le_of_ble_eq_true rfl⟩, ⟨rfl, rfl⟩, ⟨Nat.le_of_ble_eq_true rfl, Nat.le_of_ble_eq_true rfl⟩, Nat.le_of_ble_eq_true rfl, rfl, rfl⟩
  refine j_if_ne_B (tgt := 9) dX4_channel_4 (by decide) (fun h4 => ?_) (fun h4 => ?_)
  · skip
    obtain ⟨c, hc1, hc2, rfl⟩ := inR_nat (by decide) (by decide) h4
    refine j_iload_n dX4_channel_9 2 rfl ?_
    by_cases hs0 : w = nI 0
    · skip
      refine j_tableIn (off := 50) (tgt := 60) dX4_channel_10 (by rw [hs0]; decide) (by rw [hs0]; decide) (by rw [hs0]; rfl) (by decide) ?_
      refine j_aload_n dX4_channel_60 0 rfl ?_
      refine g_X4_19 rfl dX4_channel_61 0 rfl rfl ?_
      refine j_iload_n dX4_channel_64 1 rfl ?_
      refine j_iconst (v := nI 0) dX4_channel_65 (by decide) ?_
      refine j_V (w2 := (TR D O X E F Y Z V) ++ (EW D E s)) (st2 := [.int (gC s c 0)]) (c_X0_ofChannel E s c 0 (by omega) (by omega)) rfl cw_X4_95 dX4_channel_66 [] rfl [1, 2, 3, 4, 5] rfl rfl rfl 0 ?_ ⟨rfl, ⟨Nat.le_of_ble_eq_true rfl, Nat.le_of_ble_eq_true rfl⟩, ⟨rfl, rfl⟩, ⟨Nat.le_of_ble_eq_true rfl, Nat.le_of_ble_eq_true rfl⟩, Nat.le_of_ble_eq_true rfl, rfl, rfl⟩ rfl rfl rfl
      exact j_iret dX4_channel_69 ⟨rfl, rfl⟩ ⟨by unfold chF; rw [if_pos h4, if_pos hs0, cl_nI (by omega)], rfl⟩
    · skip
      by_cases hs1 : w = nI 1
      · skip
        refine j_tableIn (off := 60) (tgt := 70) dX4_channel_10 (by rw [hs1]; decide) (by rw [hs1]; decide) (by rw [hs1]; rfl) (by decide) ?_
        refine j_aload_n dX4_channel_70 0 rfl ?_
        refine g_X4_19 rfl dX4_channel_71 0 rfl rfl ?_
        refine j_iload_n dX4_channel_74 1 rfl ?_
        refine j_iconst (v := nI 1) dX4_channel_75 (by decide) ?_
        refine j_V (w2 := (TR D O X E F Y Z V) ++ (EW D E s)) (st2 := [.int (gC s c 1)]) (c_X0_ofChannel E s c 1 (by omega) (by omega)) rfl cw_X4_95 dX4_channel_76 [] rfl [1, 2, 3, 4, 5] rfl rfl rfl 0 ?_ ⟨rfl, ⟨Nat.le_of_ble_eq_true rfl, Nat.le_of_ble_eq_true rfl⟩, ⟨rfl, rfl⟩, ⟨Nat.le_of_ble_eq_true rfl, Nat.le_of_ble_eq_true rfl⟩, Nat.le_of_ble_eq_true rfl, rfl, rfl⟩ rfl rfl rfl
        exact j_iret dX4_channel_79 ⟨rfl, rfl⟩ ⟨by unfold chF; rw [if_pos h4, if_neg hs0, if_pos hs1, cl_nI (by omega)], rfl⟩
      · skip
        by_cases hs2 : w = nI 2
        · skip
          refine j_tableIn (off := 70) (tgt := 80) dX4_channel_10 (by rw [hs2]; decide) (by rw [hs2]; decide) (by rw [hs2]; rfl) (by decide) ?_
          refine j_aload_n dX4_channel_80 0 rfl ?_
          refine g_X4_19 rfl dX4_channel_81 0 rfl rfl ?_
          refine j_iload_n dX4_channel_84 1 rfl ?_
          refine j_iconst (v := nI 2) dX4_channel_85 (by decide) ?_
          refine j_V (w2 := (TR D O X E F Y Z V) ++ (EW D E s)) (st2 := [.int (gC s c 2)]) (c_X0_ofChannel E s c 2 (by omega) (by omega)) rfl cw_X4_95 dX4_channel_86 [] rfl [1, 2, 3, 4, 5] rfl rfl rfl 0 ?_ ⟨rfl, ⟨Nat.le_of_ble_eq_true rfl, Nat.le_of_ble_eq_true rfl⟩, ⟨rfl, rfl⟩, ⟨Nat.le_of_ble_eq_true rfl, Nat.le_of_ble_eq_true rfl⟩, Nat.le_of_ble_eq_true rfl, rfl, rfl⟩ rfl rfl rfl
          exact j_iret dX4_channel_89 ⟨rfl, rfl⟩ ⟨by unfold chF; rw [if_pos h4, if_neg hs0, if_neg hs1, if_pos hs2, cl_nI (by omega)], rfl⟩
        · skip
          by_cases hs3 : w = nI 3
          · skip
            refine j_tableIn (off := 80) (tgt := 90) dX4_channel_10 (by rw [hs3]; decide) (by rw [hs3]; decide) (by rw [hs3]; rfl) (by decide) ?_
            refine j_aload_n dX4_channel_90 0 rfl ?_
            refine g_X4_19 rfl dX4_channel_91 0 rfl rfl ?_
            refine j_iload_n dX4_channel_94 1 rfl ?_
            refine j_iconst (v := nI 3) dX4_channel_95 (by decide) ?_
            refine j_V (w2 := (TR D O X E F Y Z V) ++ (EW D E s)) (st2 := [.int (gC s c 3)]) (c_X0_ofChannel E s c 3 (by omega) (by omega)) rfl cw_X4_95 dX4_channel_96 [] rfl [1, 2, 3, 4, 5] rfl rfl rfl 0 ?_ ⟨rfl, ⟨Nat.le_of_ble_eq_true rfl, Nat.le_of_ble_eq_true rfl⟩, ⟨rfl, rfl⟩, ⟨Nat.le_of_ble_eq_true rfl, Nat.le_of_ble_eq_true rfl⟩, Nat.le_of_ble_eq_true rfl, rfl, rfl⟩ rfl rfl rfl
            exact j_iret dX4_channel_99 ⟨rfl, rfl⟩ ⟨by unfold chF; rw [if_pos h4, if_neg hs0, if_neg hs1, if_neg hs2, if_pos hs3, cl_nI (by omega)], rfl⟩
          · skip
            by_cases hs4 : w = nI 4
            · skip
              refine j_tableIn (off := 90) (tgt := 100) dX4_channel_10 (by rw [hs4]; decide) (by rw [hs4]; decide) (by rw [hs4]; rfl) (by decide) ?_
              refine j_aload_n dX4_channel_100 0 rfl ?_
              refine g_X4_19 rfl dX4_channel_101 0 rfl rfl ?_
              refine j_iload_n dX4_channel_104 1 rfl ?_
              refine j_iconst (v := nI 4) dX4_channel_105 (by decide) ?_
              refine j_V (w2 := (TR D O X E F Y Z V) ++ (EW D E s)) (st2 := [.int (gC s c 4)]) (c_X0_ofChannel E s c 4 (by omega) (by omega)) rfl cw_X4_95 dX4_channel_106 [] rfl [1, 2, 3, 4, 5] rfl rfl rfl 0 ?_ ⟨rfl, ⟨Nat.le_of_ble_eq_true rfl, Nat.le_of_ble_eq_true rfl⟩, ⟨rfl, rfl⟩, ⟨Nat.le_of_ble_eq_true rfl, Nat.le_of_ble_eq_true rfl⟩, Nat.le_of_ble_eq_true rfl, rfl, rfl⟩ rfl rfl rfl
              exact j_iret dX4_channel_109 ⟨rfl, rfl⟩ ⟨by unfold chF; rw [if_pos h4, if_neg hs0, if_neg hs1, if_neg hs2, if_neg hs3, if_pos hs4, cl_nI (by omega)], rfl⟩
            · skip
              by_cases hs5 : w = nI 5
              · skip
                refine j_tableIn (off := 100) (tgt := 110) dX4_channel_10 (by rw [hs5]; decide) (by rw [hs5]; decide) (by rw [hs5]; rfl) (by decide) ?_
                refine j_aload_n dX4_channel_110 0 rfl ?_
                refine j_iload_n dX4_channel_111 1 rfl ?_
                refine j_V (w2 := (TR D O X E F Y Z V) ++ (EW D E s)) (st2 := [.int (prR s c)]) (c_X4_presentResidue O X E F Y Z V s hI c (by omega)) rfl cw_X4_114 dX4_channel_112 [] rfl [0, 1, 2, 3, 4, 5] rfl rfl rfl 4 ?_ ⟨rfl, ⟨Nat.le_of_ble_eq_true rfl, Nat.le_of_ble_eq_true rfl⟩, ⟨rfl, rfl⟩, ⟨Nat.le_of_ble_eq_true rfl, Nat.le_of_ble_eq_true rfl⟩, Nat.le_of_ble_eq_true rfl, rfl, rfl⟩ rfl rfl rfl
                exact j_iret dX4_channel_115 ⟨rfl, rfl⟩ ⟨by unfold chF; rw [if_pos h4, if_neg hs0, if_neg hs1, if_neg hs2, if_neg hs3, if_neg hs4, if_pos hs5, cl_nI (by omega)], rfl⟩
              · skip
                by_cases hs6 : w = nI 6
                · skip
                  refine j_tableIn (off := 106) (tgt := 116) dX4_channel_10 (by rw [hs6]; decide) (by rw [hs6]; decide) (by rw [hs6]; rfl) (by decide) ?_
                  refine j_aload_n dX4_channel_116 0 rfl ?_
                  refine g_X4_19 rfl dX4_channel_117 0 rfl rfl ?_
                  refine j_iload_n dX4_channel_120 1 rfl ?_
                  refine j_iconst (v := nI 5) dX4_channel_121 (by decide) ?_
                  refine j_V (w2 := (TR D O X E F Y Z V) ++ (EW D E s)) (st2 := [.int (gC s c 5)]) (c_X0_ofChannel E s c 5 (by omega) (by omega)) rfl cw_X4_95 dX4_channel_122 [] rfl [1, 2, 3, 4, 5] rfl rfl rfl 0 ?_ ⟨rfl, ⟨Nat.le_of_ble_eq_true rfl, Nat.le_of_ble_eq_true rfl⟩, ⟨rfl, rfl⟩, ⟨Nat.le_of_ble_eq_true rfl, Nat.le_of_ble_eq_true rfl⟩, Nat.le_of_ble_eq_true rfl, rfl, rfl⟩ rfl rfl rfl
                  exact j_iret dX4_channel_125 ⟨rfl, rfl⟩ ⟨by unfold chF; rw [if_pos h4, if_neg hs0, if_neg hs1, if_neg hs2, if_neg hs3, if_neg hs4, if_neg hs5, if_pos hs6, cl_nI (by omega)], rfl⟩
                · skip
                  by_cases hs7 : w = nI 7
                  · skip
                    refine j_tableIn (off := 116) (tgt := 126) dX4_channel_10 (by rw [hs7]; decide) (by rw [hs7]; decide) (by rw [hs7]; rfl) (by decide) ?_
                    refine j_aload_n dX4_channel_126 0 rfl ?_
                    refine g_X4_19 rfl dX4_channel_127 0 rfl rfl ?_
                    refine j_iload_n dX4_channel_130 1 rfl ?_
                    refine j_bipush (v := nI 6) dX4_channel_131 (by decide) ?_
                    refine j_V (w2 := (TR D O X E F Y Z V) ++ (EW D E s)) (st2 := [.int (gC s c 6)]) (c_X0_ofChannel E s c 6 (by omega) (by omega)) rfl cw_X4_95 dX4_channel_133 [] rfl [1, 2, 3, 4, 5] rfl rfl rfl 0 ?_ ⟨rfl, ⟨Nat.le_of_ble_eq_true rfl, Nat.le_of_ble_eq_true rfl⟩, ⟨rfl, rfl⟩, ⟨Nat.le_of_ble_eq_true rfl, Nat.le_of_ble_eq_true rfl⟩, Nat.le_of_ble_eq_true rfl, rfl, rfl⟩ rfl rfl rfl
                    exact j_iret dX4_channel_136 ⟨rfl, rfl⟩ ⟨by unfold chF; rw [if_pos h4, if_neg hs0, if_neg hs1, if_neg hs2, if_neg hs3, if_neg hs4, if_neg hs5, if_neg hs6, if_pos hs7, cl_nI (by omega)], rfl⟩
                  · skip
                    by_cases hs8 : w = nI 8
                    · skip
                      refine j_tableIn (off := 127) (tgt := 137) dX4_channel_10 (by rw [hs8]; decide) (by rw [hs8]; decide) (by rw [hs8]; rfl) (by decide) ?_
                      refine j_aload_n dX4_channel_137 0 rfl ?_
                      refine g_X4_19 rfl dX4_channel_138 0 rfl rfl ?_
                      refine j_iload_n dX4_channel_141 1 rfl ?_
                      refine j_V (w2 := (TR D O X E F Y Z V) ++ (EW D E s)) (st2 := [.int (bI (rdy s c))]) (c_X0_isReady E s hI c (by omega)) rfl cw_X4_117 dX4_channel_142 [] rfl [1, 2, 3, 4, 5] rfl rfl rfl 0 ?_ ⟨rfl, ⟨Nat.le_of_ble_eq_true rfl, Nat.le_of_ble_eq_true rfl⟩, ⟨rfl, rfl⟩, ⟨Nat.le_of_ble_eq_true rfl, Nat.le_of_ble_eq_true rfl⟩, Nat.le_of_ble_eq_true rfl, rfl, rfl⟩ rfl rfl rfl
                      refine j_if_eq_B (tgt := 152) dX4_channel_145 (by decide) (fun h145 => ?_) (fun h145 => ?_)
                      · skip
                        refine j_iconst (v := nI 0) dX4_channel_152 (by decide) ?_
                        exact j_iret dX4_channel_153 ⟨rfl, rfl⟩ ⟨by unfold chF; rw [if_pos h4, if_neg hs0, if_neg hs1, if_neg hs2, if_neg hs3, if_neg hs4, if_neg hs5, if_neg hs6, if_neg hs7, if_pos hs8, cl_nI (by omega), h145]; rfl, rfl⟩
                      · skip
                        refine j_iconst (v := nI 1) dX4_channel_148 (by decide) ?_
                        refine j_goto (tgt := 153) dX4_channel_149 (by decide) ?_
                        exact j_iret dX4_channel_153 ⟨rfl, rfl⟩ ⟨by unfold chF; rw [if_pos h4, if_neg hs0, if_neg hs1, if_neg hs2, if_neg hs3, if_neg hs4, if_neg hs5, if_neg hs6, if_neg hs7, if_pos hs8, cl_nI (by omega), h145]; rfl, rfl⟩
                    · skip
                      refine j_tableOut (tgt := 154) dX4_channel_10 (ts_out0_8 hs0 hs1 hs2 hs3 hs4 hs5 hs6 hs7 hs8) (by decide) ?_
                      refine j_iconst (v := (-1)) dX4_channel_154 (by decide) ?_
                      exact j_iret dX4_channel_155 ⟨rfl, rfl⟩ ⟨by unfold chF; rw [if_pos h4, if_neg hs0, if_neg hs1, if_neg hs2, if_neg hs3, if_neg hs4, if_neg hs5, if_neg hs6, if_neg hs7, if_neg hs8], rfl⟩
  · skip
    refine j_iconst (v := (-1)) dX4_channel_7 (by decide) ?_
    exact j_iret dX4_channel_8 ⟨rfl, rfl⟩ ⟨by rw [show chF s v w = -1 from if_neg (nBool h4)], rfl⟩

set_option maxHeartbeats 4000000 in
set_option maxRecDepth 100000 in
theorem c_X4_slot (O : Nat) (X E F Y Z V : Nat → Nat) (s : SS) (v z w : Int32) : Ct D yX4_slot cX4_slot 5 (some .int) ({ frames := 3, cells := 0, slots := 0, locals := 63 } : Room) [.ref O, .int v, .int z, .int w] ((TR D O X E F Y Z V) ++ (EW D E s)) (fun v_ u_ => v_ = some (.int (slF s v z w)) ∧ u_ = (TR D O X E F Y Z V) ++ (EW D E s)) := by
  refine ct_of (by decide) (Nat.le_of_ble_eq_true rfl) (lv0 := [(0, .ref O), (1, .int v), (2, .int z), (3, .int w)]) rfl (fun Γ => ?_)
  refine j_iload_n dX4_slot_0 1 rfl ?_
  refine j_iload_n dX4_slot_1 2 rfl ?_
  refine j_S (w2 := (TR D O X E F Y Z V) ++ (EW D E s)) (st2 := [.int (bI (inR v (nI 0) (nI 3) && inR z (nI 0) (nI 5)))]) (c_X4_isSlot v z) rfl cw_X4_120 dX4_slot_2 [] rfl [] rfl rfl rfl ?_ ⟨rfl, ⟨Nat.le_of_ble_eq_true rfl, Nat.le_of_ble_eq_true rfl⟩, ⟨rfl, rfl⟩, ⟨Nat.le_of_ble_eq_true rfl, Nat.le_of_ble_eq_true rfl⟩, Nat.le_of_ble_eq_true rfl, rfl, rfl⟩
  refine j_if_eq_B (tgt := 17) dX4_slot_5 (by decide) (fun h5 => ?_) (fun h5 => ?_)
  · skip
    refine j_iconst (v := (-1)) dX4_slot_17 (by decide) ?_
    exact j_iret dX4_slot_18 ⟨rfl, rfl⟩ ⟨by rw [show slF s v z w = -1 from if_neg (fun q => nBool h5 q.1)], rfl⟩
  · skip
    have hs_ := h5
    refine j_iload_n dX4_slot_8 3 rfl ?_
    refine j_iconst (v := nI 0) dX4_slot_9 (by decide) ?_
    refine j_iconst (v := nI 5) dX4_slot_10 (by decide) ?_
    refine j_S (w2 := (TR D O X E F Y Z V) ++ (EW D E s)) (st2 := [.int (bI (inR w (nI 0) (nI 5)))]) (c_X4_within w (nI 0) (nI 5)) rfl cw_X4_48 dX4_slot_11 [] rfl [] rfl rfl rfl ?_ ⟨rfl, ⟨Nat.le_of_ble_eq_true rfl, Nat.le_of_ble_eq_true rfl⟩, ⟨rfl, rfl⟩, ⟨Nat.le_of_ble_eq_true rfl, Nat.le_of_ble_eq_true rfl⟩, Nat.le_of_ble_eq_true rfl, rfl, rfl⟩
    refine j_if_ne_B (tgt := 19) dX4_slot_14 (by decide) (fun h14 => ?_) (fun h14 => ?_)
    · skip
      obtain ⟨hv1, hv2⟩ := (Bool.and_eq_true _ _).mp h5
      obtain ⟨c, hc1, hc2, rfl⟩ := inR_nat (by decide) (by decide) hv1
      obtain ⟨d, hd1, hd2, rfl⟩ := inR_nat (by decide) (by decide) hv2
      refine j_iload_n dX4_slot_19 1 rfl ?_
      refine j_iload_n dX4_slot_20 2 rfl ?_
      refine j_S (w2 := (TR D O X E F Y Z V) ++ (EW D E s)) (st2 := [.int (nI (c * 6 + d))]) (c_X0_placeOf c d) rfl cw_X4_124 dX4_slot_21 [] rfl [] rfl rfl rfl ?_ ⟨rfl, ⟨Nat.le_of_ble_eq_true rfl, Nat.le_of_ble_eq_true rfl⟩, ⟨rfl, rfl⟩, ⟨Nat.le_of_ble_eq_true rfl, Nat.le_of_ble_eq_true rfl⟩, Nat.le_of_ble_eq_true rfl, rfl, rfl⟩
      refine j_istore (lv2 := [(0, .ref O), (1, .int (nI c)), (2, .int (nI d)), (3, .int w), (4, .int (nI (c * 6 + d)))]) dX4_slot_24 (by decide) [1, 2, 3, 4, 0] rfl ?_
      refine j_aload_n dX4_slot_26 0 rfl ?_
      refine g_X4_19 rfl dX4_slot_27 0 rfl rfl ?_
      refine j_iload dX4_slot_30 4 rfl ?_
      refine j_V (w2 := (TR D O X E F Y Z V) ++ (EW D E s)) (st2 := [.int (bI (has s (c * 6 + d)))]) (c_X0_hasLetter E s (c * 6 + d) (by omega)) rfl cw_X4_127 dX4_slot_32 [] rfl [1, 2, 3, 4, 5] rfl rfl rfl 0 ?_ ⟨rfl, ⟨Nat.le_of_ble_eq_true rfl, Nat.le_of_ble_eq_true rfl⟩, ⟨rfl, rfl⟩, ⟨Nat.le_of_ble_eq_true rfl, Nat.le_of_ble_eq_true rfl⟩, Nat.le_of_ble_eq_true rfl, rfl, rfl⟩ rfl rfl rfl
      refine j_if_ne_B (tgt := 41) dX4_slot_35 (by decide) (fun h35 => ?_) (fun h35 => ?_)
      · skip
        refine j_iload_n dX4_slot_41 3 rfl ?_
        by_cases hs0 : w = nI 0
        · skip
          refine j_tableIn (off := 34) (tgt := 76) dX4_slot_42 (by rw [hs0]; decide) (by rw [hs0]; decide) (by rw [hs0]; rfl) (by decide) ?_
          refine j_aload_n dX4_slot_76 0 rfl ?_
          refine g_X4_19 rfl dX4_slot_77 0 rfl rfl ?_
          refine j_iload dX4_slot_80 4 rfl ?_
          refine j_bipush (v := nI 9) dX4_slot_82 (by decide) ?_
          refine j_V (w2 := (TR D O X E F Y Z V) ++ (EW D E s)) (st2 := [.int (gL s (c * 6 + d) 9)]) (c_X0_ofLetter E s (c * 6 + d) 9 (by omega) (by omega)) rfl cw_X4_130 dX4_slot_84 [] rfl [1, 2, 3, 4, 5] rfl rfl rfl 0 ?_ ⟨rfl, ⟨Nat.le_of_ble_eq_true rfl, Nat.le_of_ble_eq_true rfl⟩, ⟨rfl, rfl⟩, ⟨Nat.le_of_ble_eq_true rfl, Nat.le_of_ble_eq_true rfl⟩, Nat.le_of_ble_eq_true rfl, rfl, rfl⟩ rfl rfl rfl
          exact j_iret dX4_slot_87 ⟨rfl, rfl⟩ ⟨by unfold slF; rw [if_pos ⟨hs_, h14⟩, cl_nI (show c < 2 ^ 31 by omega), cl_nI (show d < 2 ^ 31 by omega), if_pos h35, if_pos hs0], rfl⟩
        · skip
          by_cases hs1 : w = nI 1
          · skip
            refine j_tableIn (off := 46) (tgt := 88) dX4_slot_42 (by rw [hs1]; decide) (by rw [hs1]; decide) (by rw [hs1]; rfl) (by decide) ?_
            refine j_aload_n dX4_slot_88 0 rfl ?_
            refine g_X4_19 rfl dX4_slot_89 0 rfl rfl ?_
            refine j_iload dX4_slot_92 4 rfl ?_
            refine j_bipush (v := nI 10) dX4_slot_94 (by decide) ?_
            refine j_V (w2 := (TR D O X E F Y Z V) ++ (EW D E s)) (st2 := [.int (gL s (c * 6 + d) 10)]) (c_X0_ofLetter E s (c * 6 + d) 10 (by omega) (by omega)) rfl cw_X4_130 dX4_slot_96 [] rfl [1, 2, 3, 4, 5] rfl rfl rfl 0 ?_ ⟨rfl, ⟨Nat.le_of_ble_eq_true rfl, Nat.le_of_ble_eq_true rfl⟩, ⟨rfl, rfl⟩, ⟨Nat.le_of_ble_eq_true rfl, Nat.le_of_ble_eq_true rfl⟩, Nat.le_of_ble_eq_true rfl, rfl, rfl⟩ rfl rfl rfl
            exact j_iret dX4_slot_99 ⟨rfl, rfl⟩ ⟨by unfold slF; rw [if_pos ⟨hs_, h14⟩, cl_nI (show c < 2 ^ 31 by omega), cl_nI (show d < 2 ^ 31 by omega), if_pos h35, if_neg hs0, if_pos hs1], rfl⟩
          · skip
            by_cases hs2 : w = nI 2
            · skip
              refine j_tableIn (off := 58) (tgt := 100) dX4_slot_42 (by rw [hs2]; decide) (by rw [hs2]; decide) (by rw [hs2]; rfl) (by decide) ?_
              refine j_aload_n dX4_slot_100 0 rfl ?_
              refine g_X4_19 rfl dX4_slot_101 0 rfl rfl ?_
              refine j_iload dX4_slot_104 4 rfl ?_
              refine j_bipush (v := nI 11) dX4_slot_106 (by decide) ?_
              refine j_V (w2 := (TR D O X E F Y Z V) ++ (EW D E s)) (st2 := [.int (gL s (c * 6 + d) 11)]) (c_X0_ofLetter E s (c * 6 + d) 11 (by omega) (by omega)) rfl cw_X4_130 dX4_slot_108 [] rfl [1, 2, 3, 4, 5] rfl rfl rfl 0 ?_ ⟨rfl, ⟨Nat.le_of_ble_eq_true rfl, Nat.le_of_ble_eq_true rfl⟩, ⟨rfl, rfl⟩, ⟨Nat.le_of_ble_eq_true rfl, Nat.le_of_ble_eq_true rfl⟩, Nat.le_of_ble_eq_true rfl, rfl, rfl⟩ rfl rfl rfl
              exact j_iret dX4_slot_111 ⟨rfl, rfl⟩ ⟨by unfold slF; rw [if_pos ⟨hs_, h14⟩, cl_nI (show c < 2 ^ 31 by omega), cl_nI (show d < 2 ^ 31 by omega), if_pos h35, if_neg hs0, if_neg hs1, if_pos hs2], rfl⟩
            · skip
              by_cases hs3 : w = nI 3
              · skip
                refine j_tableIn (off := 70) (tgt := 112) dX4_slot_42 (by rw [hs3]; decide) (by rw [hs3]; decide) (by rw [hs3]; rfl) (by decide) ?_
                refine j_aload_n dX4_slot_112 0 rfl ?_
                refine g_X4_19 rfl dX4_slot_113 0 rfl rfl ?_
                refine j_iload dX4_slot_116 4 rfl ?_
                refine j_V (w2 := (TR D O X E F Y Z V) ++ (EW D E s)) (st2 := [.int (gL s (c * 6 + d) 2 * gL s (c * 6 + d) 5)]) (c_X0_unitsOf E s (c * 6 + d) (by omega)) rfl cw_X4_133 dX4_slot_118 [] rfl [1, 2, 3, 4, 5] rfl rfl rfl 0 ?_ ⟨rfl, ⟨Nat.le_of_ble_eq_true rfl, Nat.le_of_ble_eq_true rfl⟩, ⟨rfl, rfl⟩, ⟨Nat.le_of_ble_eq_true rfl, Nat.le_of_ble_eq_true rfl⟩, Nat.le_of_ble_eq_true rfl, rfl, rfl⟩ rfl rfl rfl
                exact j_iret dX4_slot_121 ⟨rfl, rfl⟩ ⟨by unfold slF; rw [if_pos ⟨hs_, h14⟩, cl_nI (show c < 2 ^ 31 by omega), cl_nI (show d < 2 ^ 31 by omega), if_pos h35, if_neg hs0, if_neg hs1, if_neg hs2, if_pos hs3], rfl⟩
              · skip
                by_cases hs4 : w = nI 4
                · skip
                  refine j_tableIn (off := 80) (tgt := 122) dX4_slot_42 (by rw [hs4]; decide) (by rw [hs4]; decide) (by rw [hs4]; rfl) (by decide) ?_
                  refine j_aload_n dX4_slot_122 0 rfl ?_
                  refine g_X4_19 rfl dX4_slot_123 0 rfl rfl ?_
                  refine j_iload dX4_slot_126 4 rfl ?_
                  refine j_bipush (v := nI 8) dX4_slot_128 (by decide) ?_
                  refine j_V (w2 := (TR D O X E F Y Z V) ++ (EW D E s)) (st2 := [.int (gL s (c * 6 + d) 8)]) (c_X0_ofLetter E s (c * 6 + d) 8 (by omega) (by omega)) rfl cw_X4_130 dX4_slot_130 [] rfl [1, 2, 3, 4, 5] rfl rfl rfl 0 ?_ ⟨rfl, ⟨Nat.le_of_ble_eq_true rfl, Nat.le_of_ble_eq_true rfl⟩, ⟨rfl, rfl⟩, ⟨Nat.le_of_ble_eq_true rfl, Nat.le_of_ble_eq_true rfl⟩, Nat.le_of_ble_eq_true rfl, rfl, rfl⟩ rfl rfl rfl
                  exact j_iret dX4_slot_133 ⟨rfl, rfl⟩ ⟨by unfold slF; rw [if_pos ⟨hs_, h14⟩, cl_nI (show c < 2 ^ 31 by omega), cl_nI (show d < 2 ^ 31 by omega), if_pos h35, if_neg hs0, if_neg hs1, if_neg hs2, if_neg hs3, if_pos hs4], rfl⟩
                · skip
                  refine j_tableOut (tgt := 134) dX4_slot_42 (ts_out0_4 hs0 hs1 hs2 hs3 hs4) (by decide) ?_
                  refine j_aload_n dX4_slot_134 0 rfl ?_
                  refine g_X4_19 rfl dX4_slot_135 0 rfl rfl ?_
                  refine j_iload dX4_slot_138 4 rfl ?_
                  refine j_bipush (v := nI 12) dX4_slot_140 (by decide) ?_
                  refine j_V (w2 := (TR D O X E F Y Z V) ++ (EW D E s)) (st2 := [.int (gL s (c * 6 + d) 12)]) (c_X0_ofLetter E s (c * 6 + d) 12 (by omega) (by omega)) rfl cw_X4_130 dX4_slot_142 [] rfl [1, 2, 3, 4, 5] rfl rfl rfl 0 ?_ ⟨rfl, ⟨Nat.le_of_ble_eq_true rfl, Nat.le_of_ble_eq_true rfl⟩, ⟨rfl, rfl⟩, ⟨Nat.le_of_ble_eq_true rfl, Nat.le_of_ble_eq_true rfl⟩, Nat.le_of_ble_eq_true rfl, rfl, rfl⟩ rfl rfl rfl
                  exact j_iret dX4_slot_145 ⟨rfl, rfl⟩ ⟨by unfold slF; rw [if_pos ⟨hs_, h14⟩, cl_nI (show c < 2 ^ 31 by omega), cl_nI (show d < 2 ^ 31 by omega), if_pos h35, if_neg hs0, if_neg hs1, if_neg hs2, if_neg hs3, if_neg hs4], rfl⟩
      · skip
        refine j_bipush (v := (-9)) dX4_slot_38 (by decide) ?_
        exact j_iret dX4_slot_40 ⟨rfl, rfl⟩ ⟨by unfold slF; rw [if_pos ⟨hs_, h14⟩, cl_nI (show c < 2 ^ 31 by omega), cl_nI (show d < 2 ^ 31 by omega), if_neg (nBool h35)], rfl⟩
    · skip
      refine j_iconst (v := (-1)) dX4_slot_17 (by decide) ?_
      exact j_iret dX4_slot_18 ⟨rfl, rfl⟩ ⟨by rw [show slF s v z w = -1 from if_neg (fun q => nBool h14 q.2)], rfl⟩

set_option maxHeartbeats 4000000 in
set_option maxRecDepth 100000 in
theorem c_X4_unit (O : Nat) (X E F Y Z V : Nat → Nat) (s : SS) (hI : Inv s) (v z k w : Int32) : Ct D yX4_unit cX4_unit 6 (some .int) ({ frames := 3, cells := 0, slots := 0, locals := 63 } : Room) [.ref O, .int v, .int z, .int k, .int w] ((TR D O X E F Y Z V) ++ (EW D E s)) (fun v_ u_ => v_ = some (.int (uiF s v z k w)) ∧ u_ = (TR D O X E F Y Z V) ++ (EW D E s)) := by
  refine ct_of (by decide) (Nat.le_of_ble_eq_true rfl) (lv0 := [(0, .ref O), (1, .int v), (2, .int z), (3, .int k), (4, .int w)]) rfl (fun Γ => ?_)
  refine j_iload_n dX4_unit_0 1 rfl ?_
  refine j_iload_n dX4_unit_1 2 rfl ?_
  refine j_S (w2 := (TR D O X E F Y Z V) ++ (EW D E s)) (st2 := [.int (bI (inR v (nI 0) (nI 3) && inR z (nI 0) (nI 5)))]) (c_X4_isSlot v z) rfl cw_X4_120 dX4_unit_2 [] rfl [] rfl rfl rfl ?_ ⟨rfl, ⟨Nat.le_of_ble_eq_true rfl, Nat.le_of_ble_eq_true rfl⟩, ⟨rfl, rfl⟩, ⟨Nat.le_of_ble_eq_true rfl, Nat.le_of_ble_eq_true rfl⟩, Nat.le_of_ble_eq_true rfl, rfl, rfl⟩
  refine j_if_eq_B (tgt := 22) dX4_unit_5 (by decide) (fun h5 => ?_) (fun h5 => ?_)
  · skip
    refine j_iconst (v := (-1)) dX4_unit_22 (by decide) ?_
    exact j_iret dX4_unit_23 ⟨rfl, rfl⟩ ⟨by rw [show uiF s v z k w = -1 from if_neg (fun q => nBool h5 q.1)], rfl⟩
  · skip
    have hs_ := h5
    refine j_iload_n dX4_unit_8 3 rfl ?_
    refine j_if_lt (tgt := 22) dX4_unit_9 (by decide) (fun h9 => ?_) (fun h9 => ?_)
    · skip
      refine j_iconst (v := (-1)) dX4_unit_22 (by decide) ?_
      exact j_iret dX4_unit_23 ⟨rfl, rfl⟩ ⟨by rw [show uiF s v z k w = -1 from if_neg (fun q => q.2.1 h9)], rfl⟩
    · skip
      refine j_iload dX4_unit_12 4 rfl ?_
      refine j_iconst (v := nI 0) dX4_unit_14 (by decide) ?_
      refine j_iconst (v := nI 1) dX4_unit_15 (by decide) ?_
      refine j_S (w2 := (TR D O X E F Y Z V) ++ (EW D E s)) (st2 := [.int (bI (inR w (nI 0) (nI 1)))]) (c_X4_within w (nI 0) (nI 1)) rfl cw_X4_48 dX4_unit_16 [] rfl [] rfl rfl rfl ?_ ⟨rfl, ⟨Nat.le_of_ble_eq_true rfl, Nat.le_of_ble_eq_true rfl⟩, ⟨rfl, rfl⟩, ⟨Nat.le_of_ble_eq_true rfl, Nat.le_of_ble_eq_true rfl⟩, Nat.le_of_ble_eq_true rfl, rfl, rfl⟩
      refine j_if_ne_B (tgt := 24) dX4_unit_19 (by decide) (fun h19 => ?_) (fun h19 => ?_)
      · skip
        obtain ⟨hv1, hv2⟩ := (Bool.and_eq_true _ _).mp h5
        obtain ⟨c, hc1, hc2, rfl⟩ := inR_nat (by decide) (by decide) hv1
        obtain ⟨d, hd1, hd2, rfl⟩ := inR_nat (by decide) (by decide) hv2
        obtain ⟨e, he1, he2, rfl⟩ := inR_nat (by decide) (by decide) h19
        obtain ⟨j, hj1, rfl⟩ := nI_of h9
        refine j_iload_n dX4_unit_24 1 rfl ?_
        refine j_iload_n dX4_unit_25 2 rfl ?_
        refine j_S (w2 := (TR D O X E F Y Z V) ++ (EW D E s)) (st2 := [.int (nI (c * 6 + d))]) (c_X0_placeOf c d) rfl cw_X4_124 dX4_unit_26 [] rfl [] rfl rfl rfl ?_ ⟨rfl, ⟨Nat.le_of_ble_eq_true rfl, Nat.le_of_ble_eq_true rfl⟩, ⟨rfl, rfl⟩, ⟨Nat.le_of_ble_eq_true rfl, Nat.le_of_ble_eq_true rfl⟩, Nat.le_of_ble_eq_true rfl, rfl, rfl⟩
        refine j_istore (lv2 := [(0, .ref O), (1, .int (nI c)), (2, .int (nI d)), (3, .int (nI j)), (4, .int (nI e)), (5, .int (nI (c * 6 + d)))]) dX4_unit_29 (by decide) [1, 2, 3, 4, 5, 0] rfl ?_
        refine j_aload_n dX4_unit_31 0 rfl ?_
        refine g_X4_19 rfl dX4_unit_32 0 rfl rfl ?_
        refine j_iload dX4_unit_35 5 rfl ?_
        refine j_V (w2 := (TR D O X E F Y Z V) ++ (EW D E s)) (st2 := [.int (bI (has s (c * 6 + d)))]) (c_X0_hasLetter E s (c * 6 + d) (by omega)) rfl cw_X4_127 dX4_unit_37 [] rfl [1, 2, 3, 4, 5] rfl rfl rfl 0 ?_ ⟨rfl, ⟨Nat.le_of_ble_eq_true rfl, Nat.le_of_ble_eq_true rfl⟩, ⟨rfl, rfl⟩, ⟨Nat.le_of_ble_eq_true rfl, Nat.le_of_ble_eq_true rfl⟩, Nat.le_of_ble_eq_true rfl, rfl, rfl⟩ rfl rfl rfl
        refine j_if_eq_B (tgt := 56) dX4_unit_40 (by decide) (fun h40 => ?_) (fun h40 => ?_)
        · skip
          refine j_bipush (v := (-9)) dX4_unit_56 (by decide) ?_
          exact j_iret dX4_unit_58 ⟨rfl, rfl⟩ ⟨by unfold uiF; rw [if_pos ⟨hs_, h9, h19⟩, cl_nI (show c < 2 ^ 31 by omega), cl_nI (show d < 2 ^ 31 by omega), if_neg (fun q => nBool h40 q.1)], rfl⟩
        · skip
          have hpd : c * 6 + d < 24 := by omega
          have hhas := (hI.hs hpd).mp h40
          have hle := hI.le hpd hhas
          have hun := un_lt hle.2.1.2.2 hle.2.2.1.2.2
          obtain ⟨hn, h1, h2⟩ := hle.2.1
          refine j_iload_n dX4_unit_43 3 rfl ?_
          refine j_aload_n dX4_unit_44 0 rfl ?_
          refine g_X4_19 rfl dX4_unit_45 0 rfl rfl ?_
          refine j_iload dX4_unit_48 5 rfl ?_
          refine j_V (w2 := (TR D O X E F Y Z V) ++ (EW D E s)) (st2 := [.int (gL s (c * 6 + d) 2 * gL s (c * 6 + d) 5), .int (nI j)]) (c_X0_unitsOf E s (c * 6 + d) (by omega)) rfl cw_X4_133 dX4_unit_50 [.int (nI j)] rfl [1, 2, 3, 4, 5] rfl rfl rfl 0 ?_ ⟨rfl, ⟨Nat.le_of_ble_eq_true rfl, Nat.le_of_ble_eq_true rfl⟩, ⟨rfl, rfl⟩, ⟨Nat.le_of_ble_eq_true rfl, Nat.le_of_ble_eq_true rfl⟩, Nat.le_of_ble_eq_true rfl, rfl, rfl⟩ rfl rfl rfl
          refine j_topi (v := nI (un s (c * 6 + d))) (by rw [hn, hle.2.2.1.1, pk_mul]; rfl) ?_
          refine j_icmp_lt_N (tgt := 59) dX4_unit_53 (by decide) ⟨by omega, by omega⟩ (fun h53 => ?_) (fun h53 => ?_)
          · skip
            refine j_aload_n dX4_unit_59 0 rfl ?_
            refine g_X4_19 rfl dX4_unit_60 0 rfl rfl ?_
            refine j_iload dX4_unit_63 5 rfl ?_
            refine j_iload_n dX4_unit_65 3 rfl ?_
            refine j_iload dX4_unit_66 4 rfl ?_
            refine j_V (w2 := (TR D O X E F Y Z V) ++ (EW D E s)) (st2 := [.int (nI (ad s (c * 6 + d) j e))]) (c_X0_addressOf E s (c * 6 + d) j e (by omega) hn (by omega) (by omega) (by omega) (by omega)) rfl cw_X4_136 dX4_unit_68 [] rfl [1, 2, 3, 4, 5] rfl rfl rfl 0 ?_ ⟨rfl, ⟨Nat.le_of_ble_eq_true rfl, Nat.le_of_ble_eq_true rfl⟩, ⟨rfl, rfl⟩, ⟨Nat.le_of_ble_eq_true rfl, Nat.le_of_ble_eq_true rfl⟩, Nat.le_of_ble_eq_true rfl, rfl, rfl⟩ rfl rfl rfl
            exact j_iret dX4_unit_71 ⟨rfl, rfl⟩ ⟨by unfold uiF; rw [if_pos ⟨hs_, h9, h19⟩, cl_nI (show c < 2 ^ 31 by omega), cl_nI (show d < 2 ^ 31 by omega), if_pos ⟨h40, (nI_ltI (by omega) (by omega)).mpr h53⟩, cl_nI (by omega), cl_nI (by omega)], rfl⟩
          · skip
            refine j_bipush (v := (-9)) dX4_unit_56 (by decide) ?_
            exact j_iret dX4_unit_58 ⟨rfl, rfl⟩ ⟨by unfold uiF; rw [if_pos ⟨hs_, h9, h19⟩, cl_nI (show c < 2 ^ 31 by omega), cl_nI (show d < 2 ^ 31 by omega), if_neg (fun q => h53 ((nI_ltI (by omega) (by omega)).mp q.2))], rfl⟩
      · skip
        refine j_iconst (v := (-1)) dX4_unit_22 (by decide) ?_
        exact j_iret dX4_unit_23 ⟨rfl, rfl⟩ ⟨by rw [show uiF s v z k w = -1 from if_neg (fun q => nBool h19 q.2.2)], rfl⟩

set_option maxHeartbeats 4000000 in
set_option maxRecDepth 100000 in
theorem c_X4_waiting (O : Nat) (X E F Y Z V : Nat → Nat) (s : SS) (hI : Inv s) (i : Int32) : Ct D yX4_waiting cX4_waiting 3 (some .int) ({ frames := 0, cells := 0, slots := 0, locals := 0 } : Room) [.ref O, .int i] ((TR D O X E F Y Z V) ++ (EW D E s)) (fun v_ u_ => v_ = some (.int (waA s i)) ∧ u_ = (TR D O X E F Y Z V) ++ (EW D E s)) := by
  refine ct_of (by decide) (Nat.le_of_ble_eq_true rfl) (lv0 := [(0, .ref O), (1, .int i)]) rfl (fun Γ => ?_)
  refine j_iload_n dX4_waiting_0 1 rfl ?_
  refine j_if_ge (tgt := 6) dX4_waiting_1 (by decide) (fun h1 => ?_) (fun h1 => ?_)
  · skip
    refine j_iload_n dX4_waiting_6 1 rfl ?_
    refine j_aload_n dX4_waiting_7 0 rfl ?_
    refine g_X4_19 rfl dX4_waiting_8 0 rfl rfl ?_
    refine g_X4_140 rfl dX4_waiting_11 1 rfl rfl ?_
    refine j_icmp_lt (tgt := 20) dX4_waiting_14 (by decide) (fun h14 => ?_) (fun h14 => ?_)
    · skip
      have hq : ¬ s 428 = 0 := fun e => by rw [e] at h14; exact absurd h14 (Int32.not_lt.mpr h1)
      have hqu := hI.qu_ hq
      have hq3 := hqu.2.2
      have hi0 : i = nI 0 := by
        obtain ⟨j, hj1, rfl⟩ := nI_of (Int32.not_lt.mpr h1)
        rw [hqu.1] at h14
        have := (nI_ltI (b := 1) hj1 (by decide)).mp h14
        rw [show j = 0 by omega]
      subst hi0
      refine j_aload_n dX4_waiting_20 0 rfl ?_
      refine g_X4_19 rfl dX4_waiting_21 0 rfl rfl ?_
      refine g_X4_143 rfl dX4_waiting_24 1 rfl rfl ?_
      refine j_iload_n dX4_waiting_27 1 rfl ?_
      refine j_iald (v := nI (qu s)) dX4_waiting_28 5 0 rfl (rfl) (by omega) (Nat.le_of_ble_eq_true rfl) (Eq.trans (vQ_at (by decide)) hqu.2.1) ?_
      refine j_istore_n (lv2 := [(0, .ref O), (1, .int (nI 0)), (2, .int (nI (qu s)))]) dX4_waiting_29 (by decide) [1, 2, 0] rfl ?_
      refine j_bipush (v := nI 8) dX4_waiting_30 (by decide) ?_
      refine j_iload_n dX4_waiting_32 2 rfl ?_
      refine j_bipush (v := nI 6) dX4_waiting_33 (by decide) ?_
      refine j_idiv (v := nI ((qu s) / 6)) dX4_waiting_35 (by decide) (pk_div (by omega) (by omega) (by omega)) ?_
      refine j_imul (v := nI (8 * ((qu s) / 6))) dX4_waiting_36 (pk_mul _ _) ?_
      refine j_iload_n dX4_waiting_37 2 rfl ?_
      refine j_bipush (v := nI 6) dX4_waiting_38 (by decide) ?_
      refine j_irem (v := nI ((qu s) % 6)) dX4_waiting_40 (by decide) (pk_rem (by omega) (by omega) (by omega)) ?_
      refine j_iadd (v := nI ((8 * ((qu s) / 6)) + ((qu s) % 6))) dX4_waiting_41 (nI_add _ _) ?_
      exact j_iret dX4_waiting_42 ⟨rfl, rfl⟩ ⟨by unfold waA; rw [if_neg (Int32.not_lt.mpr h1), if_pos h14], rfl⟩
    · skip
      refine j_bipush (v := (-9)) dX4_waiting_17 (by decide) ?_
      exact j_iret dX4_waiting_19 ⟨rfl, rfl⟩ ⟨by unfold waA; rw [if_neg (Int32.not_lt.mpr h1), if_neg h14], rfl⟩
  · skip
    refine j_iconst (v := (-1)) dX4_waiting_4 (by decide) ?_
    exact j_iret dX4_waiting_5 ⟨rfl, rfl⟩ ⟨by unfold waA; rw [if_pos (Int32.not_le.mp h1)], rfl⟩

set_option maxHeartbeats 4000000 in
set_option maxRecDepth 100000 in
theorem c_X4_lands (O : Nat) (X E F Y Z V : Nat → Nat) (s : SS) (hI : Inv s) (v : Int32) : Ct D yX4_lands cX4_lands 2 (some .int) ({ frames := 4, cells := 0, slots := 0, locals := 97 } : Room) [.ref O, .int v] ((TR D O X E F Y Z V) ++ (EW D E s)) (fun v_ u_ => v_ = some (.int (lnF s v)) ∧ u_ = (TR D O X E F Y Z V) ++ (EW D E s)) := by
  refine ct_of (by decide) (Nat.le_of_ble_eq_true rfl) (lv0 := [(0, .ref O), (1, .int v)]) rfl (fun Γ => ?_)
  refine j_iload_n dX4_lands_0 1 rfl ?_
  refine j_iconst (v := nI 0) dX4_lands_1 (by decide) ?_
  refine j_bipush (v := nI 63) dX4_lands_2 (by decide) ?_
  refine j_S (w2 := (TR D O X E F Y Z V) ++ (EW D E s)) (st2 := [.int (bI (inR v (nI 0) (nI 63)))]) (c_X4_within v (nI 0) (nI 63)) rfl cw_X4_48 dX4_lands_4 [] rfl [] rfl rfl rfl ?_ ⟨rfl, ⟨Nat.le_of_ble_eq_true rfl, Nat.le_of_ble_eq_true rfl⟩, ⟨rfl, rfl⟩, ⟨Nat.le_of_ble_eq_true rfl, Nat.le_of_ble_eq_true rfl⟩, Nat.le_of_ble_eq_true rfl, rfl, rfl⟩
  refine j_if_eq_B (tgt := 21) dX4_lands_7 (by decide) (fun h7 => ?_) (fun h7 => ?_)
  · skip
    refine j_iconst (v := (-1)) dX4_lands_21 (by decide) ?_
    exact j_iret dX4_lands_22 ⟨rfl, rfl⟩ ⟨by rw [show lnF s v = -1 from if_neg (nBool h7)], rfl⟩
  · skip
    obtain ⟨c, hc1, hc2, rfl⟩ := inR_nat (by decide) (by decide) h7
    refine j_aload_n dX4_lands_10 0 rfl ?_
    refine g_X4_19 rfl dX4_lands_11 0 rfl rfl ?_
    refine j_iload_n dX4_lands_14 1 rfl ?_
    refine j_V (w2 := (TR D O X E F Y Z V) ++ (EW D E s)) (st2 := [.int (nI (lnd s c 24))]) (c_X0_unitsBoundFor E s hI c (by omega)) rfl cw_X4_159 dX4_lands_15 [] rfl [1, 2, 3, 4, 5] rfl rfl rfl 0 ?_ ⟨rfl, ⟨Nat.le_of_ble_eq_true rfl, Nat.le_of_ble_eq_true rfl⟩, ⟨rfl, rfl⟩, ⟨Nat.le_of_ble_eq_true rfl, Nat.le_of_ble_eq_true rfl⟩, Nat.le_of_ble_eq_true rfl, rfl, rfl⟩ rfl rfl rfl
    refine j_goto (tgt := 22) dX4_lands_18 (by decide) ?_
    exact j_iret dX4_lands_22 ⟨rfl, rfl⟩ ⟨by rw [show lnF s (nI c) = nI (lnd s c 24) from by unfold lnF; rw [if_pos h7, cl_nI (by omega)]], rfl⟩

set_option maxHeartbeats 4000000 in
set_option maxRecDepth 100000 in
theorem c_X4_type_bad (O : Nat) (X E F Y Z V : Nat → Nat) (sg kd nu : SS) (k n ic : Nat) (v : Int32) (hb : inR v (nI 0) (nI 255) = false) : Ct D yX4_type cX4_type 2 (some .int) ({ frames := 1, cells := 0, slots := 0, locals := 22 } : Room) [.ref O, .int v] ((TR D O X E F Y Z V) ++ (TW D X sg kd nu k n ic)) (fun v_ u_ => v_ = some (.int (-1)) ∧ u_ = (TR D O X E F Y Z V) ++ (TW D X sg kd nu k n ic)) := by
  refine ct_of (by decide) (Nat.le_of_ble_eq_true rfl) (lv0 := [(0, .ref O), (1, .int v)]) rfl (fun Γ => ?_)
  refine j_iload_n dX4_type_0 1 rfl ?_
  refine j_iconst (v := nI 0) dX4_type_1 (by decide) ?_
  refine j_sipush (v := nI 255) dX4_type_2 (by decide) ?_
  refine j_S (w2 := (TR D O X E F Y Z V) ++ (TW D X sg kd nu k n ic)) (st2 := [.int (bI (inR v (nI 0) (nI 255)))]) (c_X4_within v (nI 0) (nI 255)) rfl cw_X4_48 dX4_type_5 [] rfl [] rfl rfl rfl ?_ ⟨rfl, ⟨Nat.le_of_ble_eq_true rfl, Nat.le_of_ble_eq_true rfl⟩, ⟨rfl, rfl⟩, ⟨Nat.le_of_ble_eq_true rfl, Nat.le_of_ble_eq_true rfl⟩, Nat.le_of_ble_eq_true rfl, rfl, rfl⟩
  refine j_if_ne_B (tgt := 13) dX4_type_8 (by decide) (fun h8 => absurd (hb.symm.trans h8) (by decide)) (fun h8 => ?_)
  refine j_iconst (v := (-1)) dX4_type_11 (by decide) ?_
  exact j_iret dX4_type_12 ⟨rfl, rfl⟩ ⟨rfl, rfl⟩

set_option maxHeartbeats 4000000 in
set_option maxRecDepth 100000 in
theorem c_X4_type_full (O : Nat) (X E F Y Z V : Nat → Nat) (sg kd nu : SS) (k n ic : Nat) (v : Int32) (hb : inR v (nI 0) (nI 255) = true) (hn : n = 120) : Ct D yX4_type cX4_type 2 (some .int) ({ frames := 1, cells := 0, slots := 0, locals := 22 } : Room) [.ref O, .int v] ((TR D O X E F Y Z V) ++ (TW D X sg kd nu k n ic)) (fun v_ u_ => v_ = some (.int (-3)) ∧ u_ = (TR D O X E F Y Z V) ++ (TW D X sg kd nu k n ic)) := by
  refine ct_of (by decide) (Nat.le_of_ble_eq_true rfl) (lv0 := [(0, .ref O), (1, .int v)]) rfl (fun Γ => ?_)
  refine j_iload_n dX4_type_0 1 rfl ?_
  refine j_iconst (v := nI 0) dX4_type_1 (by decide) ?_
  refine j_sipush (v := nI 255) dX4_type_2 (by decide) ?_
  refine j_S (w2 := (TR D O X E F Y Z V) ++ (TW D X sg kd nu k n ic)) (st2 := [.int (bI (inR v (nI 0) (nI 255)))]) (c_X4_within v (nI 0) (nI 255)) rfl cw_X4_48 dX4_type_5 [] rfl [] rfl rfl rfl ?_ ⟨rfl, ⟨Nat.le_of_ble_eq_true rfl, Nat.le_of_ble_eq_true rfl⟩, ⟨rfl, rfl⟩, ⟨Nat.le_of_ble_eq_true rfl, Nat.le_of_ble_eq_true rfl⟩, Nat.le_of_ble_eq_true rfl, rfl, rfl⟩
  refine j_if_ne_B (tgt := 13) dX4_type_8 (by decide) (fun h8 => ?_) (fun h8 => absurd (hb.symm.trans h8) (by decide))
  refine j_aload_n dX4_type_13 0 rfl ?_
  refine g_X4_10 rfl dX4_type_14 0 rfl rfl ?_
  refine j_iload_n dX4_type_17 1 rfl ?_
  refine j_V (w2 := (TR D O X E F Y Z V) ++ (TW D X sg kd nu k n ic)) (st2 := [.int (bI false)]) (c_X3_append_full X sg kd nu k n ic v (by omega)) rfl cw_X4_52 dX4_type_18 [] rfl [1, 2, 3, 4] rfl rfl rfl 3 ?_ ⟨rfl, ⟨Nat.le_of_ble_eq_true rfl, Nat.le_of_ble_eq_true rfl⟩, ⟨rfl, rfl⟩, ⟨Nat.le_of_ble_eq_true rfl, Nat.le_of_ble_eq_true rfl⟩, Nat.le_of_ble_eq_true rfl, rfl, rfl⟩ rfl rfl rfl
  refine j_if_eq_B (tgt := 34) dX4_type_21 (by decide) (fun h21 => ?_) (fun h21 => absurd h21 (by decide))
  refine j_bipush (v := (-3)) dX4_type_34 (by decide) ?_
  exact j_iret dX4_type_36 ⟨rfl, rfl⟩ ⟨rfl, rfl⟩

set_option maxHeartbeats 4000000 in
set_option maxRecDepth 100000 in
theorem c_X4_type_ok (O : Nat) (X E F Y Z V : Nat → Nat) (sg kd nu : SS) (k n ic : Nat) (v : Int32) (hb : inR v (nI 0) (nI 255) = true) (hn : n < 120) : Ct D yX4_type cX4_type 2 (some .int) ({ frames := 1, cells := 0, slots := 0, locals := 22 } : Room) [.ref O, .int v] ((TR D O X E F Y Z V) ++ (TW D X sg kd nu k n ic)) (fun v_ u_ => v_ = some (.int (nI (n + 1))) ∧ u_ = (TR D O X E F Y Z V) ++ (TW D X (upd sg n v) kd nu k (n + 1) ic)) := by
  refine ct_of (by decide) (Nat.le_of_ble_eq_true rfl) (lv0 := [(0, .ref O), (1, .int v)]) rfl (fun Γ => ?_)
  refine j_iload_n dX4_type_0 1 rfl ?_
  refine j_iconst (v := nI 0) dX4_type_1 (by decide) ?_
  refine j_sipush (v := nI 255) dX4_type_2 (by decide) ?_
  refine j_S (w2 := (TR D O X E F Y Z V) ++ (TW D X sg kd nu k n ic)) (st2 := [.int (bI (inR v (nI 0) (nI 255)))]) (c_X4_within v (nI 0) (nI 255)) rfl cw_X4_48 dX4_type_5 [] rfl [] rfl rfl rfl ?_ ⟨rfl, ⟨Nat.le_of_ble_eq_true rfl, Nat.le_of_ble_eq_true rfl⟩, ⟨rfl, rfl⟩, ⟨Nat.le_of_ble_eq_true rfl, Nat.le_of_ble_eq_true rfl⟩, Nat.le_of_ble_eq_true rfl, rfl, rfl⟩
  refine j_if_ne_B (tgt := 13) dX4_type_8 (by decide) (fun h8 => ?_) (fun h8 => absurd (hb.symm.trans h8) (by decide))
  refine j_aload_n dX4_type_13 0 rfl ?_
  refine g_X4_10 rfl dX4_type_14 0 rfl rfl ?_
  refine j_iload_n dX4_type_17 1 rfl ?_
  refine j_V (w2 := (TR D O X E F Y Z V) ++ (TW D X (upd sg n v) kd nu k (n + 1) ic)) (st2 := [.int (bI true)]) (c_X3_append X sg kd nu k n ic v (by omega)) rfl cw_X4_52 dX4_type_18 [] rfl [1, 2, 3, 4] rfl rfl rfl 3 ?_ ⟨rfl, ⟨Nat.le_of_ble_eq_true rfl, Nat.le_of_ble_eq_true rfl⟩, ⟨rfl, rfl⟩, ⟨Nat.le_of_ble_eq_true rfl, Nat.le_of_ble_eq_true rfl⟩, Nat.le_of_ble_eq_true rfl, rfl, rfl⟩ rfl rfl rfl
  refine j_if_eq_B (tgt := 34) dX4_type_21 (by decide) (fun h21 => absurd h21 (by decide)) (fun h21 => ?_)
  refine j_aload_n dX4_type_24 0 rfl ?_
  refine g_X4_10 rfl dX4_type_25 0 rfl rfl ?_
  refine g_X4_56 rfl dX4_type_28 1 rfl rfl ?_
  refine j_goto (tgt := 36) dX4_type_31 (by decide) ?_
  exact j_iret dX4_type_36 ⟨rfl, rfl⟩ ⟨rfl, rfl⟩

set_option maxHeartbeats 4000000 in
set_option maxRecDepth 100000 in
theorem c_X4_clear (O : Nat) (X E F Y Z V : Nat → Nat) (sg kd nu : SS) (k n ic : Nat) : Ct D yX4_clear cX4_clear 2 (some .int) ({ frames := 1, cells := 0, slots := 0, locals := 20 } : Room) [.ref O] ((TR D O X E F Y Z V) ++ (TW D X sg kd nu k n ic)) (fun v_ u_ => v_ = some (.int (nI n)) ∧ u_ = (TR D O X E F Y Z V) ++ (TW D X sg kd nu k 0 ic)) := by
  refine ct_of (by decide) (Nat.le_of_ble_eq_true rfl) (lv0 := [(0, .ref O)]) rfl (fun Γ => ?_)
  refine j_aload_n dX4_clear_0 0 rfl ?_
  refine g_X4_10 rfl dX4_clear_1 0 rfl rfl ?_
  refine g_X4_56 rfl dX4_clear_4 1 rfl rfl ?_
  refine j_istore_n (lv2 := [(0, .ref O), (1, .int (nI n))]) dX4_clear_7 (by decide) [1, 0] rfl ?_
  refine j_aload_n dX4_clear_8 0 rfl ?_
  refine g_X4_10 rfl dX4_clear_9 0 rfl rfl ?_
  refine j_V (w2 := (TR D O X E F Y Z V) ++ (TW D X sg kd nu k 0 ic)) (st2 := []) (c_X3_wipe X sg kd nu k n ic) rfl cw_X4_60 dX4_clear_12 [] rfl [1, 2, 3, 4] rfl rfl rfl 3 ?_ ⟨rfl, ⟨Nat.le_of_ble_eq_true rfl, Nat.le_of_ble_eq_true rfl⟩, ⟨rfl, rfl⟩, ⟨Nat.le_of_ble_eq_true rfl, Nat.le_of_ble_eq_true rfl⟩, Nat.le_of_ble_eq_true rfl, rfl, rfl⟩ rfl rfl rfl
  refine j_iload_n dX4_clear_15 1 rfl ?_
  exact j_iret dX4_clear_16 ⟨rfl, rfl⟩ ⟨rfl, rfl⟩

set_option maxHeartbeats 4000000 in
set_option maxRecDepth 100000 in
theorem c_X4_sees_bad (O : Nat) (X E F Y Z V : Nat → Nat) (tk wh : SS) (m : Nat) (v w : Int32) (hb : ¬ (inR v (nI 1) (nI 40) = true ∧ (inR w (nI 0) (nI 3) = true ∨ w = -9))) : Ct D yX4_sees cX4_sees 3 (some .int) ({ frames := 2, cells := 0, slots := 0, locals := 42 } : Room) [.ref O, .int v, .int w] ((TR D O X E F Y Z V) ++ (ZW D Z tk wh m)) (fun v_ u_ => v_ = some (.int (-1)) ∧ u_ = (TR D O X E F Y Z V) ++ (ZW D Z tk wh m)) := by
  refine ct_of (by decide) (Nat.le_of_ble_eq_true rfl) (lv0 := [(0, .ref O), (1, .int v), (2, .int w)]) rfl (fun Γ => ?_)
  refine j_iload_n dX4_sees_0 1 rfl ?_
  refine j_iconst (v := nI 1) dX4_sees_1 (by decide) ?_
  refine j_bipush (v := nI 40) dX4_sees_2 (by decide) ?_
  refine j_S (w2 := (TR D O X E F Y Z V) ++ (ZW D Z tk wh m)) (st2 := [.int (bI (inR v (nI 1) (nI 40)))]) (c_X4_within v (nI 1) (nI 40)) rfl cw_X4_48 dX4_sees_4 [] rfl [] rfl rfl rfl ?_ ⟨rfl, ⟨Nat.le_of_ble_eq_true rfl, Nat.le_of_ble_eq_true rfl⟩, ⟨rfl, rfl⟩, ⟨Nat.le_of_ble_eq_true rfl, Nat.le_of_ble_eq_true rfl⟩, Nat.le_of_ble_eq_true rfl, rfl, rfl⟩
  refine j_if_eq_B (tgt := 23) dX4_sees_7 (by decide) (fun h7 => ?_) (fun h7 => ?_)
  · skip
    refine j_iconst (v := (-1)) dX4_sees_23 (by decide) ?_
    exact j_iret dX4_sees_24 ⟨rfl, rfl⟩ ⟨rfl, rfl⟩
  · skip
    refine j_iload_n dX4_sees_10 2 rfl ?_
    refine j_S (w2 := (TR D O X E F Y Z V) ++ (ZW D Z tk wh m)) (st2 := [.int (bI (inR w (nI 0) (nI 3)))]) (c_X4_isChannel w) rfl cw_X4_85 dX4_sees_11 [] rfl [] rfl rfl rfl ?_ ⟨rfl, ⟨Nat.le_of_ble_eq_true rfl, Nat.le_of_ble_eq_true rfl⟩, ⟨rfl, rfl⟩, ⟨Nat.le_of_ble_eq_true rfl, Nat.le_of_ble_eq_true rfl⟩, Nat.le_of_ble_eq_true rfl, rfl, rfl⟩
    refine j_if_ne_B (tgt := 25) dX4_sees_14 (by decide) (fun h14 => absurd ⟨h7, Or.inl h14⟩ hb) (fun h14 => ?_)
    refine j_iload_n dX4_sees_17 2 rfl ?_
    refine j_bipush (v := (-9)) dX4_sees_18 (by decide) ?_
    refine j_icmp_eq (tgt := 25) dX4_sees_20 (by decide) (fun h20 => absurd ⟨h7, Or.inr h20⟩ hb) (fun h20 => ?_)
    refine j_iconst (v := (-1)) dX4_sees_23 (by decide) ?_
    exact j_iret dX4_sees_24 ⟨rfl, rfl⟩ ⟨rfl, rfl⟩

set_option maxHeartbeats 4000000 in
set_option maxRecDepth 100000 in
theorem c_X4_sees_full (O : Nat) (X E F Y Z V : Nat → Nat) (tk wh : SS) (m : Nat) (v w : Int32) (hb : inR v (nI 1) (nI 40) = true ∧ (inR w (nI 0) (nI 3) = true ∨ w = -9)) (hm : m = 6) : Ct D yX4_sees cX4_sees 3 (some .int) ({ frames := 2, cells := 0, slots := 0, locals := 42 } : Room) [.ref O, .int v, .int w] ((TR D O X E F Y Z V) ++ (ZW D Z tk wh m)) (fun v_ u_ => v_ = some (.int (-3)) ∧ u_ = (TR D O X E F Y Z V) ++ (ZW D Z tk wh m)) := by
  refine ct_of (by decide) (Nat.le_of_ble_eq_true rfl) (lv0 := [(0, .ref O), (1, .int v), (2, .int w)]) rfl (fun Γ => ?_)
  refine j_iload_n dX4_sees_0 1 rfl ?_
  refine j_iconst (v := nI 1) dX4_sees_1 (by decide) ?_
  refine j_bipush (v := nI 40) dX4_sees_2 (by decide) ?_
  refine j_S (w2 := (TR D O X E F Y Z V) ++ (ZW D Z tk wh m)) (st2 := [.int (bI (inR v (nI 1) (nI 40)))]) (c_X4_within v (nI 1) (nI 40)) rfl cw_X4_48 dX4_sees_4 [] rfl [] rfl rfl rfl ?_ ⟨rfl, ⟨Nat.le_of_ble_eq_true rfl, Nat.le_of_ble_eq_true rfl⟩, ⟨rfl, rfl⟩, ⟨Nat.le_of_ble_eq_true rfl, Nat.le_of_ble_eq_true rfl⟩, Nat.le_of_ble_eq_true rfl, rfl, rfl⟩
  refine j_if_eq_B (tgt := 23) dX4_sees_7 (by decide) (fun h7 => absurd (hb.1.symm.trans h7) (by decide)) (fun h7 => ?_)
  refine j_iload_n dX4_sees_10 2 rfl ?_
  refine j_S (w2 := (TR D O X E F Y Z V) ++ (ZW D Z tk wh m)) (st2 := [.int (bI (inR w (nI 0) (nI 3)))]) (c_X4_isChannel w) rfl cw_X4_85 dX4_sees_11 [] rfl [] rfl rfl rfl ?_ ⟨rfl, ⟨Nat.le_of_ble_eq_true rfl, Nat.le_of_ble_eq_true rfl⟩, ⟨rfl, rfl⟩, ⟨Nat.le_of_ble_eq_true rfl, Nat.le_of_ble_eq_true rfl⟩, Nat.le_of_ble_eq_true rfl, rfl, rfl⟩
  refine j_if_ne_B (tgt := 25) dX4_sees_14 (by decide) (fun h14 => ?_) (fun h14 => ?_)
  · skip
    refine j_aload_n dX4_sees_25 0 rfl ?_
    refine g_X4_36 rfl dX4_sees_26 0 rfl rfl ?_
    refine j_iload_n dX4_sees_29 1 rfl ?_
    refine j_iload_n dX4_sees_30 2 rfl ?_
    refine j_V (w2 := (TR D O X E F Y Z V) ++ (ZW D Z tk wh m)) (st2 := [.int (bI false)]) (c_X2_note_full Z tk wh m v w (by omega)) rfl cw_X4_162 dX4_sees_31 [] rfl [1, 2, 3] rfl rfl rfl 2 ?_ ⟨rfl, ⟨Nat.le_of_ble_eq_true rfl, Nat.le_of_ble_eq_true rfl⟩, ⟨rfl, rfl⟩, ⟨Nat.le_of_ble_eq_true rfl, Nat.le_of_ble_eq_true rfl⟩, Nat.le_of_ble_eq_true rfl, rfl, rfl⟩ rfl rfl rfl
    refine j_if_eq_B (tgt := 47) dX4_sees_34 (by decide) (fun h34 => ?_) (fun h34 => absurd h34 (by decide))
    refine j_bipush (v := (-3)) dX4_sees_47 (by decide) ?_
    exact j_iret dX4_sees_49 ⟨rfl, rfl⟩ ⟨rfl, rfl⟩
  · skip
    refine j_iload_n dX4_sees_17 2 rfl ?_
    refine j_bipush (v := (-9)) dX4_sees_18 (by decide) ?_
    refine j_icmp_eq (tgt := 25) dX4_sees_20 (by decide) (fun h20 => ?_) (fun h20 => absurd (hb.2.resolve_left (nBool h14)) h20)
    refine j_aload_n dX4_sees_25 0 rfl ?_
    refine g_X4_36 rfl dX4_sees_26 0 rfl rfl ?_
    refine j_iload_n dX4_sees_29 1 rfl ?_
    refine j_iload_n dX4_sees_30 2 rfl ?_
    refine j_V (w2 := (TR D O X E F Y Z V) ++ (ZW D Z tk wh m)) (st2 := [.int (bI false)]) (c_X2_note_full Z tk wh m v w (by omega)) rfl cw_X4_162 dX4_sees_31 [] rfl [1, 2, 3] rfl rfl rfl 2 ?_ ⟨rfl, ⟨Nat.le_of_ble_eq_true rfl, Nat.le_of_ble_eq_true rfl⟩, ⟨rfl, rfl⟩, ⟨Nat.le_of_ble_eq_true rfl, Nat.le_of_ble_eq_true rfl⟩, Nat.le_of_ble_eq_true rfl, rfl, rfl⟩ rfl rfl rfl
    refine j_if_eq_B (tgt := 47) dX4_sees_34 (by decide) (fun h34 => ?_) (fun h34 => absurd h34 (by decide))
    refine j_bipush (v := (-3)) dX4_sees_47 (by decide) ?_
    exact j_iret dX4_sees_49 ⟨rfl, rfl⟩ ⟨rfl, rfl⟩

set_option maxHeartbeats 4000000 in
set_option maxRecDepth 100000 in
theorem c_X4_sees_ok (O : Nat) (X E F Y Z V : Nat → Nat) (tk wh : SS) (m : Nat) (v w : Int32) (hb : inR v (nI 1) (nI 40) = true ∧ (inR w (nI 0) (nI 3) = true ∨ w = -9)) (hm : m < 6) : Ct D yX4_sees cX4_sees 3 (some .int) ({ frames := 2, cells := 0, slots := 0, locals := 42 } : Room) [.ref O, .int v, .int w] ((TR D O X E F Y Z V) ++ (ZW D Z tk wh m)) (fun v_ u_ => v_ = some (.int (nI (m + 1))) ∧ u_ = (TR D O X E F Y Z V) ++ (ZW D Z (upd tk m v) (upd wh m w) (m + 1))) := by
  refine ct_of (by decide) (Nat.le_of_ble_eq_true rfl) (lv0 := [(0, .ref O), (1, .int v), (2, .int w)]) rfl (fun Γ => ?_)
  refine j_iload_n dX4_sees_0 1 rfl ?_
  refine j_iconst (v := nI 1) dX4_sees_1 (by decide) ?_
  refine j_bipush (v := nI 40) dX4_sees_2 (by decide) ?_
  refine j_S (w2 := (TR D O X E F Y Z V) ++ (ZW D Z tk wh m)) (st2 := [.int (bI (inR v (nI 1) (nI 40)))]) (c_X4_within v (nI 1) (nI 40)) rfl cw_X4_48 dX4_sees_4 [] rfl [] rfl rfl rfl ?_ ⟨rfl, ⟨Nat.le_of_ble_eq_true rfl, Nat.le_of_ble_eq_true rfl⟩, ⟨rfl, rfl⟩, ⟨Nat.le_of_ble_eq_true rfl, Nat.le_of_ble_eq_true rfl⟩, Nat.le_of_ble_eq_true rfl, rfl, rfl⟩
  refine j_if_eq_B (tgt := 23) dX4_sees_7 (by decide) (fun h7 => absurd (hb.1.symm.trans h7) (by decide)) (fun h7 => ?_)
  refine j_iload_n dX4_sees_10 2 rfl ?_
  refine j_S (w2 := (TR D O X E F Y Z V) ++ (ZW D Z tk wh m)) (st2 := [.int (bI (inR w (nI 0) (nI 3)))]) (c_X4_isChannel w) rfl cw_X4_85 dX4_sees_11 [] rfl [] rfl rfl rfl ?_ ⟨rfl, ⟨Nat.le_of_ble_eq_true rfl, Nat.le_of_ble_eq_true rfl⟩, ⟨rfl, rfl⟩, ⟨Nat.le_of_ble_eq_true rfl, Nat.le_of_ble_eq_true rfl⟩, Nat.le_of_ble_eq_true rfl, rfl, rfl⟩
  refine j_if_ne_B (tgt := 25) dX4_sees_14 (by decide) (fun h14 => ?_) (fun h14 => ?_)
  · skip
    refine j_aload_n dX4_sees_25 0 rfl ?_
    refine g_X4_36 rfl dX4_sees_26 0 rfl rfl ?_
    refine j_iload_n dX4_sees_29 1 rfl ?_
    refine j_iload_n dX4_sees_30 2 rfl ?_
    refine j_V (w2 := (TR D O X E F Y Z V) ++ (ZW D Z (upd tk m v) (upd wh m w) (m + 1))) (st2 := [.int (bI true)]) (c_X2_note Z tk wh m v w (by omega)) rfl cw_X4_162 dX4_sees_31 [] rfl [1, 2, 3] rfl rfl rfl 2 ?_ ⟨rfl, ⟨Nat.le_of_ble_eq_true rfl, Nat.le_of_ble_eq_true rfl⟩, ⟨rfl, rfl⟩, ⟨Nat.le_of_ble_eq_true rfl, Nat.le_of_ble_eq_true rfl⟩, Nat.le_of_ble_eq_true rfl, rfl, rfl⟩ rfl rfl rfl
    refine j_if_eq_B (tgt := 47) dX4_sees_34 (by decide) (fun h34 => absurd h34 (by decide)) (fun h34 => ?_)
    refine j_aload_n dX4_sees_37 0 rfl ?_
    refine g_X4_36 rfl dX4_sees_38 0 rfl rfl ?_
    refine g_X4_165 rfl dX4_sees_41 1 rfl rfl ?_
    refine j_goto (tgt := 49) dX4_sees_44 (by decide) ?_
    exact j_iret dX4_sees_49 ⟨rfl, rfl⟩ ⟨rfl, rfl⟩
  · skip
    refine j_iload_n dX4_sees_17 2 rfl ?_
    refine j_bipush (v := (-9)) dX4_sees_18 (by decide) ?_
    refine j_icmp_eq (tgt := 25) dX4_sees_20 (by decide) (fun h20 => ?_) (fun h20 => absurd (hb.2.resolve_left (nBool h14)) h20)
    refine j_aload_n dX4_sees_25 0 rfl ?_
    refine g_X4_36 rfl dX4_sees_26 0 rfl rfl ?_
    refine j_iload_n dX4_sees_29 1 rfl ?_
    refine j_iload_n dX4_sees_30 2 rfl ?_
    refine j_V (w2 := (TR D O X E F Y Z V) ++ (ZW D Z (upd tk m v) (upd wh m w) (m + 1))) (st2 := [.int (bI true)]) (c_X2_note Z tk wh m v w (by omega)) rfl cw_X4_162 dX4_sees_31 [] rfl [1, 2, 3] rfl rfl rfl 2 ?_ ⟨rfl, ⟨Nat.le_of_ble_eq_true rfl, Nat.le_of_ble_eq_true rfl⟩, ⟨rfl, rfl⟩, ⟨Nat.le_of_ble_eq_true rfl, Nat.le_of_ble_eq_true rfl⟩, Nat.le_of_ble_eq_true rfl, rfl, rfl⟩ rfl rfl rfl
    refine j_if_eq_B (tgt := 47) dX4_sees_34 (by decide) (fun h34 => absurd h34 (by decide)) (fun h34 => ?_)
    refine j_aload_n dX4_sees_37 0 rfl ?_
    refine g_X4_36 rfl dX4_sees_38 0 rfl rfl ?_
    refine g_X4_165 rfl dX4_sees_41 1 rfl rfl ?_
    refine j_goto (tgt := 49) dX4_sees_44 (by decide) ?_
    exact j_iret dX4_sees_49 ⟨rfl, rfl⟩ ⟨rfl, rfl⟩

set_option maxHeartbeats 4000000 in
set_option maxRecDepth 100000 in
theorem c_X4_forget (O : Nat) (X E F Y Z V : Nat → Nat) (tk wh : SS) (m : Nat) : Ct D yX4_forget cX4_forget 2 (some .int) ({ frames := 1, cells := 0, slots := 0, locals := 20 } : Room) [.ref O] ((TR D O X E F Y Z V) ++ (ZW D Z tk wh m)) (fun v_ u_ => v_ = some (.int (nI m)) ∧ u_ = (TR D O X E F Y Z V) ++ (ZW D Z tk wh 0)) := by
  refine ct_of (by decide) (Nat.le_of_ble_eq_true rfl) (lv0 := [(0, .ref O)]) rfl (fun Γ => ?_)
  refine j_aload_n dX4_forget_0 0 rfl ?_
  refine g_X4_36 rfl dX4_forget_1 0 rfl rfl ?_
  refine g_X4_165 rfl dX4_forget_4 1 rfl rfl ?_
  refine j_istore_n (lv2 := [(0, .ref O), (1, .int (nI m))]) dX4_forget_7 (by decide) [1, 0] rfl ?_
  refine j_aload_n dX4_forget_8 0 rfl ?_
  refine g_X4_36 rfl dX4_forget_9 0 rfl rfl ?_
  refine j_V (w2 := (TR D O X E F Y Z V) ++ (ZW D Z tk wh 0)) (st2 := []) (c_X2_drop Z tk wh m) rfl cw_X4_168 dX4_forget_12 [] rfl [1, 2, 3] rfl rfl rfl 2 ?_ ⟨rfl, ⟨Nat.le_of_ble_eq_true rfl, Nat.le_of_ble_eq_true rfl⟩, ⟨rfl, rfl⟩, ⟨Nat.le_of_ble_eq_true rfl, Nat.le_of_ble_eq_true rfl⟩, Nat.le_of_ble_eq_true rfl, rfl, rfl⟩ rfl rfl rfl
  refine j_iload_n dX4_forget_15 1 rfl ?_
  exact j_iret dX4_forget_16 ⟨rfl, rfl⟩ ⟨rfl, rfl⟩

set_option maxHeartbeats 4000000 in
set_option maxRecDepth 100000 in
theorem c_X4_keep_bad (O : Nat) (X E F Y Z V : Nat → Nat) (G : Nat → Nat → Nat) (kp : SS) (s u : SS) (v : Int32) (hb : inR v (nI 0) (nI 1) = false) : Ct D yX4_keep cX4_keep 2 (some .int) ({ frames := 1, cells := 0, slots := 0, locals := 22 } : Room) [.ref O, .int v] (TR D O X E F Y Z V) (fun v_ u_ => v_ = some (.int (-1)) ∧ u_ = TR D O X E F Y Z V) := by
  refine ct_of (by decide) (Nat.le_of_ble_eq_true rfl) (lv0 := [(0, .ref O), (1, .int v)]) rfl (fun Γ => ?_)
  refine j_iload_n dX4_keep_0 1 rfl ?_
  refine j_iconst (v := nI 0) dX4_keep_1 (by decide) ?_
  refine j_iconst (v := nI 1) dX4_keep_2 (by decide) ?_
  refine j_S (w2 := TR D O X E F Y Z V) (st2 := [.int (bI (inR v (nI 0) (nI 1)))]) (c_X4_within v (nI 0) (nI 1)) rfl cw_X4_48 dX4_keep_3 [] rfl [] rfl rfl rfl ?_ ⟨rfl, ⟨Nat.le_of_ble_eq_true rfl, Nat.le_of_ble_eq_true rfl⟩, ⟨rfl, rfl⟩, ⟨Nat.le_of_ble_eq_true rfl, Nat.le_of_ble_eq_true rfl⟩, Nat.le_of_ble_eq_true rfl, rfl, rfl⟩
  refine j_if_ne_B (tgt := 11) dX4_keep_6 (by decide) (fun h6 => absurd (hb.symm.trans h6) (by decide)) (fun h6 => ?_)
  refine j_iconst (v := (-1)) dX4_keep_9 (by decide) ?_
  exact j_iret dX4_keep_10 ⟨rfl, rfl⟩ ⟨rfl, rfl⟩

set_option maxHeartbeats 4000000 in
set_option maxRecDepth 100000 in
theorem c_X4_keep_ok (O : Nat) (X E F Y Z V : Nat → Nat) (G : Nat → Nat → Nat) (kp : SS) (s u : SS) (i : Nat) (hi : i < 2) : Ct D yX4_keep cX4_keep 2 (some .int) ({ frames := 4, cells := 0, slots := 0, locals := 88 } : Room) [.ref O, .int (nI i)] ((TR D O X E F Y Z V) ++ (EW D E s) ++ (IM D V G kp) ++ (EW D (G i) u)) (fun v_ u_ => v_ = some (.int (nI (els s 4))) ∧ u_ = (TR D O X E F Y Z V) ++ (EW D E s) ++ (IM D V G (upd kp i 1)) ++ (EW D (G i) s)) := by
  refine ct_of (by decide) (Nat.le_of_ble_eq_true rfl) (lv0 := [(0, .ref O), (1, .int (nI i))]) rfl (fun Γ => ?_)
  refine j_iload_n dX4_keep_0 1 rfl ?_
  refine j_iconst (v := nI 0) dX4_keep_1 (by decide) ?_
  refine j_iconst (v := nI 1) dX4_keep_2 (by decide) ?_
  refine j_S (w2 := (TR D O X E F Y Z V) ++ (EW D E s) ++ (IM D V G kp) ++ (EW D (G i) u)) (st2 := [.int (bI (inR (nI i) (nI 0) (nI 1)))]) (c_X4_within (nI i) (nI 0) (nI 1)) rfl cw_X4_48 dX4_keep_3 [] rfl [] rfl rfl rfl ?_ ⟨rfl, ⟨Nat.le_of_ble_eq_true rfl, Nat.le_of_ble_eq_true rfl⟩, ⟨rfl, rfl⟩, ⟨Nat.le_of_ble_eq_true rfl, Nat.le_of_ble_eq_true rfl⟩, Nat.le_of_ble_eq_true rfl, rfl, rfl⟩
  refine j_if_ne_B (tgt := 11) dX4_keep_6 (by decide) (fun h6 => ?_) (fun h6 => absurd (inR_in (by omega) (by omega) (by omega)) (nBool h6))
  refine j_aload_n dX4_keep_11 0 rfl ?_
  refine g_X4_40 rfl dX4_keep_12 0 rfl rfl ?_
  refine j_iload_n dX4_keep_15 1 rfl ?_
  refine j_aald (b := ((G i) 0)) dX4_keep_16 6 i rfl (rfl) (by omega) (Nat.le_of_ble_eq_true rfl) (rfl) ?_
  refine j_aload_n dX4_keep_17 0 rfl ?_
  refine g_X4_19 rfl dX4_keep_18 0 rfl rfl ?_
  refine j_V (w2 := (TR D O X E F Y Z V) ++ (EW D E s) ++ (IM D V G kp) ++ (EW D (G i) s)) (st2 := []) (c_X0_copyFrom (G i) E u s) rfl cw_X4_67 dX4_keep_21 [] rfl [8, 9, 10, 11, 12, 1, 2, 3, 4, 5] rfl rfl rfl 0 ?_ ⟨rfl, ⟨Nat.le_of_ble_eq_true rfl, Nat.le_of_ble_eq_true rfl⟩, ⟨rfl, rfl⟩, ⟨Nat.le_of_ble_eq_true rfl, Nat.le_of_ble_eq_true rfl⟩, Nat.le_of_ble_eq_true rfl, rfl, rfl⟩ rfl rfl rfl
  refine j_aload_n dX4_keep_24 0 rfl ?_
  refine g_X4_44 rfl dX4_keep_25 0 rfl rfl ?_
  refine j_iload_n dX4_keep_28 1 rfl ?_
  refine j_iconst (v := nI 1) dX4_keep_29 (by decide) ?_
  refine j_zast (w2 := (TR D O X E F Y Z V) ++ (EW D E s) ++ (IM D V G (upd kp i 1)) ++ (EW D (G i) s)) dX4_keep_30 7 i rfl (rfl) (by omega) (Nat.le_of_ble_eq_true rfl) (rfl) ?_
  refine j_aload_n dX4_keep_31 0 rfl ?_
  refine g_X4_19 rfl dX4_keep_32 0 rfl rfl ?_
  refine j_V (w2 := (TR D O X E F Y Z V) ++ (EW D E s) ++ (IM D V G (upd kp i 1)) ++ (EW D (G i) s)) (st2 := [.int (nI (els s 4))]) (c_X0_engineLetters E s) rfl cw_X4_174 dX4_keep_35 [] rfl [1, 2, 3, 4, 5] rfl rfl rfl 0 ?_ ⟨rfl, ⟨Nat.le_of_ble_eq_true rfl, Nat.le_of_ble_eq_true rfl⟩, ⟨rfl, rfl⟩, ⟨Nat.le_of_ble_eq_true rfl, Nat.le_of_ble_eq_true rfl⟩, Nat.le_of_ble_eq_true rfl, rfl, rfl⟩ rfl rfl rfl
  exact j_iret dX4_keep_38 ⟨rfl, rfl⟩ ⟨rfl, rfl⟩

set_option maxHeartbeats 4000000 in
set_option maxRecDepth 100000 in
theorem c_X4_back_bad (O : Nat) (X E F Y Z V : Nat → Nat) (G : Nat → Nat → Nat) (kp : SS) (s u : SS) (v : Int32) (hb : inR v (nI 0) (nI 1) = false) : Ct D yX4_back cX4_back 2 (some .int) ({ frames := 1, cells := 0, slots := 0, locals := 22 } : Room) [.ref O, .int v] (TR D O X E F Y Z V) (fun v_ u_ => v_ = some (.int (-1)) ∧ u_ = TR D O X E F Y Z V) := by
  refine ct_of (by decide) (Nat.le_of_ble_eq_true rfl) (lv0 := [(0, .ref O), (1, .int v)]) rfl (fun Γ => ?_)
  refine j_iload_n dX4_back_0 1 rfl ?_
  refine j_iconst (v := nI 0) dX4_back_1 (by decide) ?_
  refine j_iconst (v := nI 1) dX4_back_2 (by decide) ?_
  refine j_S (w2 := TR D O X E F Y Z V) (st2 := [.int (bI (inR v (nI 0) (nI 1)))]) (c_X4_within v (nI 0) (nI 1)) rfl cw_X4_48 dX4_back_3 [] rfl [] rfl rfl rfl ?_ ⟨rfl, ⟨Nat.le_of_ble_eq_true rfl, Nat.le_of_ble_eq_true rfl⟩, ⟨rfl, rfl⟩, ⟨Nat.le_of_ble_eq_true rfl, Nat.le_of_ble_eq_true rfl⟩, Nat.le_of_ble_eq_true rfl, rfl, rfl⟩
  refine j_if_ne_B (tgt := 11) dX4_back_6 (by decide) (fun h6 => absurd (hb.symm.trans h6) (by decide)) (fun h6 => ?_)
  refine j_iconst (v := (-1)) dX4_back_9 (by decide) ?_
  exact j_iret dX4_back_10 ⟨rfl, rfl⟩ ⟨rfl, rfl⟩

set_option maxHeartbeats 4000000 in
set_option maxRecDepth 100000 in
theorem c_X4_back_none (O : Nat) (X E F Y Z V : Nat → Nat) (G : Nat → Nat → Nat) (kp : SS) (s u : SS) (i : Nat) (hi : i < 2) (hk : kp i = 0) : Ct D yX4_back cX4_back 2 (some .int) ({ frames := 1, cells := 0, slots := 0, locals := 22 } : Room) [.ref O, .int (nI i)] ((TR D O X E F Y Z V) ++ (IM D V G kp)) (fun v_ u_ => v_ = some (.int (-2)) ∧ u_ = (TR D O X E F Y Z V) ++ (IM D V G kp)) := by
  refine ct_of (by decide) (Nat.le_of_ble_eq_true rfl) (lv0 := [(0, .ref O), (1, .int (nI i))]) rfl (fun Γ => ?_)
  refine j_iload_n dX4_back_0 1 rfl ?_
  refine j_iconst (v := nI 0) dX4_back_1 (by decide) ?_
  refine j_iconst (v := nI 1) dX4_back_2 (by decide) ?_
  refine j_S (w2 := (TR D O X E F Y Z V) ++ (IM D V G kp)) (st2 := [.int (bI (inR (nI i) (nI 0) (nI 1)))]) (c_X4_within (nI i) (nI 0) (nI 1)) rfl cw_X4_48 dX4_back_3 [] rfl [] rfl rfl rfl ?_ ⟨rfl, ⟨Nat.le_of_ble_eq_true rfl, Nat.le_of_ble_eq_true rfl⟩, ⟨rfl, rfl⟩, ⟨Nat.le_of_ble_eq_true rfl, Nat.le_of_ble_eq_true rfl⟩, Nat.le_of_ble_eq_true rfl, rfl, rfl⟩
  refine j_if_ne_B (tgt := 11) dX4_back_6 (by decide) (fun h6 => ?_) (fun h6 => absurd (inR_in (by omega) (by omega) (by omega)) (nBool h6))
  refine j_aload_n dX4_back_11 0 rfl ?_
  refine g_X4_44 rfl dX4_back_12 0 rfl rfl ?_
  refine j_iload_n dX4_back_15 1 rfl ?_
  refine j_zald (v := nI 0) dX4_back_16 2 i rfl (rfl) (by omega) (Nat.le_of_ble_eq_true rfl) (hk) ?_
  refine j_if_ne_N (tgt := 23) dX4_back_17 (by decide) (by omega) (fun h17 => absurd rfl h17) (fun h17 => ?_)
  refine j_bipush (v := (-2)) dX4_back_20 (by decide) ?_
  exact j_iret dX4_back_22 ⟨rfl, rfl⟩ ⟨rfl, rfl⟩

set_option maxHeartbeats 4000000 in
set_option maxRecDepth 100000 in
theorem c_X4_back_ok (O : Nat) (X E F Y Z V : Nat → Nat) (G : Nat → Nat → Nat) (kp : SS) (s u : SS) (P : Nat → Nat → Nat) (nw kn : Nat) (i : Nat) (hi : i < 2) (hk : kp i = 1) : Ct D yX4_back cX4_back 2 (some .int) ({ frames := 4, cells := 0, slots := 0, locals := 88 } : Room) [.ref O, .int (nI i)] ((TR D O X E F Y Z V) ++ (EW D E s) ++ (IM D V G kp) ++ (EW D (G i) u) ++ (HO D Y P nw kn)) (fun v_ u_ => v_ = some (.int (nI (els u 4))) ∧ u_ = (TR D O X E F Y Z V) ++ (EW D E u) ++ (IM D V G kp) ++ (EW D (G i) u) ++ (HO D Y P nw 0)) := by
  refine ct_of (by decide) (Nat.le_of_ble_eq_true rfl) (lv0 := [(0, .ref O), (1, .int (nI i))]) rfl (fun Γ => ?_)
  refine j_iload_n dX4_back_0 1 rfl ?_
  refine j_iconst (v := nI 0) dX4_back_1 (by decide) ?_
  refine j_iconst (v := nI 1) dX4_back_2 (by decide) ?_
  refine j_S (w2 := (TR D O X E F Y Z V) ++ (EW D E s) ++ (IM D V G kp) ++ (EW D (G i) u) ++ (HO D Y P nw kn)) (st2 := [.int (bI (inR (nI i) (nI 0) (nI 1)))]) (c_X4_within (nI i) (nI 0) (nI 1)) rfl cw_X4_48 dX4_back_3 [] rfl [] rfl rfl rfl ?_ ⟨rfl, ⟨Nat.le_of_ble_eq_true rfl, Nat.le_of_ble_eq_true rfl⟩, ⟨rfl, rfl⟩, ⟨Nat.le_of_ble_eq_true rfl, Nat.le_of_ble_eq_true rfl⟩, Nat.le_of_ble_eq_true rfl, rfl, rfl⟩
  refine j_if_ne_B (tgt := 11) dX4_back_6 (by decide) (fun h6 => ?_) (fun h6 => absurd (inR_in (by omega) (by omega) (by omega)) (nBool h6))
  refine j_aload_n dX4_back_11 0 rfl ?_
  refine g_X4_44 rfl dX4_back_12 0 rfl rfl ?_
  refine j_iload_n dX4_back_15 1 rfl ?_
  refine j_zald (v := nI 1) dX4_back_16 7 i rfl (rfl) (by omega) (Nat.le_of_ble_eq_true rfl) (hk) ?_
  refine j_if_ne_N (tgt := 23) dX4_back_17 (by decide) (by omega) (fun h17 => ?_) (fun h17 => absurd h17 (by decide))
  refine j_aload_n dX4_back_23 0 rfl ?_
  refine g_X4_19 rfl dX4_back_24 0 rfl rfl ?_
  refine j_aload_n dX4_back_27 0 rfl ?_
  refine g_X4_40 rfl dX4_back_28 0 rfl rfl ?_
  refine j_iload_n dX4_back_31 1 rfl ?_
  refine j_aald (b := ((G i) 0)) dX4_back_32 6 i rfl (rfl) (by omega) (Nat.le_of_ble_eq_true rfl) (rfl) ?_
  refine j_V (w2 := (TR D O X E F Y Z V) ++ (EW D E u) ++ (IM D V G kp) ++ (EW D (G i) u) ++ (HO D Y P nw kn)) (st2 := []) (c_X0_copyFrom E (G i) s u) rfl cw_X4_67 dX4_back_33 [] rfl [1, 2, 3, 4, 5, 8, 9, 10, 11, 12] rfl rfl rfl 0 ?_ ⟨rfl, ⟨Nat.le_of_ble_eq_true rfl, Nat.le_of_ble_eq_true rfl⟩, ⟨rfl, rfl⟩, ⟨Nat.le_of_ble_eq_true rfl, Nat.le_of_ble_eq_true rfl⟩, Nat.le_of_ble_eq_true rfl, rfl, rfl⟩ rfl rfl rfl
  refine j_aload_n dX4_back_36 0 rfl ?_
  refine g_X4_29 rfl dX4_back_37 0 rfl rfl ?_
  refine j_V (w2 := (TR D O X E F Y Z V) ++ (EW D E u) ++ (IM D V G kp) ++ (EW D (G i) u) ++ (HO D Y P nw 0)) (st2 := []) (c_X1_lose Y P nw kn) rfl cw_X4_177 dX4_back_40 [] rfl [13, 14] rfl rfl rfl 1 ?_ ⟨rfl, ⟨Nat.le_of_ble_eq_true rfl, Nat.le_of_ble_eq_true rfl⟩, ⟨rfl, rfl⟩, ⟨Nat.le_of_ble_eq_true rfl, Nat.le_of_ble_eq_true rfl⟩, Nat.le_of_ble_eq_true rfl, rfl, rfl⟩ rfl rfl rfl
  refine j_aload_n dX4_back_43 0 rfl ?_
  refine g_X4_19 rfl dX4_back_44 0 rfl rfl ?_
  refine j_V (w2 := (TR D O X E F Y Z V) ++ (EW D E u) ++ (IM D V G kp) ++ (EW D (G i) u) ++ (HO D Y P nw 0)) (st2 := [.int (nI (els u 4))]) (c_X0_engineLetters E u) rfl cw_X4_174 dX4_back_47 [] rfl [1, 2, 3, 4, 5] rfl rfl rfl 0 ?_ ⟨rfl, ⟨Nat.le_of_ble_eq_true rfl, Nat.le_of_ble_eq_true rfl⟩, ⟨rfl, rfl⟩, ⟨Nat.le_of_ble_eq_true rfl, Nat.le_of_ble_eq_true rfl⟩, Nat.le_of_ble_eq_true rfl, rfl, rfl⟩ rfl rfl rfl
  exact j_iret dX4_back_50 ⟨rfl, rfl⟩ ⟨rfl, rfl⟩

set_option maxHeartbeats 4000000 in
set_option maxRecDepth 100000 in
theorem c_X4_count (O : Nat) (X E F Y Z V : Nat → Nat) (s : SS) (sg kd nu : SS) (k n ic : Nat) (tk wh : SS) (m : Nat) (P : Nat → Nat → Nat) (nw kn : Nat) (w : Int32) : Ct D yX4_count cX4_count 2 (some .int) ({ frames := 4, cells := 0, slots := 0, locals := 88 } : Room) [.ref O, .int w] ((TR D O X E F Y Z V) ++ (EW D E s) ++ (TW D X sg kd nu k n ic) ++ (ZW D Z tk wh m) ++ (HO D Y P nw kn)) (fun v_ u_ => v_ = some (.int (coF s m n kn w)) ∧ u_ = (TR D O X E F Y Z V) ++ (EW D E s) ++ (TW D X sg kd nu k n ic) ++ (ZW D Z tk wh m) ++ (HO D Y P nw kn)) := by
  refine ct_of (by decide) (Nat.le_of_ble_eq_true rfl) (lv0 := [(0, .ref O), (1, .int w)]) rfl (fun Γ => ?_)
  refine j_iload_n dX4_count_0 1 rfl ?_
  by_cases hs0 : w = nI 0
  · skip
    refine j_tableIn (off := 43) (tgt := 44) dX4_count_1 (by rw [hs0]; decide) (by rw [hs0]; decide) (by rw [hs0]; rfl) (by decide) ?_
    refine j_aload_n dX4_count_44 0 rfl ?_
    refine g_X4_19 rfl dX4_count_45 0 rfl rfl ?_
    refine j_V (w2 := (TR D O X E F Y Z V) ++ (EW D E s) ++ (TW D X sg kd nu k n ic) ++ (ZW D Z tk wh m) ++ (HO D Y P nw kn)) (st2 := [.int (nI (els s 4))]) (c_X0_engineLetters E s) rfl cw_X4_174 dX4_count_48 [] rfl [1, 2, 3, 4, 5] rfl rfl rfl 0 ?_ ⟨rfl, ⟨Nat.le_of_ble_eq_true rfl, Nat.le_of_ble_eq_true rfl⟩, ⟨rfl, rfl⟩, ⟨Nat.le_of_ble_eq_true rfl, Nat.le_of_ble_eq_true rfl⟩, Nat.le_of_ble_eq_true rfl, rfl, rfl⟩ rfl rfl rfl
    exact j_iret dX4_count_51 ⟨rfl, rfl⟩ ⟨by unfold coF; rw [if_pos hs0], rfl⟩
  · skip
    by_cases hs1 : w = nI 1
    · skip
      refine j_tableIn (off := 51) (tgt := 52) dX4_count_1 (by rw [hs1]; decide) (by rw [hs1]; decide) (by rw [hs1]; rfl) (by decide) ?_
      refine j_aload_n dX4_count_52 0 rfl ?_
      refine g_X4_19 rfl dX4_count_53 0 rfl rfl ?_
      refine g_X4_140 rfl dX4_count_56 1 rfl rfl ?_
      exact j_iret dX4_count_59 ⟨rfl, rfl⟩ ⟨by unfold coF; rw [if_neg hs0, if_pos hs1], rfl⟩
    · skip
      by_cases hs2 : w = nI 2
      · skip
        refine j_tableIn (off := 59) (tgt := 60) dX4_count_1 (by rw [hs2]; decide) (by rw [hs2]; decide) (by rw [hs2]; rfl) (by decide) ?_
        refine j_aload_n dX4_count_60 0 rfl ?_
        refine g_X4_19 rfl dX4_count_61 0 rfl rfl ?_
        refine g_X4_180 rfl dX4_count_64 1 rfl rfl ?_
        exact j_iret dX4_count_67 ⟨rfl, rfl⟩ ⟨by unfold coF; rw [if_neg hs0, if_neg hs1, if_pos hs2], rfl⟩
      · skip
        by_cases hs3 : w = nI 3
        · skip
          refine j_tableIn (off := 67) (tgt := 68) dX4_count_1 (by rw [hs3]; decide) (by rw [hs3]; decide) (by rw [hs3]; rfl) (by decide) ?_
          refine j_aload_n dX4_count_68 0 rfl ?_
          refine g_X4_36 rfl dX4_count_69 0 rfl rfl ?_
          refine g_X4_165 rfl dX4_count_72 10 rfl rfl ?_
          exact j_iret dX4_count_75 ⟨rfl, rfl⟩ ⟨by unfold coF; rw [if_neg hs0, if_neg hs1, if_neg hs2, if_pos hs3], rfl⟩
        · skip
          by_cases hs4 : w = nI 4
          · skip
            refine j_tableIn (off := 75) (tgt := 76) dX4_count_1 (by rw [hs4]; decide) (by rw [hs4]; decide) (by rw [hs4]; rfl) (by decide) ?_
            refine j_aload_n dX4_count_76 0 rfl ?_
            refine g_X4_10 rfl dX4_count_77 0 rfl rfl ?_
            refine g_X4_56 rfl dX4_count_80 6 rfl rfl ?_
            exact j_iret dX4_count_83 ⟨rfl, rfl⟩ ⟨by unfold coF; rw [if_neg hs0, if_neg hs1, if_neg hs2, if_neg hs3, if_pos hs4], rfl⟩
          · skip
            by_cases hs5 : w = nI 5
            · skip
              refine j_tableIn (off := 83) (tgt := 84) dX4_count_1 (by rw [hs5]; decide) (by rw [hs5]; decide) (by rw [hs5]; rfl) (by decide) ?_
              refine j_aload_n dX4_count_84 0 rfl ?_
              refine g_X4_29 rfl dX4_count_85 0 rfl rfl ?_
              refine g_X4_107 rfl dX4_count_88 13 rfl rfl ?_
              exact j_iret dX4_count_91 ⟨rfl, rfl⟩ ⟨by unfold coF; rw [if_neg hs0, if_neg hs1, if_neg hs2, if_neg hs3, if_neg hs4, if_pos hs5], rfl⟩
            · skip
              by_cases hs6 : w = nI 6
              · skip
                refine j_tableIn (off := 91) (tgt := 92) dX4_count_1 (by rw [hs6]; decide) (by rw [hs6]; decide) (by rw [hs6]; rfl) (by decide) ?_
                refine j_aload_n dX4_count_92 0 rfl ?_
                refine g_X4_19 rfl dX4_count_93 0 rfl rfl ?_
                refine g_X4_183 rfl dX4_count_96 1 rfl rfl ?_
                exact j_iret dX4_count_99 ⟨rfl, rfl⟩ ⟨by unfold coF; rw [if_neg hs0, if_neg hs1, if_neg hs2, if_neg hs3, if_neg hs4, if_neg hs5, if_pos hs6], rfl⟩
              · skip
                refine j_tableOut (tgt := 100) dX4_count_1 (ts_out0_6 hs0 hs1 hs2 hs3 hs4 hs5 hs6) (by decide) ?_
                refine j_iconst (v := (-1)) dX4_count_100 (by decide) ?_
                exact j_iret dX4_count_101 ⟨rfl, rfl⟩ ⟨by unfold coF; rw [if_neg hs0, if_neg hs1, if_neg hs2, if_neg hs3, if_neg hs4, if_neg hs5, if_neg hs6], rfl⟩

end TR1
