section MD6
variable {D : DX}
set_option maxHeartbeats 4000000 in
set_option maxRecDepth 100000 in
theorem c_X5_isFigure (M : Nat → Nat) (u m n nx pl it : Nat) (to va : Int32) (sg : SS) (hn : n ≤ 120) (k : Nat) (hk : k ≤ n) : Ct D yX5_isFigure cX5_isFigure 2 (some .boolean) ({ frames := 1, cells := 0, slots := 0, locals := 22 } : Room) [.ref (M 0), .int (nI k)] ((MQx D M u m n nx pl it to va) ++ (AR D (M 8) 120 sg)) (fun v_ u_ => v_ = some (.int (bI (fgB sg n k))) ∧ u_ = (MQx D M u m n nx pl it to va) ++ (AR D (M 8) 120 sg)) := by
  refine ct_of (by decide) (Nat.le_of_ble_eq_true rfl) (lv0 := [(0, .ref (M 0)), (1, .int (nI k))]) rfl (fun Γ => ?_)
  refine j_iload_n dX5_isFigure_0 1 rfl ?_
  refine j_aload_n dX5_isFigure_1 0 rfl ?_
  refine g_X5_42 rfl dX5_isFigure_2 0 rfl rfl ?_
  refine j_icmp_ge_N (tgt := 28) dX5_isFigure_5 (by decide) ⟨by omega, by omega⟩ (fun h5 => ?_) (fun h5 => ?_)
  · skip
    refine j_iconst (v := nI 0) dX5_isFigure_28 (by decide) ?_
    exact j_zret dX5_isFigure_29 (rfl) ⟨rfl, rfl⟩ ⟨rv_f (fgB_f1 h5), rfl⟩
  · skip
    refine j_aload_n dX5_isFigure_8 0 rfl ?_
    refine g_X5_32 rfl dX5_isFigure_9 0 rfl rfl ?_
    refine j_iload_n dX5_isFigure_12 1 rfl ?_
    refine j_iald (v := sg k) dX5_isFigure_13 1 k rfl (rfl) (by omega) (Nat.le_of_ble_eq_true rfl) (rfl) ?_
    refine j_bipush (v := nI 48) dX5_isFigure_14 (by decide) ?_
    refine j_bipush (v := nI 57) dX5_isFigure_16 (by decide) ?_
    refine j_S (w2 := (MQx D M u m n nx pl it to va) ++ (AR D (M 8) 120 sg)) (st2 := [.int (bI (inR (sg k) (nI 48) (nI 57)))]) (c_X5_in (sg k) (nI 48) (nI 57)) rfl cw_X5_38 dX5_isFigure_18 [] rfl [] rfl rfl rfl ?_ ⟨rfl, ⟨Nat.le_of_ble_eq_true rfl, Nat.le_of_ble_eq_true rfl⟩, ⟨rfl, rfl⟩, ⟨Nat.le_of_ble_eq_true rfl, Nat.le_of_ble_eq_true rfl⟩, Nat.le_of_ble_eq_true rfl, rfl, rfl⟩
    refine j_if_eq_B (tgt := 28) dX5_isFigure_21 (by decide) (fun h21 => ?_) (fun h21 => ?_)
    · skip
      refine j_iconst (v := nI 0) dX5_isFigure_28 (by decide) ?_
      exact j_zret dX5_isFigure_29 (rfl) ⟨rfl, rfl⟩ ⟨rv_f (fgB_f2 h21), rfl⟩
    · skip
      refine j_iconst (v := nI 1) dX5_isFigure_24 (by decide) ?_
      refine j_goto (tgt := 29) dX5_isFigure_25 (by decide) ?_
      exact j_zret dX5_isFigure_29 (rfl) ⟨rfl, rfl⟩ ⟨rv_t (fgB_t (by omega) h21), rfl⟩

set_option maxHeartbeats 4000000 in
set_option maxRecDepth 100000 in
theorem c_X5_takesNumber (M : Nat → Nat) (u m n k pl it : Nat) (to va : Int32) (sg : SS) (hn : n ≤ 120) (hk : k < n) : Ct D yX5_takesNumber cX5_takesNumber 6 none ({ frames := 2, cells := 0, slots := 0, locals := 43 } : Room) [.ref (M 0)] ((MQx D M u m n k pl it to va) ++ (AR D (M 8) 120 sg)) (fun v_ u_ => v_ = none ∧ u_ = (MQx D M u m n (nend sg n k) pl it (tkN sg n k) (nvM sg n k)) ++ (AR D (M 8) 120 sg)) := by
  have hf1 := fsx_le (sg := sg) (Nat.le_of_lt hk)
  have hf2 := nend_le (sg := sg) (Nat.le_of_lt hk)
  have hf3 := hf2
  unfold nend at hf3
  refine ct_of (by decide) (Nat.le_of_ble_eq_true rfl) (lv0 := [(0, .ref (M 0))]) rfl (fun Γ => ?_)
  have K173 : J D Γ yX5_takesNumber cX5_takesNumber 6 none ({ frames := 2, cells := 0, slots := 0, locals := 43 } : Room) (Qf D Γ ({ frames := 2, cells := 0, slots := 0, locals := 43 } : Room) (fun v_ u_ => v_ = none ∧ u_ = (MQx D M u m n (nend sg n k) pl it (tkN sg n k) (nvM sg n k)) ++ (AR D (M 8) 120 sg))) 0 0 ((MQx D M u m n (nend sg n k) pl it (tkN sg n k) va) ++ (AR D (M 8) 120 sg)) 173 [(0, .ref (M 0)), (1, .int (bI (bel sg n k)))] [.int (nvM sg n k), .ref (M 0)] := by
    refine p_X5_56 (w2 := (MQx D M u m n (nend sg n k) pl it (tkN sg n k) (nvM sg n k)) ++ (AR D (M 8) 120 sg)) rfl dX5_takesNumber_173 0 rfl (Nat.le_of_ble_eq_true rfl) (rfl) ?_
    exact j_vret dX5_takesNumber_176 ⟨rfl, rfl⟩ ⟨rfl, rfl⟩
  have K159 : J D Γ yX5_takesNumber cX5_takesNumber 6 none ({ frames := 2, cells := 0, slots := 0, locals := 43 } : Room) (Qf D Γ ({ frames := 2, cells := 0, slots := 0, locals := 43 } : Room) (fun v_ u_ => v_ = none ∧ u_ = (MQx D M u m n (nend sg n k) pl it (tkN sg n k) (nvM sg n k)) ++ (AR D (M 8) 120 sg))) 0 0 ((MQx D M u m n (nend sg n k) pl it to va) ++ (AR D (M 8) 120 sg)) 159 [(0, .ref (M 0)), (1, .int (bI (bel sg n k))), (3, .int (mv sg (fsx sg n k) (fm sg n k)))] [.int (tkN sg n k), .ref (M 0)] := by
    refine p_X5_53 (w2 := (MQx D M u m n (nend sg n k) pl it (tkN sg n k) va) ++ (AR D (M 8) 120 sg)) rfl dX5_takesNumber_159 0 rfl (Nat.le_of_ble_eq_true rfl) (rfl) ?_
    refine j_aload_n dX5_takesNumber_162 0 rfl ?_
    refine j_iload_n dX5_takesNumber_163 1 rfl ?_
    refine j_if_eq_B (tgt := 172) dX5_takesNumber_164 (by decide) (fun h164 => ?_) (fun h164 => ?_)
    · skip
      refine j_iload_n dX5_takesNumber_172 2 rfl ?_
      refine j_topi (v := nvM sg n k) (by unfold nvM; rw [if_neg (by rw [h164]; decide)]) ?_
      refine j_lv (lv2 := [(0, .ref (M 0)), (1, .int (bI (bel sg n k)))]) [0, 1] rfl ?_
      exact K173 
    · skip
      refine j_iload_n dX5_takesNumber_167 2 rfl ?_
      refine j_ineg (v := -(mv sg (fsx sg n k) (fm sg n k))) dX5_takesNumber_168 (rfl) ?_
      refine j_goto (tgt := 173) dX5_takesNumber_169 (by decide) ?_
      refine j_topi (v := nvM sg n k) (by unfold nvM; rw [if_pos h164]) ?_
      refine j_lv (lv2 := [(0, .ref (M 0)), (1, .int (bI (bel sg n k)))]) [0, 1] rfl ?_
      exact K173 
  have K142 : J D Γ yX5_takesNumber cX5_takesNumber 6 none ({ frames := 2, cells := 0, slots := 0, locals := 43 } : Room) (Qf D Γ ({ frames := 2, cells := 0, slots := 0, locals := 43 } : Room) (fun v_ u_ => v_ = none ∧ u_ = (MQx D M u m n (nend sg n k) pl it (tkN sg n k) (nvM sg n k)) ++ (AR D (M 8) 120 sg))) 0 0 ((MQx D M u m n (nend sg n k) pl it to va) ++ (AR D (M 8) 120 sg)) 142 [(0, .ref (M 0)), (1, .int (bI (bel sg n k))), (3, .int (mv sg (fsx sg n k) (fm sg n k)))] [.int (bI (wf sg n k))] := by
    refine j_istore (lv2 := [(0, .ref (M 0)), (1, .int (bI (bel sg n k))), (3, .int (mv sg (fsx sg n k) (fm sg n k))), (5, .int (bI (wf sg n k)))]) dX5_takesNumber_142 (by decide) [1, 2, 3, 0] rfl ?_
    refine j_aload_n dX5_takesNumber_144 0 rfl ?_
    refine j_iload dX5_takesNumber_145 3 rfl ?_
    refine j_if_eq_B (tgt := 156) dX5_takesNumber_147 (by decide) (fun h147 => ?_) (fun h147 => ?_)
    · skip
      refine j_sipush (v := nI 1001) dX5_takesNumber_156 (by decide) ?_
      refine j_topi (v := tkN sg n k) (by rw [tkN_f h147]) ?_
      refine j_lv (lv2 := [(0, .ref (M 0)), (1, .int (bI (bel sg n k))), (3, .int (mv sg (fsx sg n k) (fm sg n k)))]) [0, 1, 2] rfl ?_
      exact K159 
    · skip
      refine j_sipush (v := nI 1000) dX5_takesNumber_150 (by decide) ?_
      refine j_goto (tgt := 159) dX5_takesNumber_153 (by decide) ?_
      refine j_topi (v := tkN sg n k) (by rw [tkN_t h147]) ?_
      refine j_lv (lv2 := [(0, .ref (M 0)), (1, .int (bI (bel sg n k))), (3, .int (mv sg (fsx sg n k) (fm sg n k)))]) [0, 1, 2] rfl ?_
      exact K159 
  have K35 : J D Γ yX5_takesNumber cX5_takesNumber 6 none ({ frames := 2, cells := 0, slots := 0, locals := 43 } : Room) (Qf D Γ ({ frames := 2, cells := 0, slots := 0, locals := 43 } : Room) (fun v_ u_ => v_ = none ∧ u_ = (MQx D M u m n (nend sg n k) pl it (tkN sg n k) (nvM sg n k)) ++ (AR D (M 8) 120 sg))) 0 0 ((MQx D M u m n k pl it to va) ++ (AR D (M 8) 120 sg)) 35 [(0, .ref (M 0)), (1, .int (bI (bel sg n k)))] [.int (nI (fsx sg n k)), .ref (M 0)] := by
    refine p_X5_46 (w2 := (MQx D M u m n (fsx sg n k) pl it to va) ++ (AR D (M 8) 120 sg)) rfl dX5_takesNumber_35 0 rfl (Nat.le_of_ble_eq_true rfl) (rfl) ?_
    refine j_aload_n dX5_takesNumber_38 0 rfl ?_
    refine g_X5_46 rfl dX5_takesNumber_39 0 rfl rfl ?_
    refine j_istore_n (lv2 := [(0, .ref (M 0)), (1, .int (bI (bel sg n k))), (2, .int (nI (fsx sg n k)))]) dX5_takesNumber_42 (by decide) [1, 2, 0] rfl ?_
    refine j_iconst (v := nI 0) dX5_takesNumber_43 (by decide) ?_
    refine j_istore_n (lv2 := [(0, .ref (M 0)), (1, .int (bI (bel sg n k))), (2, .int (nI (fsx sg n k))), (3, .int (nI 0))]) dX5_takesNumber_44 (by decide) [1, 2, 3, 0] rfl ?_
    have L45 : ∀ (fuel : Nat) (i : Nat), fsx sg n k + i ≤ n → fm sg n k = fg sg n (fsx sg n k + i) + i → n - (fsx sg n k + i) < fuel → J D Γ yX5_takesNumber cX5_takesNumber 6 none ({ frames := 2, cells := 0, slots := 0, locals := 43 } : Room) (Qf D Γ ({ frames := 2, cells := 0, slots := 0, locals := 43 } : Room) (fun v_ u_ => v_ = none ∧ u_ = (MQx D M u m n (nend sg n k) pl it (tkN sg n k) (nvM sg n k)) ++ (AR D (M 8) 120 sg))) 0 0 ((MQx D M u m n (fsx sg n k + i) pl it to va) ++ (AR D (M 8) 120 sg)) 45 [(0, .ref (M 0)), (1, .int (bI (bel sg n k))), (2, .int (nI (fsx sg n k))), (3, .int (mv sg (fsx sg n k) i))] [] := by
      intro fuel
      induction fuel with
      | zero => intro i hi1 he hm; exact absurd hm (Nat.not_lt_zero _)
      | succ fuel ih =>
        intro i hi1 he hm
        refine j_aload_n dX5_takesNumber_45 0 rfl ?_
        refine j_aload_n dX5_takesNumber_46 0 rfl ?_
        refine g_X5_46 rfl dX5_takesNumber_47 0 rfl rfl ?_
        refine j_V (w2 := (MQx D M u m n (fsx sg n k + i) pl it to va) ++ (AR D (M 8) 120 sg)) (st2 := [.int (bI (fgB sg n (fsx sg n k + i)))]) (c_X5_isFigure M u m n (fsx sg n k + i) pl it to va sg (by omega) (fsx sg n k + i) (by omega)) rfl cw_X5_49 dX5_takesNumber_50 [] rfl [0, 1] rfl rfl rfl 5 ?_ ⟨rfl, ⟨Nat.le_of_ble_eq_true rfl, Nat.le_of_ble_eq_true rfl⟩, ⟨rfl, rfl⟩, ⟨Nat.le_of_ble_eq_true rfl, Nat.le_of_ble_eq_true rfl⟩, Nat.le_of_ble_eq_true rfl, rfl, rfl⟩ rfl rfl rfl
        refine j_if_eq_B (tgt := 98) dX5_takesNumber_53 (by decide) (fun h53 => ?_) (fun h53 => ?_)
        · skip
          have him : i = fm sg n k := by rw [he, fg_stop (fgB_n h53)]; omega
          subst him
          refine j_aload_n dX5_takesNumber_98 0 rfl ?_
          refine g_X5_46 rfl dX5_takesNumber_99 0 rfl rfl ?_
          refine j_iload_n dX5_takesNumber_102 2 rfl ?_
          refine j_isub (v := nI (fm sg n k)) dX5_takesNumber_103 ((pk_sub (by omega)).trans (congrArg nI (by omega))) ?_
          refine j_istore (lv2 := [(0, .ref (M 0)), (1, .int (bI (bel sg n k))), (2, .int (nI (fsx sg n k))), (3, .int (mv sg (fsx sg n k) (fm sg n k))), (4, .int (nI (fm sg n k)))]) dX5_takesNumber_104 (by decide) [1, 2, 3, 4, 0] rfl ?_
          refine j_iload dX5_takesNumber_106 4 rfl ?_
          refine j_iconst (v := nI 1) dX5_takesNumber_108 (by decide) ?_
          refine j_iconst (v := nI 3) dX5_takesNumber_109 (by decide) ?_
          refine j_S (w2 := (MQx D M u m n (nend sg n k) pl it to va) ++ (AR D (M 8) 120 sg)) (st2 := [.int (bI (inR (nI (fm sg n k)) (nI 1) (nI 3)))]) (c_X5_in (nI (fm sg n k)) (nI 1) (nI 3)) rfl cw_X5_38 dX5_takesNumber_110 [] rfl [] rfl rfl rfl ?_ ⟨rfl, ⟨Nat.le_of_ble_eq_true rfl, Nat.le_of_ble_eq_true rfl⟩, ⟨rfl, rfl⟩, ⟨Nat.le_of_ble_eq_true rfl, Nat.le_of_ble_eq_true rfl⟩, Nat.le_of_ble_eq_true rfl, rfl, rfl⟩
          refine j_if_eq_B (tgt := 141) dX5_takesNumber_113 (by decide) (fun h113 => ?_) (fun h113 => ?_)
          · skip
            refine j_iconst (v := nI 0) dX5_takesNumber_141 (by decide) ?_
            refine j_topi (v := bI (wf sg n k)) (by rw [wf_no (fun q => inR_Nf (by decide) h113 ⟨q.1, q.2.1⟩)]; rfl) ?_
            refine j_lv (lv2 := [(0, .ref (M 0)), (1, .int (bI (bel sg n k))), (3, .int (mv sg (fsx sg n k) (fm sg n k)))]) [0, 1, 3] rfl ?_
            exact K142 
          · skip
            have hfm := inR_N (by omega) (by decide) (by decide) h113
            refine j_aload_n dX5_takesNumber_116 0 rfl ?_
            refine g_X5_32 rfl dX5_takesNumber_117 0 rfl rfl ?_
            refine j_iload_n dX5_takesNumber_120 2 rfl ?_
            refine j_iald (v := sg (fsx sg n k)) dX5_takesNumber_121 1 (fsx sg n k) rfl (rfl) (by omega) (Nat.le_of_ble_eq_true rfl) (rfl) ?_
            refine j_bipush (v := nI 48) dX5_takesNumber_122 (by decide) ?_
            refine j_icmp_ne (tgt := 137) dX5_takesNumber_124 (by decide) (fun h124 => ?_) (fun h124 => ?_)
            · skip
              refine j_iconst (v := nI 1) dX5_takesNumber_137 (by decide) ?_
              refine j_goto (tgt := 142) dX5_takesNumber_138 (by decide) ?_
              refine j_topi (v := bI (wf sg n k)) (by rw [wf_iff.mpr ⟨hfm.1, hfm.2, fun q => h124 q.1⟩]; rfl) ?_
              refine j_lv (lv2 := [(0, .ref (M 0)), (1, .int (bI (bel sg n k))), (3, .int (mv sg (fsx sg n k) (fm sg n k)))]) [0, 1, 3] rfl ?_
              exact K142 
            · skip
              refine j_iload dX5_takesNumber_127 4 rfl ?_
              refine j_iconst (v := nI 1) dX5_takesNumber_129 (by decide) ?_
              refine j_icmp_ne_N (tgt := 141) dX5_takesNumber_130 (by decide) ⟨by omega, by omega⟩ (fun h130 => ?_) (fun h130 => ?_)
              · skip
                refine j_iconst (v := nI 0) dX5_takesNumber_141 (by decide) ?_
                refine j_topi (v := bI (wf sg n k)) (by rw [wf_no (fun q => q.2.2 ⟨h124, Or.inl (by omega)⟩)]; rfl) ?_
                refine j_lv (lv2 := [(0, .ref (M 0)), (1, .int (bI (bel sg n k))), (3, .int (mv sg (fsx sg n k) (fm sg n k)))]) [0, 1, 3] rfl ?_
                exact K142 
              · skip
                refine j_iload_n dX5_takesNumber_133 1 rfl ?_
                refine j_if_ne_B (tgt := 141) dX5_takesNumber_134 (by decide) (fun h134 => ?_) (fun h134 => ?_)
                · skip
                  refine j_iconst (v := nI 0) dX5_takesNumber_141 (by decide) ?_
                  refine j_topi (v := bI (wf sg n k)) (by rw [wf_no (fun q => q.2.2 ⟨h124, Or.inr h134⟩)]; rfl) ?_
                  refine j_lv (lv2 := [(0, .ref (M 0)), (1, .int (bI (bel sg n k))), (3, .int (mv sg (fsx sg n k) (fm sg n k)))]) [0, 1, 3] rfl ?_
                  exact K142 
                · skip
                  refine j_iconst (v := nI 1) dX5_takesNumber_137 (by decide) ?_
                  refine j_goto (tgt := 142) dX5_takesNumber_138 (by decide) ?_
                  refine j_topi (v := bI (wf sg n k)) (by rw [wf_iff.mpr ⟨hfm.1, hfm.2, fun q => q.2.elim (fun z => by omega) (fun z => by rw [h134] at z; cases z)⟩]; rfl) ?_
                  refine j_lv (lv2 := [(0, .ref (M 0)), (1, .int (bI (bel sg n k))), (3, .int (mv sg (fsx sg n k) (fm sg n k)))]) [0, 1, 3] rfl ?_
                  exact K142 
        · skip
          have hfg := fgB_y h53
          refine j_iload_n dX5_takesNumber_56 3 rfl ?_
          refine j_sipush (v := nI 9999) dX5_takesNumber_57 (by decide) ?_
          refine j_icmp_le (tgt := 67) dX5_takesNumber_60 (by decide) (fun h60 => ?_) (fun h60 => ?_)
          · skip
            refine j_bipush (v := nI 10) dX5_takesNumber_67 (by decide) ?_
            refine j_iload_n dX5_takesNumber_69 3 rfl ?_
            refine j_imul (v := (nI 10) * (mv sg (fsx sg n k) i)) dX5_takesNumber_70 (rfl) ?_
            refine j_aload_n dX5_takesNumber_71 0 rfl ?_
            refine g_X5_32 rfl dX5_takesNumber_72 0 rfl rfl ?_
            refine j_aload_n dX5_takesNumber_75 0 rfl ?_
            refine g_X5_46 rfl dX5_takesNumber_76 0 rfl rfl ?_
            refine j_iald (v := sg (fsx sg n k + i)) dX5_takesNumber_79 1 (fsx sg n k + i) rfl (rfl) (by omega) (Nat.le_of_ble_eq_true rfl) (rfl) ?_
            refine j_iadd (v := ((nI 10) * (mv sg (fsx sg n k) i)) + (sg (fsx sg n k + i))) dX5_takesNumber_80 (rfl) ?_
            refine j_bipush (v := nI 48) dX5_takesNumber_81 (by decide) ?_
            refine j_isub (v := mv sg (fsx sg n k) (i + 1)) dX5_takesNumber_83 ((if_neg (Int32.not_lt.mpr h60)).symm) ?_
            refine j_istore_n (lv2 := [(0, .ref (M 0)), (1, .int (bI (bel sg n k))), (2, .int (nI (fsx sg n k))), (3, .int (mv sg (fsx sg n k) (i + 1)))]) dX5_takesNumber_84 (by decide) [1, 2, 3, 0] rfl ?_
            refine j_aload_n dX5_takesNumber_85 0 rfl ?_
            refine j_dup dX5_takesNumber_86 rfl ?_
            refine g_X5_46 rfl dX5_takesNumber_87 0 rfl rfl ?_
            refine j_iconst (v := nI 1) dX5_takesNumber_90 (by decide) ?_
            refine j_iadd (v := nI (fsx sg n k + i + 1)) dX5_takesNumber_91 (nI_add _ _) ?_
            refine p_X5_46 (w2 := (MQx D M u m n (fsx sg n k + (i + 1)) pl it to va) ++ (AR D (M 8) 120 sg)) rfl dX5_takesNumber_92 0 rfl (Nat.le_of_ble_eq_true rfl) (rfl) ?_
            refine j_goto (tgt := 45) dX5_takesNumber_95 (by decide) ?_
            exact ih (i + 1) (by omega) (by rw [he, fg_go (by omega) hfg.2]; show fg sg n (fsx sg n k + i + 1) + 1 + i = fg sg n (fsx sg n k + i + 1) + (i + 1); omega) (by omega)
          · skip
            refine j_iload_n dX5_takesNumber_63 3 rfl ?_
            refine j_goto (tgt := 84) dX5_takesNumber_64 (by decide) ?_
            refine j_topi (v := mv sg (fsx sg n k) (i + 1)) (if_pos (Int32.not_le.mp h60)).symm ?_
            refine j_istore_n (lv2 := [(0, .ref (M 0)), (1, .int (bI (bel sg n k))), (2, .int (nI (fsx sg n k))), (3, .int (mv sg (fsx sg n k) (i + 1)))]) dX5_takesNumber_84 (by decide) [1, 2, 3, 0] rfl ?_
            refine j_aload_n dX5_takesNumber_85 0 rfl ?_
            refine j_dup dX5_takesNumber_86 rfl ?_
            refine g_X5_46 rfl dX5_takesNumber_87 0 rfl rfl ?_
            refine j_iconst (v := nI 1) dX5_takesNumber_90 (by decide) ?_
            refine j_iadd (v := nI (fsx sg n k + i + 1)) dX5_takesNumber_91 (nI_add _ _) ?_
            refine p_X5_46 (w2 := (MQx D M u m n (fsx sg n k + (i + 1)) pl it to va) ++ (AR D (M 8) 120 sg)) rfl dX5_takesNumber_92 0 rfl (Nat.le_of_ble_eq_true rfl) (rfl) ?_
            refine j_goto (tgt := 45) dX5_takesNumber_95 (by decide) ?_
            exact ih (i + 1) (by omega) (by rw [he, fg_go (by omega) hfg.2]; show fg sg n (fsx sg n k + i + 1) + 1 + i = fg sg n (fsx sg n k + i + 1) + (i + 1); omega) (by omega)
    exact L45 (n + 1) 0 (by omega) rfl (by omega)
  have K19 : J D Γ yX5_takesNumber cX5_takesNumber 6 none ({ frames := 2, cells := 0, slots := 0, locals := 43 } : Room) (Qf D Γ ({ frames := 2, cells := 0, slots := 0, locals := 43 } : Room) (fun v_ u_ => v_ = none ∧ u_ = (MQx D M u m n (nend sg n k) pl it (tkN sg n k) (nvM sg n k)) ++ (AR D (M 8) 120 sg))) 0 0 ((MQx D M u m n k pl it to va) ++ (AR D (M 8) 120 sg)) 19 [(0, .ref (M 0))] [.int (bI (bel sg n k))] := by
    refine j_istore_n (lv2 := [(0, .ref (M 0)), (1, .int (bI (bel sg n k)))]) dX5_takesNumber_19 (by decide) [1, 0] rfl ?_
    refine j_aload_n dX5_takesNumber_20 0 rfl ?_
    refine j_dup dX5_takesNumber_21 rfl ?_
    refine g_X5_46 rfl dX5_takesNumber_22 0 rfl rfl ?_
    refine j_iload_n dX5_takesNumber_25 1 rfl ?_
    refine j_if_eq_B (tgt := 33) dX5_takesNumber_26 (by decide) (fun h26 => ?_) (fun h26 => ?_)
    · skip
      refine j_iconst (v := nI 0) dX5_takesNumber_33 (by decide) ?_
      refine j_iadd (v := nI (fsx sg n k)) dX5_takesNumber_34 ((nI_add _ _).trans (congrArg nI (by rw [fsx_f h26]; omega))) ?_
      exact K35 
    · skip
      refine j_iconst (v := nI 1) dX5_takesNumber_29 (by decide) ?_
      refine j_goto (tgt := 34) dX5_takesNumber_30 (by decide) ?_
      refine j_iadd (v := nI (fsx sg n k)) dX5_takesNumber_34 ((nI_add _ _).trans (congrArg nI (by rw [fsx_t h26]))) ?_
      exact K35 
  refine j_aload_n dX5_takesNumber_0 0 rfl ?_
  refine g_X5_32 rfl dX5_takesNumber_1 0 rfl rfl ?_
  refine j_aload_n dX5_takesNumber_4 0 rfl ?_
  refine g_X5_46 rfl dX5_takesNumber_5 0 rfl rfl ?_
  refine j_iald (v := sg k) dX5_takesNumber_8 1 k rfl (rfl) (by omega) (Nat.le_of_ble_eq_true rfl) (rfl) ?_
  refine j_bipush (v := nI 45) dX5_takesNumber_9 (by decide) ?_
  refine j_icmp_ne (tgt := 18) dX5_takesNumber_11 (by decide) (fun h11 => ?_) (fun h11 => ?_)
  · skip
    refine j_iconst (v := nI 0) dX5_takesNumber_18 (by decide) ?_
    refine j_topi (v := bI (bel sg n k)) (by rw [bel_f2 h11]; rfl) ?_
    exact K19 
  · skip
    refine j_iconst (v := nI 1) dX5_takesNumber_14 (by decide) ?_
    refine j_goto (tgt := 19) dX5_takesNumber_15 (by decide) ?_
    refine j_topi (v := bI (bel sg n k)) (by rw [bel_t hk h11]; rfl) ?_
    exact K19 

set_option maxHeartbeats 4000000 in
set_option maxRecDepth 100000 in
theorem c_X5_takes (M : Nat → Nat) (u m n k pl it : Nat) (to va : Int32) (sg : SS) (hn : n ≤ 120) (hk : k ≤ n) : Ct D yX5_takes cX5_takes 1 none ({ frames := 3, cells := 0, slots := 0, locals := 68 } : Room) [.ref (M 0)] ((MQx D M u m n k pl it to va) ++ (AR D (M 8) 120 sg)) (fun v_ u_ => v_ = none ∧ u_ = (MT D M u m n it sg k va) ++ (AR D (M 8) 120 sg)) := by
  have hskn : sk sg n k ≤ n := sk_n hk
  refine ct_of (by decide) (Nat.le_of_ble_eq_true rfl) (lv0 := [(0, .ref (M 0))]) rfl (fun Γ => ?_)
  have K38 : J D Γ yX5_takes cX5_takes 1 none ({ frames := 3, cells := 0, slots := 0, locals := 68 } : Room) (Qf D Γ ({ frames := 3, cells := 0, slots := 0, locals := 68 } : Room) (fun v_ u_ => v_ = none ∧ u_ = (MT D M u m n it sg k va) ++ (AR D (M 8) 120 sg))) 0 0 ((MQx D M u m n (sk sg n k) pl it to va) ++ (AR D (M 8) 120 sg)) 38 [(0, .ref (M 0))] [] := by
    refine j_aload_n dX5_takes_38 0 rfl ?_
    refine j_aload_n dX5_takes_39 0 rfl ?_
    refine g_X5_46 rfl dX5_takes_40 0 rfl rfl ?_
    refine p_X5_59 (w2 := (MQx D M u m n (sk sg n k) (sk sg n k) it to va) ++ (AR D (M 8) 120 sg)) rfl dX5_takes_43 0 rfl (Nat.le_of_ble_eq_true rfl) (rfl) ?_
    refine j_aload_n dX5_takes_46 0 rfl ?_
    refine g_X5_46 rfl dX5_takes_47 0 rfl rfl ?_
    refine j_aload_n dX5_takes_50 0 rfl ?_
    refine g_X5_42 rfl dX5_takes_51 0 rfl rfl ?_
    refine j_icmp_ne_N (tgt := 65) dX5_takes_54 (by decide) ⟨by omega, by omega⟩ (fun h54 => ?_) (fun h54 => ?_)
    · skip
      have hlt : sk sg n k < n := by omega
      refine j_aload_n dX5_takes_65 0 rfl ?_
      refine j_aload_n dX5_takes_66 0 rfl ?_
      refine g_X5_46 rfl dX5_takes_67 0 rfl rfl ?_
      refine j_V (w2 := (MQx D M u m n (sk sg n k) (sk sg n k) it to va) ++ (AR D (M 8) 120 sg)) (st2 := [.int (bI (fgB sg n (sk sg n k)))]) (c_X5_isFigure M u m n (sk sg n k) (sk sg n k) it to va sg (by omega) (sk sg n k) (by omega)) rfl cw_X5_49 dX5_takes_70 [] rfl [0, 1] rfl rfl rfl 5 ?_ ⟨rfl, ⟨Nat.le_of_ble_eq_true rfl, Nat.le_of_ble_eq_true rfl⟩, ⟨rfl, rfl⟩, ⟨Nat.le_of_ble_eq_true rfl, Nat.le_of_ble_eq_true rfl⟩, Nat.le_of_ble_eq_true rfl, rfl, rfl⟩ rfl rfl rfl
      refine j_if_ne_B (tgt := 90) dX5_takes_73 (by decide) (fun h73 => ?_) (fun h73 => ?_)
      · skip
        have hnb := numB_1 (fgB_y h73).2
        refine j_aload_n dX5_takes_90 0 rfl ?_
        refine j_V (w2 := (MQx D M u m n (nend sg n (sk sg n k)) (sk sg n k) it (tkN sg n (sk sg n k)) (nvM sg n (sk sg n k))) ++ (AR D (M 8) 120 sg)) (st2 := []) (c_X5_takesNumber M u m n (sk sg n k) (sk sg n k) it to va sg (by omega) (by omega)) rfl cw_X5_62 dX5_takes_91 [] rfl [0, 1] rfl rfl rfl 5 ?_ ⟨rfl, ⟨Nat.le_of_ble_eq_true rfl, Nat.le_of_ble_eq_true rfl⟩, ⟨rfl, rfl⟩, ⟨Nat.le_of_ble_eq_true rfl, Nat.le_of_ble_eq_true rfl⟩, Nat.le_of_ble_eq_true rfl, rfl, rfl⟩ rfl rfl rfl
        refine j_goto (tgt := 120) dX5_takes_94 (by decide) ?_
        exact j_vret dX5_takes_120 ⟨rfl, rfl⟩ ⟨rfl, by rw [show MT D M u m n it sg k va = MQx D M u m n (nend sg n (sk sg n k)) (sk sg n k) it (tkN sg n (sk sg n k)) (nvM sg n (sk sg n k)) from by unfold MT; rw [tN_y hlt hnb, tT_y hlt hnb, tV_y hlt hnb]]⟩
      · skip
        refine j_aload_n dX5_takes_76 0 rfl ?_
        refine g_X5_32 rfl dX5_takes_77 0 rfl rfl ?_
        refine j_aload_n dX5_takes_80 0 rfl ?_
        refine g_X5_46 rfl dX5_takes_81 0 rfl rfl ?_
        refine j_iald (v := sg (sk sg n k)) dX5_takes_84 1 (sk sg n k) rfl (rfl) (by omega) (Nat.le_of_ble_eq_true rfl) (rfl) ?_
        refine j_bipush (v := nI 45) dX5_takes_85 (by decide) ?_
        refine j_icmp_ne (tgt := 97) dX5_takes_87 (by decide) (fun h87 => ?_) (fun h87 => ?_)
        · skip
          have hnb := numB_0 (by cases hd : dgt (sg (sk sg n k)) with | false => rfl | true => exact absurd ⟨hlt, hd⟩ (fgB_n h73)) h87
          refine j_aload_n dX5_takes_97 0 rfl ?_
          refine j_aload_n dX5_takes_98 0 rfl ?_
          refine g_X5_32 rfl dX5_takes_99 0 rfl rfl ?_
          refine j_aload_n dX5_takes_102 0 rfl ?_
          refine g_X5_46 rfl dX5_takes_103 0 rfl rfl ?_
          refine j_iald (v := sg (sk sg n k)) dX5_takes_106 1 (sk sg n k) rfl (rfl) (by omega) (Nat.le_of_ble_eq_true rfl) (rfl) ?_
          refine p_X5_53 (w2 := (MQx D M u m n (sk sg n k) (sk sg n k) it (sg (sk sg n k)) va) ++ (AR D (M 8) 120 sg)) rfl dX5_takes_107 0 rfl (Nat.le_of_ble_eq_true rfl) (rfl) ?_
          refine j_aload_n dX5_takes_110 0 rfl ?_
          refine j_dup dX5_takes_111 rfl ?_
          refine g_X5_46 rfl dX5_takes_112 0 rfl rfl ?_
          refine j_iconst (v := nI 1) dX5_takes_115 (by decide) ?_
          refine j_iadd (v := nI (sk sg n k + 1)) dX5_takes_116 (nI_add _ _) ?_
          refine p_X5_46 (w2 := (MQx D M u m n (sk sg n k + 1) (sk sg n k) it (sg (sk sg n k)) va) ++ (AR D (M 8) 120 sg)) rfl dX5_takes_117 0 rfl (Nat.le_of_ble_eq_true rfl) (rfl) ?_
          exact j_vret dX5_takes_120 ⟨rfl, rfl⟩ ⟨rfl, by rw [show MT D M u m n it sg k va = MQx D M u m n (sk sg n k + 1) (sk sg n k) it (sg (sk sg n k)) va from by unfold MT; rw [tN_n hlt hnb, tT_n hlt hnb, tV_n hlt hnb]]⟩
        · skip
          have hnb := numB_2 h87
          refine j_aload_n dX5_takes_90 0 rfl ?_
          refine j_V (w2 := (MQx D M u m n (nend sg n (sk sg n k)) (sk sg n k) it (tkN sg n (sk sg n k)) (nvM sg n (sk sg n k))) ++ (AR D (M 8) 120 sg)) (st2 := []) (c_X5_takesNumber M u m n (sk sg n k) (sk sg n k) it to va sg (by omega) (by omega)) rfl cw_X5_62 dX5_takes_91 [] rfl [0, 1] rfl rfl rfl 5 ?_ ⟨rfl, ⟨Nat.le_of_ble_eq_true rfl, Nat.le_of_ble_eq_true rfl⟩, ⟨rfl, rfl⟩, ⟨Nat.le_of_ble_eq_true rfl, Nat.le_of_ble_eq_true rfl⟩, Nat.le_of_ble_eq_true rfl, rfl, rfl⟩ rfl rfl rfl
          refine j_goto (tgt := 120) dX5_takes_94 (by decide) ?_
          exact j_vret dX5_takes_120 ⟨rfl, rfl⟩ ⟨rfl, by rw [show MT D M u m n it sg k va = MQx D M u m n (nend sg n (sk sg n k)) (sk sg n k) it (tkN sg n (sk sg n k)) (nvM sg n (sk sg n k)) from by unfold MT; rw [tN_y hlt hnb, tT_y hlt hnb, tV_y hlt hnb]]⟩
    · skip
      have hlt : ¬ sk sg n k < n := by omega
      refine j_aload_n dX5_takes_57 0 rfl ?_
      refine j_iconst (v := (-1)) dX5_takes_58 (by decide) ?_
      refine p_X5_53 (w2 := (MQx D M u m n (sk sg n k) (sk sg n k) it (-1) va) ++ (AR D (M 8) 120 sg)) rfl dX5_takes_59 0 rfl (Nat.le_of_ble_eq_true rfl) (rfl) ?_
      refine j_goto (tgt := 120) dX5_takes_62 (by decide) ?_
      exact j_vret dX5_takes_120 ⟨rfl, rfl⟩ ⟨rfl, by rw [show MT D M u m n it sg k va = MQx D M u m n (sk sg n k) (sk sg n k) it (-1) va from by unfold MT; rw [tN_e hlt, tT_e hlt, tV_e hlt, h54]]⟩
  have L0 : ∀ (fuel : Nat) (j : Nat), j ≤ n → sk sg n k = sk sg n j → n - j < fuel → J D Γ yX5_takes cX5_takes 1 none ({ frames := 3, cells := 0, slots := 0, locals := 68 } : Room) (Qf D Γ ({ frames := 3, cells := 0, slots := 0, locals := 68 } : Room) (fun v_ u_ => v_ = none ∧ u_ = (MT D M u m n it sg k va) ++ (AR D (M 8) 120 sg))) 0 0 ((MQx D M u m n j pl it to va) ++ (AR D (M 8) 120 sg)) 0 [(0, .ref (M 0))] [] := by
    intro fuel
    induction fuel with
    | zero => intro j hj he hm; exact absurd hm (Nat.not_lt_zero _)
    | succ fuel ih =>
      intro j hj he hm
      refine j_aload_n dX5_takes_0 0 rfl ?_
      refine g_X5_46 rfl dX5_takes_1 0 rfl rfl ?_
      refine j_aload_n dX5_takes_4 0 rfl ?_
      refine g_X5_42 rfl dX5_takes_5 0 rfl rfl ?_
      refine j_icmp_ge_N (tgt := 38) dX5_takes_8 (by decide) ⟨by omega, by omega⟩ (fun h8 => ?_) (fun h8 => ?_)
      · skip
        have hh := K38
        rw [show sk sg n k = j from by rw [he, sk_stop (fun q => by omega)]] at hh
        exact hh
      · skip
        refine j_aload_n dX5_takes_11 0 rfl ?_
        refine g_X5_32 rfl dX5_takes_12 0 rfl rfl ?_
        refine j_aload_n dX5_takes_15 0 rfl ?_
        refine g_X5_46 rfl dX5_takes_16 0 rfl rfl ?_
        refine j_iald (v := sg j) dX5_takes_19 1 j rfl (rfl) (by omega) (Nat.le_of_ble_eq_true rfl) (rfl) ?_
        refine j_bipush (v := nI 32) dX5_takes_20 (by decide) ?_
        refine j_icmp_ne (tgt := 38) dX5_takes_22 (by decide) (fun h22 => ?_) (fun h22 => ?_)
        · skip
          have hh := K38
          rw [show sk sg n k = j from by rw [he, sk_stop (fun q => h22 q.2)]] at hh
          exact hh
        · skip
          refine j_aload_n dX5_takes_25 0 rfl ?_
          refine j_dup dX5_takes_26 rfl ?_
          refine g_X5_46 rfl dX5_takes_27 0 rfl rfl ?_
          refine j_iconst (v := nI 1) dX5_takes_30 (by decide) ?_
          refine j_iadd (v := nI (j + 1)) dX5_takes_31 (nI_add _ _) ?_
          refine p_X5_46 (w2 := (MQx D M u m n (j + 1) pl it to va) ++ (AR D (M 8) 120 sg)) rfl dX5_takes_32 0 rfl (Nat.le_of_ble_eq_true rfl) (rfl) ?_
          refine j_goto (tgt := 0) dX5_takes_35 (by decide) ?_
          exact ih (j + 1) (by omega) (by rw [he, sk_go (by omega) h22]) (by omega)
  exact L0 (n + 1) k hk rfl (by omega)

end MD6
