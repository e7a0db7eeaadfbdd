section IN1
variable {D : DX}
set_option maxHeartbeats 4000000 in
set_option maxRecDepth 100000 in
theorem c_X0_init (a : Nat) : Ct D yX0_init cX0_init 2 none ({ frames := 1, cells := 4, slots := 428, locals := 20 } : Room) [.ref a] ([(a, .inr (0, [.null, .null, .null, .null, .int 0, .int 0, .int 0]))]) (fun v_ u_ => v_ = none ∧ ∃ E : Nat → Nat, E 0 = a ∧ u_ = EW D E s0) := by
  refine ct_of (by decide) (Nat.le_of_ble_eq_true rfl) (lv0 := [(0, .ref a)]) rfl (fun Γ => ?_)
  refine j_aload_n dX0_init_0 0 rfl ?_
  refine j_oi rfl m_ml_X0_3 dX0_init_1 ⟨Nat.le_of_ble_eq_true rfl, Nat.le_of_ble_eq_true rfl⟩ ?_
  refine j_aload_n dX0_init_4 0 rfl ?_
  refine j_bipush (v := nI 64) dX0_init_5 (by decide) ?_
  refine j_newI (N := 64) rfl (Nat.le_of_ble_eq_true rfl) ⟨Nat.le_of_ble_eq_true rfl, Nat.le_of_ble_eq_true rfl⟩ dX0_init_7 (fun q1 => ?_)
  refine j_ws (w2 := ([(a, .inr (0, [.null, .null, .null, .null, .int 0, .int 0, .int 0]))]) ++ ([(q1, .inl (dI D, 64, .inl (fun _ => 0)))])) (st2 := [.ref q1, .ref a]) rfl rfl ?_
  refine p_X0_9 (w2 := ([(a, .inr (0, [.ref q1, .null, .null, .null, .int 0, .int 0, .int 0]))]) ++ ([(q1, .inl (dI D, 64, .inl (fun _ => 0)))])) rfl rfl dX0_init_9 0 rfl (Nat.le_of_ble_eq_true rfl) (rfl) ?_
  refine j_w (w2 := ([(a, .inr (0, [.ref q1, .null, .null, .null, .int 0, .int 0, .int 0]))]) ++ ([(q1, .inl (dI D, 64, .inl (mI 0)))])) (by rw [mI_0]) ?_
  refine j_iconst (v := nI 0) dX0_init_12 (by decide) ?_
  refine j_istore_n (lv2 := [(0, .ref a), (1, .int (nI 0))]) dX0_init_13 (by decide) [1, 0] rfl ?_
  have L14 : ∀ (fuel : Nat) (i : Nat), i ≤ 64 → 64 - i < fuel → J D Γ yX0_init cX0_init 2 none ({ frames := 1, cells := 4, slots := 428, locals := 20 } : Room) (Qf D Γ ({ frames := 1, cells := 4, slots := 428, locals := 20 } : Room) (fun v_ u_ => v_ = none ∧ ∃ E : Nat → Nat, E 0 = a ∧ u_ = EW D E s0)) 1 64 (([(a, .inr (0, [.ref q1, .null, .null, .null, .int 0, .int 0, .int 0]))]) ++ ([(q1, .inl (dI D, 64, .inl (mI i)))])) 14 [(0, .ref a), (1, .int (nI i))] [] := by
    intro fuel
    induction fuel with
    | zero => intro i hi hm; exact absurd hm (Nat.not_lt_zero _)
    | succ fuel ih =>
      intro i hi hm
      refine j_iload_n dX0_init_14 1 rfl ?_
      refine j_bipush (v := nI 64) dX0_init_15 (by decide) ?_
      refine j_icmp_ge_N (tgt := 33) dX0_init_17 (by decide) ⟨by omega, by omega⟩ (fun h17 => ?_) (fun h17 => ?_)
      · skip
        obtain rfl : i = 64 := by omega
        refine j_aload_n dX0_init_33 0 rfl ?_
        refine j_bipush (v := nI 28) dX0_init_34 (by decide) ?_
        refine j_newI (N := 28) rfl (Nat.le_of_ble_eq_true rfl) ⟨Nat.le_of_ble_eq_true rfl, Nat.le_of_ble_eq_true rfl⟩ dX0_init_36 (fun q2 => ?_)
        refine j_ws (w2 := ([(a, .inr (0, [.ref q1, .null, .null, .null, .int 0, .int 0, .int 0]))]) ++ ([(q1, .inl (dI D, 64, .inl (mI 64)))]) ++ ([(q2, .inl (dI D, 28, .inl (fun _ => 0)))])) (st2 := [.ref q2, .ref a]) rfl rfl ?_
        refine p_X0_15 (w2 := ([(a, .inr (0, [.ref q1, .ref q2, .null, .null, .int 0, .int 0, .int 0]))]) ++ ([(q1, .inl (dI D, 64, .inl (mI 64)))]) ++ ([(q2, .inl (dI D, 28, .inl (fun _ => 0)))])) rfl rfl dX0_init_38 0 rfl (Nat.le_of_ble_eq_true rfl) (rfl) ?_
        refine j_w (w2 := ([(a, .inr (0, [.ref q1, .ref q2, .null, .null, .int 0, .int 0, .int 0]))]) ++ ([(q1, .inl (dI D, 64, .inl (mI 64)))]) ++ ([(q2, .inl (dI D, 28, .inl (cI 0)))])) (by rw [cI_0]) ?_
        refine j_iconst (v := nI 0) dX0_init_41 (by decide) ?_
        refine j_istore_n (lv2 := [(0, .ref a), (1, .int (nI 0))]) dX0_init_42 (by decide) [1, 0] rfl ?_
        have L43 : ∀ (fuel : Nat) (i : Nat), i ≤ 4 → 4 - i < fuel → J D Γ yX0_init cX0_init 2 none ({ frames := 1, cells := 4, slots := 428, locals := 20 } : Room) (Qf D Γ ({ frames := 1, cells := 4, slots := 428, locals := 20 } : Room) (fun v_ u_ => v_ = none ∧ ∃ E : Nat → Nat, E 0 = a ∧ u_ = EW D E s0)) 2 92 (([(a, .inr (0, [.ref q1, .ref q2, .null, .null, .int 0, .int 0, .int 0]))]) ++ ([(q1, .inl (dI D, 64, .inl (mI 64)))]) ++ ([(q2, .inl (dI D, 28, .inl (cI i)))])) 43 [(0, .ref a), (1, .int (nI i))] [] := by
          intro fuel
          induction fuel with
          | zero => intro i hi hm; exact absurd hm (Nat.not_lt_zero _)
          | succ fuel ih =>
            intro i hi hm
            refine j_iload_n dX0_init_43 1 rfl ?_
            refine j_iconst (v := nI 4) dX0_init_44 (by decide) ?_
            refine j_icmp_ge_N (tgt := 78) dX0_init_45 (by decide) ⟨by omega, by omega⟩ (fun h45 => ?_) (fun h45 => ?_)
            · skip
              obtain rfl : i = 4 := by omega
              refine j_aload_n dX0_init_78 0 rfl ?_
              refine j_sipush (v := nI 312) dX0_init_79 (by decide) ?_
              refine j_newI (N := 312) rfl (Nat.le_of_ble_eq_true rfl) ⟨Nat.le_of_ble_eq_true rfl, Nat.le_of_ble_eq_true rfl⟩ dX0_init_82 (fun q3 => ?_)
              refine j_ws (w2 := ([(a, .inr (0, [.ref q1, .ref q2, .null, .null, .int 0, .int 0, .int 0]))]) ++ ([(q1, .inl (dI D, 64, .inl (mI 64)))]) ++ ([(q2, .inl (dI D, 28, .inl (cI 4)))]) ++ ([(q3, .inl (dI D, 312, .inl (fun _ => 0)))])) (st2 := [.ref q3, .ref a]) rfl rfl ?_
              refine p_X0_18 (w2 := ([(a, .inr (0, [.ref q1, .ref q2, .ref q3, .null, .int 0, .int 0, .int 0]))]) ++ ([(q1, .inl (dI D, 64, .inl (mI 64)))]) ++ ([(q2, .inl (dI D, 28, .inl (cI 4)))]) ++ ([(q3, .inl (dI D, 312, .inl (fun _ => 0)))])) rfl rfl dX0_init_84 0 rfl (Nat.le_of_ble_eq_true rfl) (rfl) ?_
              refine j_aload_n dX0_init_87 0 rfl ?_
              refine j_bipush (v := nI 24) dX0_init_88 (by decide) ?_
              refine j_newI (N := 24) rfl (Nat.le_of_ble_eq_true rfl) ⟨Nat.le_of_ble_eq_true rfl, Nat.le_of_ble_eq_true rfl⟩ dX0_init_90 (fun q4 => ?_)
              refine j_ws (w2 := ([(a, .inr (0, [.ref q1, .ref q2, .ref q3, .null, .int 0, .int 0, .int 0]))]) ++ ([(q1, .inl (dI D, 64, .inl (mI 64)))]) ++ ([(q2, .inl (dI D, 28, .inl (cI 4)))]) ++ ([(q3, .inl (dI D, 312, .inl (fun _ => 0)))]) ++ ([(q4, .inl (dI D, 24, .inl (fun _ => 0)))])) (st2 := [.ref q4, .ref a]) rfl rfl ?_
              refine p_X0_21 (w2 := ([(a, .inr (0, [.ref q1, .ref q2, .ref q3, .ref q4, .int 0, .int 0, .int 0]))]) ++ ([(q1, .inl (dI D, 64, .inl (mI 64)))]) ++ ([(q2, .inl (dI D, 28, .inl (cI 4)))]) ++ ([(q3, .inl (dI D, 312, .inl (fun _ => 0)))]) ++ ([(q4, .inl (dI D, 24, .inl (fun _ => 0)))])) rfl rfl dX0_init_92 0 rfl (Nat.le_of_ble_eq_true rfl) (rfl) ?_
              refine j_aload_n dX0_init_95 0 rfl ?_
              refine j_iconst (v := nI 0) dX0_init_96 (by decide) ?_
              refine p_X0_24 (w2 := ([(a, .inr (0, [.ref q1, .ref q2, .ref q3, .ref q4, .int (nI 0), .int 0, .int 0]))]) ++ ([(q1, .inl (dI D, 64, .inl (mI 64)))]) ++ ([(q2, .inl (dI D, 28, .inl (cI 4)))]) ++ ([(q3, .inl (dI D, 312, .inl (fun _ => 0)))]) ++ ([(q4, .inl (dI D, 24, .inl (fun _ => 0)))])) rfl dX0_init_97 0 rfl (Nat.le_of_ble_eq_true rfl) (rfl) ?_
              refine j_aload_n dX0_init_100 0 rfl ?_
              refine j_iconst (v := nI 3) dX0_init_101 (by decide) ?_
              refine p_X0_28 (w2 := ([(a, .inr (0, [.ref q1, .ref q2, .ref q3, .ref q4, .int (nI 0), .int (nI 3), .int 0]))]) ++ ([(q1, .inl (dI D, 64, .inl (mI 64)))]) ++ ([(q2, .inl (dI D, 28, .inl (cI 4)))]) ++ ([(q3, .inl (dI D, 312, .inl (fun _ => 0)))]) ++ ([(q4, .inl (dI D, 24, .inl (fun _ => 0)))])) rfl dX0_init_102 0 rfl (Nat.le_of_ble_eq_true rfl) (rfl) ?_
              refine j_aload_n dX0_init_105 0 rfl ?_
              refine j_iconst (v := nI 0) dX0_init_106 (by decide) ?_
              refine p_X0_31 (w2 := ([(a, .inr (0, [.ref q1, .ref q2, .ref q3, .ref q4, .int (nI 0), .int (nI 3), .int (nI 0)]))]) ++ ([(q1, .inl (dI D, 64, .inl (mI 64)))]) ++ ([(q2, .inl (dI D, 28, .inl (cI 4)))]) ++ ([(q3, .inl (dI D, 312, .inl (fun _ => 0)))]) ++ ([(q4, .inl (dI D, 24, .inl (fun _ => 0)))])) rfl dX0_init_107 0 rfl (Nat.le_of_ble_eq_true rfl) (rfl) ?_
              refine j_cong (w2 := ([(a, .inr (0, [.ref q1, .ref q2, .ref q3, .ref q4, .int (nI 0), .int (nI 3), .int (nI 0)]))]) ++ ([(q1, .inl (dI D, 64, .inl (vM s0)))]) ++ ([(q2, .inl (dI D, 28, .inl (cI 4)))]) ++ ([(q3, .inl (dI D, 312, .inl (fun _ => 0)))]) ++ ([(q4, .inl (dI D, 24, .inl (fun _ => 0)))])) 1 rfl (s0_M) rfl ?_
              refine j_cong (w2 := ([(a, .inr (0, [.ref q1, .ref q2, .ref q3, .ref q4, .int (nI 0), .int (nI 3), .int (nI 0)]))]) ++ ([(q1, .inl (dI D, 64, .inl (vM s0)))]) ++ ([(q2, .inl (dI D, 28, .inl (vC s0)))]) ++ ([(q3, .inl (dI D, 312, .inl (fun _ => 0)))]) ++ ([(q4, .inl (dI D, 24, .inl (fun _ => 0)))])) 2 rfl (s0_C) rfl ?_
              refine j_cong (w2 := ([(a, .inr (0, [.ref q1, .ref q2, .ref q3, .ref q4, .int (nI 0), .int (nI 3), .int (nI 0)]))]) ++ ([(q1, .inl (dI D, 64, .inl (vM s0)))]) ++ ([(q2, .inl (dI D, 28, .inl (vC s0)))]) ++ ([(q3, .inl (dI D, 312, .inl (vL s0)))]) ++ ([(q4, .inl (dI D, 24, .inl (fun _ => 0)))])) 3 rfl (s0_L) rfl ?_
              refine j_cong (w2 := ([(a, .inr (0, [.ref q1, .ref q2, .ref q3, .ref q4, .int (nI 0), .int (nI 3), .int (nI 0)]))]) ++ ([(q1, .inl (dI D, 64, .inl (vM s0)))]) ++ ([(q2, .inl (dI D, 28, .inl (vC s0)))]) ++ ([(q3, .inl (dI D, 312, .inl (vL s0)))]) ++ ([(q4, .inl (dI D, 24, .inl (vQ s0)))])) 4 rfl (s0_Q) rfl ?_
              exact j_vret dX0_init_110 ⟨rfl, rfl⟩ ⟨rfl, fun i => [a, q1, q2, q3, q4].getD i 0, rfl, rfl⟩
            · skip
              refine j_aload_n dX0_init_48 0 rfl ?_
              refine g_X0_15 rfl dX0_init_49 0 rfl rfl ?_
              refine j_iload_n dX0_init_52 1 rfl ?_
              refine j_bipush (v := nI 7) dX0_init_53 (by decide) ?_
              refine j_imul (v := nI (i * 7)) dX0_init_55 (pk_mul _ _) ?_
              refine j_iconst (v := nI 0) dX0_init_56 (by decide) ?_
              refine j_iadd (v := nI (i * 7 + 0)) dX0_init_57 (nI_add _ _) ?_
              refine j_iconst (v := nI 1) dX0_init_58 (by decide) ?_
              refine j_iast (w2 := ([(a, .inr (0, [.ref q1, .ref q2, .null, .null, .int 0, .int 0, .int 0]))]) ++ ([(q1, .inl (dI D, 64, .inl (mI 64)))]) ++ ([(q2, .inl (dI D, 28, .inl (upd (cI i) (i * 7 + 0) (nI 1))))])) dX0_init_59 2 (i * 7 + 0) rfl (rfl) (by omega) (Nat.le_of_ble_eq_true rfl) (rfl) ?_
              refine j_aload_n dX0_init_60 0 rfl ?_
              refine g_X0_15 rfl dX0_init_61 0 rfl rfl ?_
              refine j_iload_n dX0_init_64 1 rfl ?_
              refine j_bipush (v := nI 7) dX0_init_65 (by decide) ?_
              refine j_imul (v := nI (i * 7)) dX0_init_67 (pk_mul _ _) ?_
              refine j_iconst (v := nI 2) dX0_init_68 (by decide) ?_
              refine j_iadd (v := nI (i * 7 + 2)) dX0_init_69 (nI_add _ _) ?_
              refine j_iconst (v := nI 4) dX0_init_70 (by decide) ?_
              refine j_iast (w2 := ([(a, .inr (0, [.ref q1, .ref q2, .null, .null, .int 0, .int 0, .int 0]))]) ++ ([(q1, .inl (dI D, 64, .inl (mI 64)))]) ++ ([(q2, .inl (dI D, 28, .inl (cI (i + 1))))])) dX0_init_71 2 (i * 7 + 2) rfl (rfl) (by omega) (Nat.le_of_ble_eq_true rfl) (by rw [← cI_s]; rfl) ?_
              refine j_iinc (v := nI (i + 1)) (lv2 := [(0, .ref a), (1, .int (nI (i + 1)))]) dX0_init_72 1 rfl (nI_1 _) (by decide) [1, 0] rfl ?_
              refine j_goto (tgt := 43) dX0_init_75 (by decide) ?_
              exact ih (i + 1) (by omega) (by omega)
        exact L43 5 0 (by omega) (by omega)
      · skip
        refine j_aload_n dX0_init_20 0 rfl ?_
        refine g_X0_9 rfl dX0_init_21 0 rfl rfl ?_
        refine j_iload_n dX0_init_24 1 rfl ?_
        refine j_iload_n dX0_init_25 1 rfl ?_
        refine j_iast (w2 := ([(a, .inr (0, [.ref q1, .null, .null, .null, .int 0, .int 0, .int 0]))]) ++ ([(q1, .inl (dI D, 64, .inl (mI (i + 1))))])) dX0_init_26 1 i rfl (rfl) (by omega) (Nat.le_of_ble_eq_true rfl) (by rw [← mI_s]; rfl) ?_
        refine j_iinc (v := nI (i + 1)) (lv2 := [(0, .ref a), (1, .int (nI (i + 1)))]) dX0_init_27 1 rfl (nI_1 _) (by decide) [1, 0] rfl ?_
        refine j_goto (tgt := 14) dX0_init_30 (by decide) ?_
        exact ih (i + 1) (by omega) (by omega)
  exact L14 65 0 (by omega) (by omega)

set_option maxHeartbeats 4000000 in
set_option maxRecDepth 100000 in
theorem c_X3_init (a : Nat) : Ct D yX3_init cX3_init 1 none ({ frames := 1, cells := 3, slots := 384, locals := 20 } : Room) [.ref a] ([(a, .inr (3, [.null, .null, .null, .int 0, .int 0, .int 0]))]) (fun v_ u_ => v_ = none ∧ ∃ X : Nat → Nat, X 0 = a ∧ u_ = TW D X (fun _ => 0) (fun _ => 0) (fun _ => 0) 0 0 0) := by
  refine ct_of (by decide) (Nat.le_of_ble_eq_true rfl) (lv0 := [(0, .ref a)]) rfl (fun Γ => ?_)
  refine j_aload_n dX3_init_0 0 rfl ?_
  refine j_oi rfl m_ml_X3_3 dX3_init_1 ⟨Nat.le_of_ble_eq_true rfl, Nat.le_of_ble_eq_true rfl⟩ ?_
  refine j_aload_n dX3_init_4 0 rfl ?_
  refine j_bipush (v := nI 120) dX3_init_5 (by decide) ?_
  refine j_newI (N := 120) rfl (Nat.le_of_ble_eq_true rfl) ⟨Nat.le_of_ble_eq_true rfl, Nat.le_of_ble_eq_true rfl⟩ dX3_init_7 (fun q1 => ?_)
  refine j_ws (w2 := ([(a, .inr (3, [.null, .null, .null, .int 0, .int 0, .int 0]))]) ++ ([(q1, .inl (dI D, 120, .inl (fun _ => 0)))])) (st2 := [.ref q1, .ref a]) rfl rfl ?_
  refine p_X3_9 (w2 := ([(a, .inr (3, [.ref q1, .null, .null, .int 0, .int 0, .int 0]))]) ++ ([(q1, .inl (dI D, 120, .inl (fun _ => 0)))])) rfl rfl dX3_init_9 0 rfl (Nat.le_of_ble_eq_true rfl) (rfl) ?_
  refine j_aload_n dX3_init_12 0 rfl ?_
  refine j_bipush (v := nI 24) dX3_init_13 (by decide) ?_
  refine j_newI (N := 24) rfl (Nat.le_of_ble_eq_true rfl) ⟨Nat.le_of_ble_eq_true rfl, Nat.le_of_ble_eq_true rfl⟩ dX3_init_15 (fun q2 => ?_)
  refine j_ws (w2 := ([(a, .inr (3, [.ref q1, .null, .null, .int 0, .int 0, .int 0]))]) ++ ([(q1, .inl (dI D, 120, .inl (fun _ => 0)))]) ++ ([(q2, .inl (dI D, 24, .inl (fun _ => 0)))])) (st2 := [.ref q2, .ref a]) rfl rfl ?_
  refine p_X3_13 (w2 := ([(a, .inr (3, [.ref q1, .ref q2, .null, .int 0, .int 0, .int 0]))]) ++ ([(q1, .inl (dI D, 120, .inl (fun _ => 0)))]) ++ ([(q2, .inl (dI D, 24, .inl (fun _ => 0)))])) rfl rfl dX3_init_17 0 rfl (Nat.le_of_ble_eq_true rfl) (rfl) ?_
  refine j_aload_n dX3_init_20 0 rfl ?_
  refine j_sipush (v := nI 240) dX3_init_21 (by decide) ?_
  refine j_newI (N := 240) rfl (Nat.le_of_ble_eq_true rfl) ⟨Nat.le_of_ble_eq_true rfl, Nat.le_of_ble_eq_true rfl⟩ dX3_init_24 (fun q3 => ?_)
  refine j_ws (w2 := ([(a, .inr (3, [.ref q1, .ref q2, .null, .int 0, .int 0, .int 0]))]) ++ ([(q1, .inl (dI D, 120, .inl (fun _ => 0)))]) ++ ([(q2, .inl (dI D, 24, .inl (fun _ => 0)))]) ++ ([(q3, .inl (dI D, 240, .inl (fun _ => 0)))])) (st2 := [.ref q3, .ref a]) rfl rfl ?_
  refine p_X3_16 (w2 := ([(a, .inr (3, [.ref q1, .ref q2, .ref q3, .int 0, .int 0, .int 0]))]) ++ ([(q1, .inl (dI D, 120, .inl (fun _ => 0)))]) ++ ([(q2, .inl (dI D, 24, .inl (fun _ => 0)))]) ++ ([(q3, .inl (dI D, 240, .inl (fun _ => 0)))])) rfl rfl dX3_init_26 0 rfl (Nat.le_of_ble_eq_true rfl) (rfl) ?_
  refine j_aload_n dX3_init_29 0 rfl ?_
  refine j_iconst (v := nI 0) dX3_init_30 (by decide) ?_
  refine p_X3_19 (w2 := ([(a, .inr (3, [.ref q1, .ref q2, .ref q3, .int (nI 0), .int 0, .int 0]))]) ++ ([(q1, .inl (dI D, 120, .inl (fun _ => 0)))]) ++ ([(q2, .inl (dI D, 24, .inl (fun _ => 0)))]) ++ ([(q3, .inl (dI D, 240, .inl (fun _ => 0)))])) rfl dX3_init_31 0 rfl (Nat.le_of_ble_eq_true rfl) (rfl) ?_
  refine j_aload_n dX3_init_34 0 rfl ?_
  refine j_iconst (v := nI 0) dX3_init_35 (by decide) ?_
  refine p_X3_23 (w2 := ([(a, .inr (3, [.ref q1, .ref q2, .ref q3, .int (nI 0), .int (nI 0), .int 0]))]) ++ ([(q1, .inl (dI D, 120, .inl (fun _ => 0)))]) ++ ([(q2, .inl (dI D, 24, .inl (fun _ => 0)))]) ++ ([(q3, .inl (dI D, 240, .inl (fun _ => 0)))])) rfl dX3_init_36 0 rfl (Nat.le_of_ble_eq_true rfl) (rfl) ?_
  refine j_aload_n dX3_init_39 0 rfl ?_
  refine j_iconst (v := nI 0) dX3_init_40 (by decide) ?_
  refine p_X3_26 (w2 := ([(a, .inr (3, [.ref q1, .ref q2, .ref q3, .int (nI 0), .int (nI 0), .int (nI 0)]))]) ++ ([(q1, .inl (dI D, 120, .inl (fun _ => 0)))]) ++ ([(q2, .inl (dI D, 24, .inl (fun _ => 0)))]) ++ ([(q3, .inl (dI D, 240, .inl (fun _ => 0)))])) rfl dX3_init_41 0 rfl (Nat.le_of_ble_eq_true rfl) (rfl) ?_
  exact j_vret dX3_init_44 ⟨rfl, rfl⟩ ⟨rfl, fun i => [a, q1, q2, q3].getD i 0, rfl, rfl⟩

set_option maxHeartbeats 4000000 in
set_option maxRecDepth 100000 in
theorem c_X2_init (a : Nat) : Ct D yX2_init cX2_init 1 none ({ frames := 1, cells := 2, slots := 12, locals := 20 } : Room) [.ref a] ([(a, .inr (2, [.null, .null, .int 0]))]) (fun v_ u_ => v_ = none ∧ ∃ Z : Nat → Nat, Z 0 = a ∧ u_ = ZW D Z (fun _ => 0) (fun _ => 0) 0) := by
  refine ct_of (by decide) (Nat.le_of_ble_eq_true rfl) (lv0 := [(0, .ref a)]) rfl (fun Γ => ?_)
  refine j_aload_n dX2_init_0 0 rfl ?_
  refine j_oi rfl m_ml_X2_1 dX2_init_1 ⟨Nat.le_of_ble_eq_true rfl, Nat.le_of_ble_eq_true rfl⟩ ?_
  refine j_aload_n dX2_init_4 0 rfl ?_
  refine j_bipush (v := nI 6) dX2_init_5 (by decide) ?_
  refine j_newI (N := 6) rfl (Nat.le_of_ble_eq_true rfl) ⟨Nat.le_of_ble_eq_true rfl, Nat.le_of_ble_eq_true rfl⟩ dX2_init_7 (fun q1 => ?_)
  refine j_ws (w2 := ([(a, .inr (2, [.null, .null, .int 0]))]) ++ ([(q1, .inl (dI D, 6, .inl (fun _ => 0)))])) (st2 := [.ref q1, .ref a]) rfl rfl ?_
  refine p_X2_9 (w2 := ([(a, .inr (2, [.ref q1, .null, .int 0]))]) ++ ([(q1, .inl (dI D, 6, .inl (fun _ => 0)))])) rfl rfl dX2_init_9 0 rfl (Nat.le_of_ble_eq_true rfl) (rfl) ?_
  refine j_aload_n dX2_init_12 0 rfl ?_
  refine j_bipush (v := nI 6) dX2_init_13 (by decide) ?_
  refine j_newI (N := 6) rfl (Nat.le_of_ble_eq_true rfl) ⟨Nat.le_of_ble_eq_true rfl, Nat.le_of_ble_eq_true rfl⟩ dX2_init_15 (fun q2 => ?_)
  refine j_ws (w2 := ([(a, .inr (2, [.ref q1, .null, .int 0]))]) ++ ([(q1, .inl (dI D, 6, .inl (fun _ => 0)))]) ++ ([(q2, .inl (dI D, 6, .inl (fun _ => 0)))])) (st2 := [.ref q2, .ref a]) rfl rfl ?_
  refine p_X2_13 (w2 := ([(a, .inr (2, [.ref q1, .ref q2, .int 0]))]) ++ ([(q1, .inl (dI D, 6, .inl (fun _ => 0)))]) ++ ([(q2, .inl (dI D, 6, .inl (fun _ => 0)))])) rfl rfl dX2_init_17 0 rfl (Nat.le_of_ble_eq_true rfl) (rfl) ?_
  refine j_aload_n dX2_init_20 0 rfl ?_
  refine j_iconst (v := nI 0) dX2_init_21 (by decide) ?_
  refine p_X2_16 (w2 := ([(a, .inr (2, [.ref q1, .ref q2, .int (nI 0)]))]) ++ ([(q1, .inl (dI D, 6, .inl (fun _ => 0)))]) ++ ([(q2, .inl (dI D, 6, .inl (fun _ => 0)))])) rfl dX2_init_22 0 rfl (Nat.le_of_ble_eq_true rfl) (rfl) ?_
  exact j_vret dX2_init_25 ⟨rfl, rfl⟩ ⟨rfl, fun i => [a, q1, q2].getD i 0, rfl, rfl⟩

set_option maxHeartbeats 4000000 in
set_option maxRecDepth 100000 in
theorem c_X1_init (a : Nat) : Ct D yX1_init cX1_init 2 none ({ frames := 2, cells := 31, slots := 2616, locals := 41 } : Room) [.ref a] ([(a, .inr (1, [.null, .int 0, .int 0]))]) (fun v_ u_ => v_ = none ∧ ∃ (Y : Nat → Nat) (P : Nat → Nat → Nat), Y 0 = a ∧ u_ = HO D Y P 5 0 ++ EW D (P 0) s0 ++ EW D (P 1) s0 ++ EW D (P 2) s0 ++ EW D (P 3) s0 ++ EW D (P 4) s0 ++ EW D (P 5) s0) := by
  refine ct_of (by decide) (Nat.le_of_ble_eq_true rfl) (lv0 := [(0, .ref a)]) rfl (fun Γ => ?_)
  refine j_aload_n dX1_init_0 0 rfl ?_
  refine j_oi rfl m_ml_X1_1 dX1_init_1 ⟨Nat.le_of_ble_eq_true rfl, Nat.le_of_ble_eq_true rfl⟩ ?_
  refine j_aload_n dX1_init_4 0 rfl ?_
  refine j_bipush (v := nI 6) dX1_init_5 (by decide) ?_
  refine j_newQ (N := 6) rfl rfl (Nat.le_of_ble_eq_true rfl) m_cl_X1_9 ⟨Nat.le_of_ble_eq_true rfl, Nat.le_of_ble_eq_true rfl⟩ dX1_init_7 (fun q1 => ?_)
  refine j_ws (w2 := ([(a, .inr (1, [.null, .int 0, .int 0]))]) ++ ([(q1, .inl (dE D, 6, .inr (.inr (.inr (.inr (fun _ => none))))))])) (st2 := [.ref q1, .ref a]) rfl rfl ?_
  refine p_X1_11 (w2 := ([(a, .inr (1, [.ref q1, .int 0, .int 0]))]) ++ ([(q1, .inl (dE D, 6, .inr (.inr (.inr (.inr (fun _ => none))))))])) rfl rfl dX1_init_10 0 rfl (Nat.le_of_ble_eq_true rfl) (rfl) ?_
  refine j_iconst (v := nI 0) dX1_init_13 (by decide) ?_
  refine j_istore_n (lv2 := [(0, .ref a), (1, .int (nI 0))]) dX1_init_14 (by decide) [1, 0] rfl ?_
  refine j_iload_n dX1_init_15 1 rfl ?_
  refine j_bipush (v := nI 6) dX1_init_16 (by decide) ?_
  refine j_icmp_ge_N (tgt := 40) dX1_init_18 (by decide) ⟨by omega, by omega⟩ (fun h18 => absurd h18 (by decide)) (fun h18 => ?_)
  refine j_aload_n dX1_init_21 0 rfl ?_
  refine g_X1_11 rfl dX1_init_22 0 rfl rfl ?_
  refine j_iload_n dX1_init_25 1 rfl ?_
  refine j_new (ci := 0) (fs := f0X0) rfl m_us_X0 tyX0 tyX0_ok m_cl_X1_9 m_is_X0 m_in_X0 rfl fsX0 ⟨Nat.le_of_ble_eq_true rfl, Nat.le_of_ble_eq_true rfl⟩ dX1_init_26 (fun q2 => ?_)
  refine j_ws (w2 := ([(a, .inr (1, [.ref q1, .int 0, .int 0]))]) ++ ([(q1, .inl (dE D, 6, .inr (.inr (.inr (.inr (fun _ => none))))))]) ++ ([(q2, .inr (0, [.null, .null, .null, .null, .int 0, .int 0, .int 0]))])) (st2 := [.ref q2, .int (nI 0), .ref q1]) rfl rfl ?_
  refine j_dup dX1_init_29 rfl ?_
  refine j_init (wr := ([(a, .inr (1, [.ref q1, .int 0, .int 0]))]) ++ ([(q1, .inl (dE D, 6, .inr (.inr (.inr (.inr (fun _ => none))))))])) (c_X0_init q2) rfl cw_X1_15 ⟨Nat.le_of_ble_eq_true rfl, Nat.le_of_ble_eq_true rfl⟩ ⟨Nat.le_of_ble_eq_true rfl, Nat.le_of_ble_eq_true rfl⟩ dX1_init_30 (Nat.le_of_ble_eq_true rfl) rfl (fun v_ w_ hf_ => ?_)
  obtain ⟨rfl, P0, rfl, rfl⟩ := hf_
  refine j_ws (w2 := ([(a, .inr (1, [.ref q1, .int 0, .int 0]))]) ++ ([(q1, .inl (dE D, 6, .inr (.inr (.inr (.inr (fun _ => none))))))]) ++ (EW D P0 s0)) (st2 := [.ref (P0 0), .int (nI 0), .ref q1]) rfl rfl ?_
  refine j_astq (w2 := ([(a, .inr (1, [.ref q1, .int 0, .int 0]))]) ++ ([(q1, .inl (dE D, 6, .inr (.inr (.inr (.inr (va_up (fun _ => none) 0 (some (P0 0))))))))]) ++ (EW D P0 s0)) dX1_init_33 1 2 0 rfl rfl rfl (Nat.le_of_ble_eq_true rfl) (Nat.le_of_ble_eq_true rfl) rfl ?_
  refine j_iinc (v := nI 1) (lv2 := [(0, .ref a), (1, .int (nI 1))]) dX1_init_34 1 rfl (nI_1 _) (by decide) [1, 0] rfl ?_
  refine j_goto (tgt := 15) dX1_init_37 (by decide) ?_
  refine j_iload_n dX1_init_15 1 rfl ?_
  refine j_bipush (v := nI 6) dX1_init_16 (by decide) ?_
  refine j_icmp_ge_N (tgt := 40) dX1_init_18 (by decide) ⟨by omega, by omega⟩ (fun h18 => absurd h18 (by decide)) (fun h18 => ?_)
  refine j_aload_n dX1_init_21 0 rfl ?_
  refine g_X1_11 rfl dX1_init_22 0 rfl rfl ?_
  refine j_iload_n dX1_init_25 1 rfl ?_
  refine j_new (ci := 0) (fs := f0X0) rfl m_us_X0 tyX0 tyX0_ok m_cl_X1_9 m_is_X0 m_in_X0 rfl fsX0 ⟨Nat.le_of_ble_eq_true rfl, Nat.le_of_ble_eq_true rfl⟩ dX1_init_26 (fun q3 => ?_)
  refine j_ws (w2 := ([(a, .inr (1, [.ref q1, .int 0, .int 0]))]) ++ ([(q1, .inl (dE D, 6, .inr (.inr (.inr (.inr (va_up (fun _ => none) 0 (some (P0 0))))))))]) ++ (EW D P0 s0) ++ ([(q3, .inr (0, [.null, .null, .null, .null, .int 0, .int 0, .int 0]))])) (st2 := [.ref q3, .int (nI 1), .ref q1]) rfl rfl ?_
  refine j_dup dX1_init_29 rfl ?_
  refine j_init (wr := ([(a, .inr (1, [.ref q1, .int 0, .int 0]))]) ++ ([(q1, .inl (dE D, 6, .inr (.inr (.inr (.inr (va_up (fun _ => none) 0 (some (P0 0))))))))]) ++ (EW D P0 s0)) (c_X0_init q3) rfl cw_X1_15 ⟨Nat.le_of_ble_eq_true rfl, Nat.le_of_ble_eq_true rfl⟩ ⟨Nat.le_of_ble_eq_true rfl, Nat.le_of_ble_eq_true rfl⟩ dX1_init_30 (Nat.le_of_ble_eq_true rfl) rfl (fun v_ w_ hf_ => ?_)
  obtain ⟨rfl, P1, rfl, rfl⟩ := hf_
  refine j_ws (w2 := ([(a, .inr (1, [.ref q1, .int 0, .int 0]))]) ++ ([(q1, .inl (dE D, 6, .inr (.inr (.inr (.inr (va_up (fun _ => none) 0 (some (P0 0))))))))]) ++ (EW D P0 s0) ++ (EW D P1 s0)) (st2 := [.ref (P1 0), .int (nI 1), .ref q1]) rfl rfl ?_
  refine j_astq (w2 := ([(a, .inr (1, [.ref q1, .int 0, .int 0]))]) ++ ([(q1, .inl (dE D, 6, .inr (.inr (.inr (.inr (va_up (va_up (fun _ => none) 0 (some (P0 0))) 1 (some (P1 0))))))))]) ++ (EW D P0 s0) ++ (EW D P1 s0)) dX1_init_33 1 7 1 rfl rfl rfl (Nat.le_of_ble_eq_true rfl) (Nat.le_of_ble_eq_true rfl) rfl ?_
  refine j_iinc (v := nI 2) (lv2 := [(0, .ref a), (1, .int (nI 2))]) dX1_init_34 1 rfl (nI_1 _) (by decide) [1, 0] rfl ?_
  refine j_goto (tgt := 15) dX1_init_37 (by decide) ?_
  refine j_iload_n dX1_init_15 1 rfl ?_
  refine j_bipush (v := nI 6) dX1_init_16 (by decide) ?_
  refine j_icmp_ge_N (tgt := 40) dX1_init_18 (by decide) ⟨by omega, by omega⟩ (fun h18 => absurd h18 (by decide)) (fun h18 => ?_)
  refine j_aload_n dX1_init_21 0 rfl ?_
  refine g_X1_11 rfl dX1_init_22 0 rfl rfl ?_
  refine j_iload_n dX1_init_25 1 rfl ?_
  refine j_new (ci := 0) (fs := f0X0) rfl m_us_X0 tyX0 tyX0_ok m_cl_X1_9 m_is_X0 m_in_X0 rfl fsX0 ⟨Nat.le_of_ble_eq_true rfl, Nat.le_of_ble_eq_true rfl⟩ dX1_init_26 (fun q4 => ?_)
  refine j_ws (w2 := ([(a, .inr (1, [.ref q1, .int 0, .int 0]))]) ++ ([(q1, .inl (dE D, 6, .inr (.inr (.inr (.inr (va_up (va_up (fun _ => none) 0 (some (P0 0))) 1 (some (P1 0))))))))]) ++ (EW D P0 s0) ++ (EW D P1 s0) ++ ([(q4, .inr (0, [.null, .null, .null, .null, .int 0, .int 0, .int 0]))])) (st2 := [.ref q4, .int (nI 2), .ref q1]) rfl rfl ?_
  refine j_dup dX1_init_29 rfl ?_
  refine j_init (wr := ([(a, .inr (1, [.ref q1, .int 0, .int 0]))]) ++ ([(q1, .inl (dE D, 6, .inr (.inr (.inr (.inr (va_up (va_up (fun _ => none) 0 (some (P0 0))) 1 (some (P1 0))))))))]) ++ (EW D P0 s0) ++ (EW D P1 s0)) (c_X0_init q4) rfl cw_X1_15 ⟨Nat.le_of_ble_eq_true rfl, Nat.le_of_ble_eq_true rfl⟩ ⟨Nat.le_of_ble_eq_true rfl, Nat.le_of_ble_eq_true rfl⟩ dX1_init_30 (Nat.le_of_ble_eq_true rfl) rfl (fun v_ w_ hf_ => ?_)
  obtain ⟨rfl, P2, rfl, rfl⟩ := hf_
  refine j_ws (w2 := ([(a, .inr (1, [.ref q1, .int 0, .int 0]))]) ++ ([(q1, .inl (dE D, 6, .inr (.inr (.inr (.inr (va_up (va_up (fun _ => none) 0 (some (P0 0))) 1 (some (P1 0))))))))]) ++ (EW D P0 s0) ++ (EW D P1 s0) ++ (EW D P2 s0)) (st2 := [.ref (P2 0), .int (nI 2), .ref q1]) rfl rfl ?_
  refine j_astq (w2 := ([(a, .inr (1, [.ref q1, .int 0, .int 0]))]) ++ ([(q1, .inl (dE D, 6, .inr (.inr (.inr (.inr (va_up (va_up (va_up (fun _ => none) 0 (some (P0 0))) 1 (some (P1 0))) 2 (some (P2 0))))))))]) ++ (EW D P0 s0) ++ (EW D P1 s0) ++ (EW D P2 s0)) dX1_init_33 1 12 2 rfl rfl rfl (Nat.le_of_ble_eq_true rfl) (Nat.le_of_ble_eq_true rfl) rfl ?_
  refine j_iinc (v := nI 3) (lv2 := [(0, .ref a), (1, .int (nI 3))]) dX1_init_34 1 rfl (nI_1 _) (by decide) [1, 0] rfl ?_
  refine j_goto (tgt := 15) dX1_init_37 (by decide) ?_
  refine j_iload_n dX1_init_15 1 rfl ?_
  refine j_bipush (v := nI 6) dX1_init_16 (by decide) ?_
  refine j_icmp_ge_N (tgt := 40) dX1_init_18 (by decide) ⟨by omega, by omega⟩ (fun h18 => absurd h18 (by decide)) (fun h18 => ?_)
  refine j_aload_n dX1_init_21 0 rfl ?_
  refine g_X1_11 rfl dX1_init_22 0 rfl rfl ?_
  refine j_iload_n dX1_init_25 1 rfl ?_
  refine j_new (ci := 0) (fs := f0X0) rfl m_us_X0 tyX0 tyX0_ok m_cl_X1_9 m_is_X0 m_in_X0 rfl fsX0 ⟨Nat.le_of_ble_eq_true rfl, Nat.le_of_ble_eq_true rfl⟩ dX1_init_26 (fun q5 => ?_)
  refine j_ws (w2 := ([(a, .inr (1, [.ref q1, .int 0, .int 0]))]) ++ ([(q1, .inl (dE D, 6, .inr (.inr (.inr (.inr (va_up (va_up (va_up (fun _ => none) 0 (some (P0 0))) 1 (some (P1 0))) 2 (some (P2 0))))))))]) ++ (EW D P0 s0) ++ (EW D P1 s0) ++ (EW D P2 s0) ++ ([(q5, .inr (0, [.null, .null, .null, .null, .int 0, .int 0, .int 0]))])) (st2 := [.ref q5, .int (nI 3), .ref q1]) rfl rfl ?_
  refine j_dup dX1_init_29 rfl ?_
  refine j_init (wr := ([(a, .inr (1, [.ref q1, .int 0, .int 0]))]) ++ ([(q1, .inl (dE D, 6, .inr (.inr (.inr (.inr (va_up (va_up (va_up (fun _ => none) 0 (some (P0 0))) 1 (some (P1 0))) 2 (some (P2 0))))))))]) ++ (EW D P0 s0) ++ (EW D P1 s0) ++ (EW D P2 s0)) (c_X0_init q5) rfl cw_X1_15 ⟨Nat.le_of_ble_eq_true rfl, Nat.le_of_ble_eq_true rfl⟩ ⟨Nat.le_of_ble_eq_true rfl, Nat.le_of_ble_eq_true rfl⟩ dX1_init_30 (Nat.le_of_ble_eq_true rfl) rfl (fun v_ w_ hf_ => ?_)
  obtain ⟨rfl, P3, rfl, rfl⟩ := hf_
  refine j_ws (w2 := ([(a, .inr (1, [.ref q1, .int 0, .int 0]))]) ++ ([(q1, .inl (dE D, 6, .inr (.inr (.inr (.inr (va_up (va_up (va_up (fun _ => none) 0 (some (P0 0))) 1 (some (P1 0))) 2 (some (P2 0))))))))]) ++ (EW D P0 s0) ++ (EW D P1 s0) ++ (EW D P2 s0) ++ (EW D P3 s0)) (st2 := [.ref (P3 0), .int (nI 3), .ref q1]) rfl rfl ?_
  refine j_astq (w2 := ([(a, .inr (1, [.ref q1, .int 0, .int 0]))]) ++ ([(q1, .inl (dE D, 6, .inr (.inr (.inr (.inr (va_up (va_up (va_up (va_up (fun _ => none) 0 (some (P0 0))) 1 (some (P1 0))) 2 (some (P2 0))) 3 (some (P3 0))))))))]) ++ (EW D P0 s0) ++ (EW D P1 s0) ++ (EW D P2 s0) ++ (EW D P3 s0)) dX1_init_33 1 17 3 rfl rfl rfl (Nat.le_of_ble_eq_true rfl) (Nat.le_of_ble_eq_true rfl) rfl ?_
  refine j_iinc (v := nI 4) (lv2 := [(0, .ref a), (1, .int (nI 4))]) dX1_init_34 1 rfl (nI_1 _) (by decide) [1, 0] rfl ?_
  refine j_goto (tgt := 15) dX1_init_37 (by decide) ?_
  refine j_iload_n dX1_init_15 1 rfl ?_
  refine j_bipush (v := nI 6) dX1_init_16 (by decide) ?_
  refine j_icmp_ge_N (tgt := 40) dX1_init_18 (by decide) ⟨by omega, by omega⟩ (fun h18 => absurd h18 (by decide)) (fun h18 => ?_)
  refine j_aload_n dX1_init_21 0 rfl ?_
  refine g_X1_11 rfl dX1_init_22 0 rfl rfl ?_
  refine j_iload_n dX1_init_25 1 rfl ?_
  refine j_new (ci := 0) (fs := f0X0) rfl m_us_X0 tyX0 tyX0_ok m_cl_X1_9 m_is_X0 m_in_X0 rfl fsX0 ⟨Nat.le_of_ble_eq_true rfl, Nat.le_of_ble_eq_true rfl⟩ dX1_init_26 (fun q6 => ?_)
  refine j_ws (w2 := ([(a, .inr (1, [.ref q1, .int 0, .int 0]))]) ++ ([(q1, .inl (dE D, 6, .inr (.inr (.inr (.inr (va_up (va_up (va_up (va_up (fun _ => none) 0 (some (P0 0))) 1 (some (P1 0))) 2 (some (P2 0))) 3 (some (P3 0))))))))]) ++ (EW D P0 s0) ++ (EW D P1 s0) ++ (EW D P2 s0) ++ (EW D P3 s0) ++ ([(q6, .inr (0, [.null, .null, .null, .null, .int 0, .int 0, .int 0]))])) (st2 := [.ref q6, .int (nI 4), .ref q1]) rfl rfl ?_
  refine j_dup dX1_init_29 rfl ?_
  refine j_init (wr := ([(a, .inr (1, [.ref q1, .int 0, .int 0]))]) ++ ([(q1, .inl (dE D, 6, .inr (.inr (.inr (.inr (va_up (va_up (va_up (va_up (fun _ => none) 0 (some (P0 0))) 1 (some (P1 0))) 2 (some (P2 0))) 3 (some (P3 0))))))))]) ++ (EW D P0 s0) ++ (EW D P1 s0) ++ (EW D P2 s0) ++ (EW D P3 s0)) (c_X0_init q6) rfl cw_X1_15 ⟨Nat.le_of_ble_eq_true rfl, Nat.le_of_ble_eq_true rfl⟩ ⟨Nat.le_of_ble_eq_true rfl, Nat.le_of_ble_eq_true rfl⟩ dX1_init_30 (Nat.le_of_ble_eq_true rfl) rfl (fun v_ w_ hf_ => ?_)
  obtain ⟨rfl, P4, rfl, rfl⟩ := hf_
  refine j_ws (w2 := ([(a, .inr (1, [.ref q1, .int 0, .int 0]))]) ++ ([(q1, .inl (dE D, 6, .inr (.inr (.inr (.inr (va_up (va_up (va_up (va_up (fun _ => none) 0 (some (P0 0))) 1 (some (P1 0))) 2 (some (P2 0))) 3 (some (P3 0))))))))]) ++ (EW D P0 s0) ++ (EW D P1 s0) ++ (EW D P2 s0) ++ (EW D P3 s0) ++ (EW D P4 s0)) (st2 := [.ref (P4 0), .int (nI 4), .ref q1]) rfl rfl ?_
  refine j_astq (w2 := ([(a, .inr (1, [.ref q1, .int 0, .int 0]))]) ++ ([(q1, .inl (dE D, 6, .inr (.inr (.inr (.inr (va_up (va_up (va_up (va_up (va_up (fun _ => none) 0 (some (P0 0))) 1 (some (P1 0))) 2 (some (P2 0))) 3 (some (P3 0))) 4 (some (P4 0))))))))]) ++ (EW D P0 s0) ++ (EW D P1 s0) ++ (EW D P2 s0) ++ (EW D P3 s0) ++ (EW D P4 s0)) dX1_init_33 1 22 4 rfl rfl rfl (Nat.le_of_ble_eq_true rfl) (Nat.le_of_ble_eq_true rfl) rfl ?_
  refine j_iinc (v := nI 5) (lv2 := [(0, .ref a), (1, .int (nI 5))]) dX1_init_34 1 rfl (nI_1 _) (by decide) [1, 0] rfl ?_
  refine j_goto (tgt := 15) dX1_init_37 (by decide) ?_
  refine j_iload_n dX1_init_15 1 rfl ?_
  refine j_bipush (v := nI 6) dX1_init_16 (by decide) ?_
  refine j_icmp_ge_N (tgt := 40) dX1_init_18 (by decide) ⟨by omega, by omega⟩ (fun h18 => absurd h18 (by decide)) (fun h18 => ?_)
  refine j_aload_n dX1_init_21 0 rfl ?_
  refine g_X1_11 rfl dX1_init_22 0 rfl rfl ?_
  refine j_iload_n dX1_init_25 1 rfl ?_
  refine j_new (ci := 0) (fs := f0X0) rfl m_us_X0 tyX0 tyX0_ok m_cl_X1_9 m_is_X0 m_in_X0 rfl fsX0 ⟨Nat.le_of_ble_eq_true rfl, Nat.le_of_ble_eq_true rfl⟩ dX1_init_26 (fun q7 => ?_)
  refine j_ws (w2 := ([(a, .inr (1, [.ref q1, .int 0, .int 0]))]) ++ ([(q1, .inl (dE D, 6, .inr (.inr (.inr (.inr (va_up (va_up (va_up (va_up (va_up (fun _ => none) 0 (some (P0 0))) 1 (some (P1 0))) 2 (some (P2 0))) 3 (some (P3 0))) 4 (some (P4 0))))))))]) ++ (EW D P0 s0) ++ (EW D P1 s0) ++ (EW D P2 s0) ++ (EW D P3 s0) ++ (EW D P4 s0) ++ ([(q7, .inr (0, [.null, .null, .null, .null, .int 0, .int 0, .int 0]))])) (st2 := [.ref q7, .int (nI 5), .ref q1]) rfl rfl ?_
  refine j_dup dX1_init_29 rfl ?_
  refine j_init (wr := ([(a, .inr (1, [.ref q1, .int 0, .int 0]))]) ++ ([(q1, .inl (dE D, 6, .inr (.inr (.inr (.inr (va_up (va_up (va_up (va_up (va_up (fun _ => none) 0 (some (P0 0))) 1 (some (P1 0))) 2 (some (P2 0))) 3 (some (P3 0))) 4 (some (P4 0))))))))]) ++ (EW D P0 s0) ++ (EW D P1 s0) ++ (EW D P2 s0) ++ (EW D P3 s0) ++ (EW D P4 s0)) (c_X0_init q7) rfl cw_X1_15 ⟨Nat.le_of_ble_eq_true rfl, Nat.le_of_ble_eq_true rfl⟩ ⟨Nat.le_of_ble_eq_true rfl, Nat.le_of_ble_eq_true rfl⟩ dX1_init_30 (Nat.le_of_ble_eq_true rfl) rfl (fun v_ w_ hf_ => ?_)
  obtain ⟨rfl, P5, rfl, rfl⟩ := hf_
  refine j_ws (w2 := ([(a, .inr (1, [.ref q1, .int 0, .int 0]))]) ++ ([(q1, .inl (dE D, 6, .inr (.inr (.inr (.inr (va_up (va_up (va_up (va_up (va_up (fun _ => none) 0 (some (P0 0))) 1 (some (P1 0))) 2 (some (P2 0))) 3 (some (P3 0))) 4 (some (P4 0))))))))]) ++ (EW D P0 s0) ++ (EW D P1 s0) ++ (EW D P2 s0) ++ (EW D P3 s0) ++ (EW D P4 s0) ++ (EW D P5 s0)) (st2 := [.ref (P5 0), .int (nI 5), .ref q1]) rfl rfl ?_
  refine j_astq (w2 := ([(a, .inr (1, [.ref q1, .int 0, .int 0]))]) ++ ([(q1, .inl (dE D, 6, .inr (.inr (.inr (.inr (va_up (va_up (va_up (va_up (va_up (va_up (fun _ => none) 0 (some (P0 0))) 1 (some (P1 0))) 2 (some (P2 0))) 3 (some (P3 0))) 4 (some (P4 0))) 5 (some (P5 0))))))))]) ++ (EW D P0 s0) ++ (EW D P1 s0) ++ (EW D P2 s0) ++ (EW D P3 s0) ++ (EW D P4 s0) ++ (EW D P5 s0)) dX1_init_33 1 27 5 rfl rfl rfl (Nat.le_of_ble_eq_true rfl) (Nat.le_of_ble_eq_true rfl) rfl ?_
  refine j_iinc (v := nI 6) (lv2 := [(0, .ref a), (1, .int (nI 6))]) dX1_init_34 1 rfl (nI_1 _) (by decide) [1, 0] rfl ?_
  refine j_goto (tgt := 15) dX1_init_37 (by decide) ?_
  refine j_iload_n dX1_init_15 1 rfl ?_
  refine j_bipush (v := nI 6) dX1_init_16 (by decide) ?_
  refine j_icmp_ge_N (tgt := 40) dX1_init_18 (by decide) ⟨by omega, by omega⟩ (fun h18 => ?_) (fun h18 => absurd (by decide) h18)
  refine j_aload_n dX1_init_40 0 rfl ?_
  refine j_iconst (v := nI 5) dX1_init_41 (by decide) ?_
  refine p_X1_16 (w2 := ([(a, .inr (1, [.ref q1, .int (nI 5), .int 0]))]) ++ ([(q1, .inl (dE D, 6, .inr (.inr (.inr (.inr (va_up (va_up (va_up (va_up (va_up (va_up (fun _ => none) 0 (some (P0 0))) 1 (some (P1 0))) 2 (some (P2 0))) 3 (some (P3 0))) 4 (some (P4 0))) 5 (some (P5 0))))))))]) ++ (EW D P0 s0) ++ (EW D P1 s0) ++ (EW D P2 s0) ++ (EW D P3 s0) ++ (EW D P4 s0) ++ (EW D P5 s0)) rfl dX1_init_42 0 rfl (Nat.le_of_ble_eq_true rfl) (rfl) ?_
  refine j_aload_n dX1_init_45 0 rfl ?_
  refine j_iconst (v := nI 0) dX1_init_46 (by decide) ?_
  refine p_X1_20 (w2 := ([(a, .inr (1, [.ref q1, .int (nI 5), .int (nI 0)]))]) ++ ([(q1, .inl (dE D, 6, .inr (.inr (.inr (.inr (va_up (va_up (va_up (va_up (va_up (va_up (fun _ => none) 0 (some (P0 0))) 1 (some (P1 0))) 2 (some (P2 0))) 3 (some (P3 0))) 4 (some (P4 0))) 5 (some (P5 0))))))))]) ++ (EW D P0 s0) ++ (EW D P1 s0) ++ (EW D P2 s0) ++ (EW D P3 s0) ++ (EW D P4 s0) ++ (EW D P5 s0)) rfl dX1_init_47 0 rfl (Nat.le_of_ble_eq_true rfl) (rfl) ?_
  refine j_congq (w2 := ([(a, .inr (1, [.ref q1, .int (nI 5), .int (nI 0)]))]) ++ ([(q1, .inl (dE D, 6, .inr (.inr (.inr (.inr (fun i => some (([P0, P1, P2, P3, P4, P5].getD i P0) 0)))))))]) ++ (EW D P0 s0) ++ (EW D P1 s0) ++ (EW D P2 s0) ++ (EW D P3 s0) ++ (EW D P4 s0) ++ (EW D P5 s0)) 1 rfl (fun j hj => by rcases (show j = 0 ∨ j = 1 ∨ j = 2 ∨ j = 3 ∨ j = 4 ∨ j = 5 by omega) with rfl | rfl | rfl | rfl | rfl | rfl <;> rfl) rfl ?_
  exact j_vret dX1_init_50 ⟨rfl, rfl⟩ ⟨rfl, fun i => [a, q1].getD i 0, fun i => [P0, P1, P2, P3, P4, P5].getD i P0, rfl, rfl⟩

set_option maxHeartbeats 4000000 in
set_option maxRecDepth 100000 in
theorem c_X5_init (a : Nat) : Ct D yX5_init cX5_init 2 none ({ frames := 1, cells := 9, slots := 4694, locals := 20 } : Room) [.ref a] ([(a, .inr (5, [.null, .int 0, .null, .null, .null, .null, .int 0, .null, .null, .int 0, .null, .int 0, .int 0, .int 0, .int 0, .null, .int 0]))]) (fun v_ u_ => v_ = none ∧ ∃ M : Nat → Nat, M 0 = a ∧ u_ = MW D M 0 0 0 0 0 0 0 0 s0 (fun _ => 0) (fun _ => 0) (fun _ => 0) (fun _ => 0) (fun _ => 0) (fun _ => 0) (fun _ => 0) (fun _ => 0)) := by
  refine ct_of (by decide) (Nat.le_of_ble_eq_true rfl) (lv0 := [(0, .ref a)]) rfl (fun Γ => ?_)
  refine j_aload_n dX5_init_0 0 rfl ?_
  refine j_oi rfl m_ml_X5_1 dX5_init_1 ⟨Nat.le_of_ble_eq_true rfl, Nat.le_of_ble_eq_true rfl⟩ ?_
  refine j_aload_n dX5_init_4 0 rfl ?_
  refine j_sipush (v := nI 455) dX5_init_5 (by decide) ?_
  refine j_newI (N := 455) rfl (Nat.le_of_ble_eq_true rfl) ⟨Nat.le_of_ble_eq_true rfl, Nat.le_of_ble_eq_true rfl⟩ dX5_init_8 (fun q1 => ?_)
  refine j_ws (w2 := ([(a, .inr (5, [.null, .int 0, .null, .null, .null, .null, .int 0, .null, .null, .int 0, .null, .int 0, .int 0, .int 0, .int 0, .null, .int 0]))]) ++ ([(q1, .inl (dI D, 455, .inl (fun _ => 0)))])) (st2 := [.ref q1, .ref a]) rfl rfl ?_
  refine p_X5_7 (w2 := ([(a, .inr (5, [.ref q1, .int 0, .null, .null, .null, .null, .int 0, .null, .null, .int 0, .null, .int 0, .int 0, .int 0, .int 0, .null, .int 0]))]) ++ ([(q1, .inl (dI D, 455, .inl (fun _ => 0)))])) rfl rfl dX5_init_10 0 rfl (Nat.le_of_ble_eq_true rfl) (rfl) ?_
  refine j_aload_n dX5_init_13 0 rfl ?_
  refine j_sipush (v := nI 2730) dX5_init_14 (by decide) ?_
  refine j_newI (N := 2730) rfl (Nat.le_of_ble_eq_true rfl) ⟨Nat.le_of_ble_eq_true rfl, Nat.le_of_ble_eq_true rfl⟩ dX5_init_17 (fun q2 => ?_)
  refine j_ws (w2 := ([(a, .inr (5, [.ref q1, .int 0, .null, .null, .null, .null, .int 0, .null, .null, .int 0, .null, .int 0, .int 0, .int 0, .int 0, .null, .int 0]))]) ++ ([(q1, .inl (dI D, 455, .inl (fun _ => 0)))]) ++ ([(q2, .inl (dI D, 2730, .inl (fun _ => 0)))])) (st2 := [.ref q2, .ref a]) rfl rfl ?_
  refine p_X5_13 (w2 := ([(a, .inr (5, [.ref q1, .int 0, .ref q2, .null, .null, .null, .int 0, .null, .null, .int 0, .null, .int 0, .int 0, .int 0, .int 0, .null, .int 0]))]) ++ ([(q1, .inl (dI D, 455, .inl (fun _ => 0)))]) ++ ([(q2, .inl (dI D, 2730, .inl (fun _ => 0)))])) rfl rfl dX5_init_19 0 rfl (Nat.le_of_ble_eq_true rfl) (rfl) ?_
  refine j_aload_n dX5_init_22 0 rfl ?_
  refine j_iconst (v := nI 2) dX5_init_23 (by decide) ?_
  refine j_newZ (N := 2) rfl (Nat.le_of_ble_eq_true rfl) ⟨Nat.le_of_ble_eq_true rfl, Nat.le_of_ble_eq_true rfl⟩ dX5_init_24 (fun q3 => ?_)
  refine j_ws (w2 := ([(a, .inr (5, [.ref q1, .int 0, .ref q2, .null, .null, .null, .int 0, .null, .null, .int 0, .null, .int 0, .int 0, .int 0, .int 0, .null, .int 0]))]) ++ ([(q1, .inl (dI D, 455, .inl (fun _ => 0)))]) ++ ([(q2, .inl (dI D, 2730, .inl (fun _ => 0)))]) ++ ([(q3, .inl (dZ D, 2, .inl (fun _ => 0)))])) (st2 := [.ref q3, .ref a]) rfl rfl ?_
  refine p_X5_16 (w2 := ([(a, .inr (5, [.ref q1, .int 0, .ref q2, .ref q3, .null, .null, .int 0, .null, .null, .int 0, .null, .int 0, .int 0, .int 0, .int 0, .null, .int 0]))]) ++ ([(q1, .inl (dI D, 455, .inl (fun _ => 0)))]) ++ ([(q2, .inl (dI D, 2730, .inl (fun _ => 0)))]) ++ ([(q3, .inl (dZ D, 2, .inl (fun _ => 0)))])) rfl rfl dX5_init_26 0 rfl (Nat.le_of_ble_eq_true rfl) (rfl) ?_
  refine j_aload_n dX5_init_29 0 rfl ?_
  refine j_sipush (v := nI 910) dX5_init_30 (by decide) ?_
  refine j_newI (N := 910) rfl (Nat.le_of_ble_eq_true rfl) ⟨Nat.le_of_ble_eq_true rfl, Nat.le_of_ble_eq_true rfl⟩ dX5_init_33 (fun q4 => ?_)
  refine j_ws (w2 := ([(a, .inr (5, [.ref q1, .int 0, .ref q2, .ref q3, .null, .null, .int 0, .null, .null, .int 0, .null, .int 0, .int 0, .int 0, .int 0, .null, .int 0]))]) ++ ([(q1, .inl (dI D, 455, .inl (fun _ => 0)))]) ++ ([(q2, .inl (dI D, 2730, .inl (fun _ => 0)))]) ++ ([(q3, .inl (dZ D, 2, .inl (fun _ => 0)))]) ++ ([(q4, .inl (dI D, 910, .inl (fun _ => 0)))])) (st2 := [.ref q4, .ref a]) rfl rfl ?_
  refine p_X5_20 (w2 := ([(a, .inr (5, [.ref q1, .int 0, .ref q2, .ref q3, .ref q4, .null, .int 0, .null, .null, .int 0, .null, .int 0, .int 0, .int 0, .int 0, .null, .int 0]))]) ++ ([(q1, .inl (dI D, 455, .inl (fun _ => 0)))]) ++ ([(q2, .inl (dI D, 2730, .inl (fun _ => 0)))]) ++ ([(q3, .inl (dZ D, 2, .inl (fun _ => 0)))]) ++ ([(q4, .inl (dI D, 910, .inl (fun _ => 0)))])) rfl rfl dX5_init_35 0 rfl (Nat.le_of_ble_eq_true rfl) (rfl) ?_
  refine j_aload_n dX5_init_38 0 rfl ?_
  refine j_sipush (v := nI 455) dX5_init_39 (by decide) ?_
  refine j_newI (N := 455) rfl (Nat.le_of_ble_eq_true rfl) ⟨Nat.le_of_ble_eq_true rfl, Nat.le_of_ble_eq_true rfl⟩ dX5_init_42 (fun q5 => ?_)
  refine j_ws (w2 := ([(a, .inr (5, [.ref q1, .int 0, .ref q2, .ref q3, .ref q4, .null, .int 0, .null, .null, .int 0, .null, .int 0, .int 0, .int 0, .int 0, .null, .int 0]))]) ++ ([(q1, .inl (dI D, 455, .inl (fun _ => 0)))]) ++ ([(q2, .inl (dI D, 2730, .inl (fun _ => 0)))]) ++ ([(q3, .inl (dZ D, 2, .inl (fun _ => 0)))]) ++ ([(q4, .inl (dI D, 910, .inl (fun _ => 0)))]) ++ ([(q5, .inl (dI D, 455, .inl (fun _ => 0)))])) (st2 := [.ref q5, .ref a]) rfl rfl ?_
  refine p_X5_23 (w2 := ([(a, .inr (5, [.ref q1, .int 0, .ref q2, .ref q3, .ref q4, .ref q5, .int 0, .null, .null, .int 0, .null, .int 0, .int 0, .int 0, .int 0, .null, .int 0]))]) ++ ([(q1, .inl (dI D, 455, .inl (fun _ => 0)))]) ++ ([(q2, .inl (dI D, 2730, .inl (fun _ => 0)))]) ++ ([(q3, .inl (dZ D, 2, .inl (fun _ => 0)))]) ++ ([(q4, .inl (dI D, 910, .inl (fun _ => 0)))]) ++ ([(q5, .inl (dI D, 455, .inl (fun _ => 0)))])) rfl rfl dX5_init_44 0 rfl (Nat.le_of_ble_eq_true rfl) (rfl) ?_
  refine j_aload_n dX5_init_47 0 rfl ?_
  refine j_bipush (v := nI 6) dX5_init_48 (by decide) ?_
  refine j_newI (N := 6) rfl (Nat.le_of_ble_eq_true rfl) ⟨Nat.le_of_ble_eq_true rfl, Nat.le_of_ble_eq_true rfl⟩ dX5_init_50 (fun q6 => ?_)
  refine j_ws (w2 := ([(a, .inr (5, [.ref q1, .int 0, .ref q2, .ref q3, .ref q4, .ref q5, .int 0, .null, .null, .int 0, .null, .int 0, .int 0, .int 0, .int 0, .null, .int 0]))]) ++ ([(q1, .inl (dI D, 455, .inl (fun _ => 0)))]) ++ ([(q2, .inl (dI D, 2730, .inl (fun _ => 0)))]) ++ ([(q3, .inl (dZ D, 2, .inl (fun _ => 0)))]) ++ ([(q4, .inl (dI D, 910, .inl (fun _ => 0)))]) ++ ([(q5, .inl (dI D, 455, .inl (fun _ => 0)))]) ++ ([(q6, .inl (dI D, 6, .inl (fun _ => 0)))])) (st2 := [.ref q6, .ref a]) rfl rfl ?_
  refine p_X5_26 (w2 := ([(a, .inr (5, [.ref q1, .int 0, .ref q2, .ref q3, .ref q4, .ref q5, .int 0, .ref q6, .null, .int 0, .null, .int 0, .int 0, .int 0, .int 0, .null, .int 0]))]) ++ ([(q1, .inl (dI D, 455, .inl (fun _ => 0)))]) ++ ([(q2, .inl (dI D, 2730, .inl (fun _ => 0)))]) ++ ([(q3, .inl (dZ D, 2, .inl (fun _ => 0)))]) ++ ([(q4, .inl (dI D, 910, .inl (fun _ => 0)))]) ++ ([(q5, .inl (dI D, 455, .inl (fun _ => 0)))]) ++ ([(q6, .inl (dI D, 6, .inl (fun _ => 0)))])) rfl rfl dX5_init_52 0 rfl (Nat.le_of_ble_eq_true rfl) (rfl) ?_
  refine j_aload_n dX5_init_55 0 rfl ?_
  refine j_bipush (v := nI 6) dX5_init_56 (by decide) ?_
  refine j_newI (N := 6) rfl (Nat.le_of_ble_eq_true rfl) ⟨Nat.le_of_ble_eq_true rfl, Nat.le_of_ble_eq_true rfl⟩ dX5_init_58 (fun q7 => ?_)
  refine j_ws (w2 := ([(a, .inr (5, [.ref q1, .int 0, .ref q2, .ref q3, .ref q4, .ref q5, .int 0, .ref q6, .null, .int 0, .null, .int 0, .int 0, .int 0, .int 0, .null, .int 0]))]) ++ ([(q1, .inl (dI D, 455, .inl (fun _ => 0)))]) ++ ([(q2, .inl (dI D, 2730, .inl (fun _ => 0)))]) ++ ([(q3, .inl (dZ D, 2, .inl (fun _ => 0)))]) ++ ([(q4, .inl (dI D, 910, .inl (fun _ => 0)))]) ++ ([(q5, .inl (dI D, 455, .inl (fun _ => 0)))]) ++ ([(q6, .inl (dI D, 6, .inl (fun _ => 0)))]) ++ ([(q7, .inl (dI D, 6, .inl (fun _ => 0)))])) (st2 := [.ref q7, .ref a]) rfl rfl ?_
  refine p_X5_29 (w2 := ([(a, .inr (5, [.ref q1, .int 0, .ref q2, .ref q3, .ref q4, .ref q5, .int 0, .ref q6, .ref q7, .int 0, .null, .int 0, .int 0, .int 0, .int 0, .null, .int 0]))]) ++ ([(q1, .inl (dI D, 455, .inl (fun _ => 0)))]) ++ ([(q2, .inl (dI D, 2730, .inl (fun _ => 0)))]) ++ ([(q3, .inl (dZ D, 2, .inl (fun _ => 0)))]) ++ ([(q4, .inl (dI D, 910, .inl (fun _ => 0)))]) ++ ([(q5, .inl (dI D, 455, .inl (fun _ => 0)))]) ++ ([(q6, .inl (dI D, 6, .inl (fun _ => 0)))]) ++ ([(q7, .inl (dI D, 6, .inl (fun _ => 0)))])) rfl rfl dX5_init_60 0 rfl (Nat.le_of_ble_eq_true rfl) (rfl) ?_
  refine j_aload_n dX5_init_63 0 rfl ?_
  refine j_bipush (v := nI 120) dX5_init_64 (by decide) ?_
  refine j_newI (N := 120) rfl (Nat.le_of_ble_eq_true rfl) ⟨Nat.le_of_ble_eq_true rfl, Nat.le_of_ble_eq_true rfl⟩ dX5_init_66 (fun q8 => ?_)
  refine j_ws (w2 := ([(a, .inr (5, [.ref q1, .int 0, .ref q2, .ref q3, .ref q4, .ref q5, .int 0, .ref q6, .ref q7, .int 0, .null, .int 0, .int 0, .int 0, .int 0, .null, .int 0]))]) ++ ([(q1, .inl (dI D, 455, .inl (fun _ => 0)))]) ++ ([(q2, .inl (dI D, 2730, .inl (fun _ => 0)))]) ++ ([(q3, .inl (dZ D, 2, .inl (fun _ => 0)))]) ++ ([(q4, .inl (dI D, 910, .inl (fun _ => 0)))]) ++ ([(q5, .inl (dI D, 455, .inl (fun _ => 0)))]) ++ ([(q6, .inl (dI D, 6, .inl (fun _ => 0)))]) ++ ([(q7, .inl (dI D, 6, .inl (fun _ => 0)))]) ++ ([(q8, .inl (dI D, 120, .inl (fun _ => 0)))])) (st2 := [.ref q8, .ref a]) rfl rfl ?_
  refine p_X5_32 (w2 := ([(a, .inr (5, [.ref q1, .int 0, .ref q2, .ref q3, .ref q4, .ref q5, .int 0, .ref q6, .ref q7, .int 0, .ref q8, .int 0, .int 0, .int 0, .int 0, .null, .int 0]))]) ++ ([(q1, .inl (dI D, 455, .inl (fun _ => 0)))]) ++ ([(q2, .inl (dI D, 2730, .inl (fun _ => 0)))]) ++ ([(q3, .inl (dZ D, 2, .inl (fun _ => 0)))]) ++ ([(q4, .inl (dI D, 910, .inl (fun _ => 0)))]) ++ ([(q5, .inl (dI D, 455, .inl (fun _ => 0)))]) ++ ([(q6, .inl (dI D, 6, .inl (fun _ => 0)))]) ++ ([(q7, .inl (dI D, 6, .inl (fun _ => 0)))]) ++ ([(q8, .inl (dI D, 120, .inl (fun _ => 0)))])) rfl rfl dX5_init_68 0 rfl (Nat.le_of_ble_eq_true rfl) (rfl) ?_
  refine j_aload_n dX5_init_71 0 rfl ?_
  refine j_bipush (v := nI 10) dX5_init_72 (by decide) ?_
  refine j_newI (N := 10) rfl (Nat.le_of_ble_eq_true rfl) ⟨Nat.le_of_ble_eq_true rfl, Nat.le_of_ble_eq_true rfl⟩ dX5_init_74 (fun q9 => ?_)
  refine j_ws (w2 := ([(a, .inr (5, [.ref q1, .int 0, .ref q2, .ref q3, .ref q4, .ref q5, .int 0, .ref q6, .ref q7, .int 0, .ref q8, .int 0, .int 0, .int 0, .int 0, .null, .int 0]))]) ++ ([(q1, .inl (dI D, 455, .inl (fun _ => 0)))]) ++ ([(q2, .inl (dI D, 2730, .inl (fun _ => 0)))]) ++ ([(q3, .inl (dZ D, 2, .inl (fun _ => 0)))]) ++ ([(q4, .inl (dI D, 910, .inl (fun _ => 0)))]) ++ ([(q5, .inl (dI D, 455, .inl (fun _ => 0)))]) ++ ([(q6, .inl (dI D, 6, .inl (fun _ => 0)))]) ++ ([(q7, .inl (dI D, 6, .inl (fun _ => 0)))]) ++ ([(q8, .inl (dI D, 120, .inl (fun _ => 0)))]) ++ ([(q9, .inl (dI D, 10, .inl (fun _ => 0)))])) (st2 := [.ref q9, .ref a]) rfl rfl ?_
  refine p_X5_35 (w2 := ([(a, .inr (5, [.ref q1, .int 0, .ref q2, .ref q3, .ref q4, .ref q5, .int 0, .ref q6, .ref q7, .int 0, .ref q8, .int 0, .int 0, .int 0, .int 0, .ref q9, .int 0]))]) ++ ([(q1, .inl (dI D, 455, .inl (fun _ => 0)))]) ++ ([(q2, .inl (dI D, 2730, .inl (fun _ => 0)))]) ++ ([(q3, .inl (dZ D, 2, .inl (fun _ => 0)))]) ++ ([(q4, .inl (dI D, 910, .inl (fun _ => 0)))]) ++ ([(q5, .inl (dI D, 455, .inl (fun _ => 0)))]) ++ ([(q6, .inl (dI D, 6, .inl (fun _ => 0)))]) ++ ([(q7, .inl (dI D, 6, .inl (fun _ => 0)))]) ++ ([(q8, .inl (dI D, 120, .inl (fun _ => 0)))]) ++ ([(q9, .inl (dI D, 10, .inl (fun _ => 0)))])) rfl rfl dX5_init_76 0 rfl (Nat.le_of_ble_eq_true rfl) (rfl) ?_
  refine j_w (w2 := ([(a, .inr (5, [.ref q1, .int 0, .ref q2, .ref q3, .ref q4, .ref q5, .int 0, .ref q6, .ref q7, .int 0, .ref q8, .int 0, .int 0, .int 0, .int 0, .ref q9, .int 0]))]) ++ ([(q1, .inl (dI D, 455, .inl (mI 0)))]) ++ ([(q2, .inl (dI D, 2730, .inl (fun _ => 0)))]) ++ ([(q3, .inl (dZ D, 2, .inl (fun _ => 0)))]) ++ ([(q4, .inl (dI D, 910, .inl (fun _ => 0)))]) ++ ([(q5, .inl (dI D, 455, .inl (fun _ => 0)))]) ++ ([(q6, .inl (dI D, 6, .inl (fun _ => 0)))]) ++ ([(q7, .inl (dI D, 6, .inl (fun _ => 0)))]) ++ ([(q8, .inl (dI D, 120, .inl (fun _ => 0)))]) ++ ([(q9, .inl (dI D, 10, .inl (fun _ => 0)))])) (by rw [mI_0]) ?_
  refine j_iconst (v := nI 0) dX5_init_79 (by decide) ?_
  refine j_istore_n (lv2 := [(0, .ref a), (1, .int (nI 0))]) dX5_init_80 (by decide) [1, 0] rfl ?_
  have L81 : ∀ (fuel : Nat) (i : Nat), i ≤ 64 → 64 - i < fuel → J D Γ yX5_init cX5_init 2 none ({ frames := 1, cells := 9, slots := 4694, locals := 20 } : Room) (Qf D Γ ({ frames := 1, cells := 9, slots := 4694, locals := 20 } : Room) (fun v_ u_ => v_ = none ∧ ∃ M : Nat → Nat, M 0 = a ∧ u_ = MW D M 0 0 0 0 0 0 0 0 s0 (fun _ => 0) (fun _ => 0) (fun _ => 0) (fun _ => 0) (fun _ => 0) (fun _ => 0) (fun _ => 0) (fun _ => 0))) 9 4694 (([(a, .inr (5, [.ref q1, .int 0, .ref q2, .ref q3, .ref q4, .ref q5, .int 0, .ref q6, .ref q7, .int 0, .ref q8, .int 0, .int 0, .int 0, .int 0, .ref q9, .int 0]))]) ++ ([(q1, .inl (dI D, 455, .inl (mI i)))]) ++ ([(q2, .inl (dI D, 2730, .inl (fun _ => 0)))]) ++ ([(q3, .inl (dZ D, 2, .inl (fun _ => 0)))]) ++ ([(q4, .inl (dI D, 910, .inl (fun _ => 0)))]) ++ ([(q5, .inl (dI D, 455, .inl (fun _ => 0)))]) ++ ([(q6, .inl (dI D, 6, .inl (fun _ => 0)))]) ++ ([(q7, .inl (dI D, 6, .inl (fun _ => 0)))]) ++ ([(q8, .inl (dI D, 120, .inl (fun _ => 0)))]) ++ ([(q9, .inl (dI D, 10, .inl (fun _ => 0)))])) 81 [(0, .ref a), (1, .int (nI i))] [] := by
    intro fuel
    induction fuel with
    | zero => intro i hi hm; exact absurd hm (Nat.not_lt_zero _)
    | succ fuel ih =>
      intro i hi hm
      refine j_iload_n dX5_init_81 1 rfl ?_
      refine j_bipush (v := nI 64) dX5_init_82 (by decide) ?_
      refine j_icmp_ge_N (tgt := 100) dX5_init_84 (by decide) ⟨by omega, by omega⟩ (fun h84 => ?_) (fun h84 => ?_)
      · skip
        obtain rfl : i = 64 := by omega
        refine j_w (w2 := ([(a, .inr (5, [.ref q1, .int 0, .ref q2, .ref q3, .ref q4, .ref q5, .int 0, .ref q6, .ref q7, .int 0, .ref q8, .int 0, .int 0, .int 0, .int 0, .ref q9, .int 0]))]) ++ ([(q1, .inl (dI D, 455, .inl (dJ 0)))]) ++ ([(q2, .inl (dI D, 2730, .inl (fun _ => 0)))]) ++ ([(q3, .inl (dZ D, 2, .inl (fun _ => 0)))]) ++ ([(q4, .inl (dI D, 910, .inl (fun _ => 0)))]) ++ ([(q5, .inl (dI D, 455, .inl (fun _ => 0)))]) ++ ([(q6, .inl (dI D, 6, .inl (fun _ => 0)))]) ++ ([(q7, .inl (dI D, 6, .inl (fun _ => 0)))]) ++ ([(q8, .inl (dI D, 120, .inl (fun _ => 0)))]) ++ ([(q9, .inl (dI D, 10, .inl (fun _ => 0)))])) (by rw [dI_0]) ?_
        refine j_iconst (v := nI 0) dX5_init_100 (by decide) ?_
        refine j_istore_n (lv2 := [(0, .ref a), (1, .int (nI 0))]) dX5_init_101 (by decide) [1, 0] rfl ?_
        have L102 : ∀ (fuel : Nat) (i : Nat), i ≤ 4 → 4 - i < fuel → J D Γ yX5_init cX5_init 2 none ({ frames := 1, cells := 9, slots := 4694, locals := 20 } : Room) (Qf D Γ ({ frames := 1, cells := 9, slots := 4694, locals := 20 } : Room) (fun v_ u_ => v_ = none ∧ ∃ M : Nat → Nat, M 0 = a ∧ u_ = MW D M 0 0 0 0 0 0 0 0 s0 (fun _ => 0) (fun _ => 0) (fun _ => 0) (fun _ => 0) (fun _ => 0) (fun _ => 0) (fun _ => 0) (fun _ => 0))) 9 4694 (([(a, .inr (5, [.ref q1, .int 0, .ref q2, .ref q3, .ref q4, .ref q5, .int 0, .ref q6, .ref q7, .int 0, .ref q8, .int 0, .int 0, .int 0, .int 0, .ref q9, .int 0]))]) ++ ([(q1, .inl (dI D, 455, .inl (dJ i)))]) ++ ([(q2, .inl (dI D, 2730, .inl (fun _ => 0)))]) ++ ([(q3, .inl (dZ D, 2, .inl (fun _ => 0)))]) ++ ([(q4, .inl (dI D, 910, .inl (fun _ => 0)))]) ++ ([(q5, .inl (dI D, 455, .inl (fun _ => 0)))]) ++ ([(q6, .inl (dI D, 6, .inl (fun _ => 0)))]) ++ ([(q7, .inl (dI D, 6, .inl (fun _ => 0)))]) ++ ([(q8, .inl (dI D, 120, .inl (fun _ => 0)))]) ++ ([(q9, .inl (dI D, 10, .inl (fun _ => 0)))])) 102 [(0, .ref a), (1, .int (nI i))] [] := by
          intro fuel
          induction fuel with
          | zero => intro i hi hm; exact absurd hm (Nat.not_lt_zero _)
          | succ fuel ih =>
            intro i hi hm
            refine j_iload_n dX5_init_102 1 rfl ?_
            refine j_iconst (v := nI 4) dX5_init_103 (by decide) ?_
            refine j_icmp_ge_N (tgt := 143) dX5_init_104 (by decide) ⟨by omega, by omega⟩ (fun h104 => ?_) (fun h104 => ?_)
            · skip
              obtain rfl : i = 4 := by omega
              refine j_aload_n dX5_init_143 0 rfl ?_
              refine g_X5_7 rfl dX5_init_144 0 rfl rfl ?_
              refine j_sipush (v := nI 453) dX5_init_147 (by decide) ?_
              refine j_iconst (v := nI 3) dX5_init_150 (by decide) ?_
              refine j_iast (w2 := ([(a, .inr (5, [.ref q1, .int 0, .ref q2, .ref q3, .ref q4, .ref q5, .int 0, .ref q6, .ref q7, .int 0, .ref q8, .int 0, .int 0, .int 0, .int 0, .ref q9, .int 0]))]) ++ ([(q1, .inl (dI D, 455, .inl (upd (dJ 4) 453 (nI 3))))]) ++ ([(q2, .inl (dI D, 2730, .inl (fun _ => 0)))]) ++ ([(q3, .inl (dZ D, 2, .inl (fun _ => 0)))]) ++ ([(q4, .inl (dI D, 910, .inl (fun _ => 0)))]) ++ ([(q5, .inl (dI D, 455, .inl (fun _ => 0)))]) ++ ([(q6, .inl (dI D, 6, .inl (fun _ => 0)))]) ++ ([(q7, .inl (dI D, 6, .inl (fun _ => 0)))]) ++ ([(q8, .inl (dI D, 120, .inl (fun _ => 0)))]) ++ ([(q9, .inl (dI D, 10, .inl (fun _ => 0)))])) dX5_init_151 1 453 rfl (rfl) (by omega) (Nat.le_of_ble_eq_true rfl) (rfl) ?_
              refine j_cong (w2 := ([(a, .inr (5, [.ref q1, .int 0, .ref q2, .ref q3, .ref q4, .ref q5, .int 0, .ref q6, .ref q7, .int 0, .ref q8, .int 0, .int 0, .int 0, .int 0, .ref q9, .int 0]))]) ++ ([(q1, .inl (dI D, 455, .inl (s0)))]) ++ ([(q2, .inl (dI D, 2730, .inl (fun _ => 0)))]) ++ ([(q3, .inl (dZ D, 2, .inl (fun _ => 0)))]) ++ ([(q4, .inl (dI D, 910, .inl (fun _ => 0)))]) ++ ([(q5, .inl (dI D, 455, .inl (fun _ => 0)))]) ++ ([(q6, .inl (dI D, 6, .inl (fun _ => 0)))]) ++ ([(q7, .inl (dI D, 6, .inl (fun _ => 0)))]) ++ ([(q8, .inl (dI D, 120, .inl (fun _ => 0)))]) ++ ([(q9, .inl (dI D, 10, .inl (fun _ => 0)))])) 1 rfl (s0_S) rfl ?_
              exact j_vret dX5_init_152 ⟨rfl, rfl⟩ ⟨rfl, fun i => [a, q1, q2, q3, q4, q5, q6, q7, q8, q9].getD i 0, rfl, rfl⟩
            · skip
              refine j_aload_n dX5_init_107 0 rfl ?_
              refine g_X5_7 rfl dX5_init_108 0 rfl rfl ?_
              refine j_bipush (v := nI 64) dX5_init_111 (by decide) ?_
              refine j_bipush (v := nI 7) dX5_init_113 (by decide) ?_
              refine j_iload_n dX5_init_115 1 rfl ?_
              refine j_imul (v := nI (7 * i)) dX5_init_116 (pk_mul _ _) ?_
              refine j_iadd (v := nI (64 + 7 * i)) dX5_init_117 (nI_add _ _) ?_
              refine j_iconst (v := nI 0) dX5_init_118 (by decide) ?_
              refine j_iadd (v := nI (64 + 7 * i + 0)) dX5_init_119 (nI_add _ _) ?_
              refine j_iconst (v := nI 1) dX5_init_120 (by decide) ?_
              refine j_iast (w2 := ([(a, .inr (5, [.ref q1, .int 0, .ref q2, .ref q3, .ref q4, .ref q5, .int 0, .ref q6, .ref q7, .int 0, .ref q8, .int 0, .int 0, .int 0, .int 0, .ref q9, .int 0]))]) ++ ([(q1, .inl (dI D, 455, .inl (upd (dJ i) (64 + 7 * i + 0) (nI 1))))]) ++ ([(q2, .inl (dI D, 2730, .inl (fun _ => 0)))]) ++ ([(q3, .inl (dZ D, 2, .inl (fun _ => 0)))]) ++ ([(q4, .inl (dI D, 910, .inl (fun _ => 0)))]) ++ ([(q5, .inl (dI D, 455, .inl (fun _ => 0)))]) ++ ([(q6, .inl (dI D, 6, .inl (fun _ => 0)))]) ++ ([(q7, .inl (dI D, 6, .inl (fun _ => 0)))]) ++ ([(q8, .inl (dI D, 120, .inl (fun _ => 0)))]) ++ ([(q9, .inl (dI D, 10, .inl (fun _ => 0)))])) dX5_init_121 1 (64 + 7 * i + 0) rfl (rfl) (by omega) (Nat.le_of_ble_eq_true rfl) (rfl) ?_
              refine j_aload_n dX5_init_122 0 rfl ?_
              refine g_X5_7 rfl dX5_init_123 0 rfl rfl ?_
              refine j_bipush (v := nI 64) dX5_init_126 (by decide) ?_
              refine j_bipush (v := nI 7) dX5_init_128 (by decide) ?_
              refine j_iload_n dX5_init_130 1 rfl ?_
              refine j_imul (v := nI (7 * i)) dX5_init_131 (pk_mul _ _) ?_
              refine j_iadd (v := nI (64 + 7 * i)) dX5_init_132 (nI_add _ _) ?_
              refine j_iconst (v := nI 2) dX5_init_133 (by decide) ?_
              refine j_iadd (v := nI (64 + 7 * i + 2)) dX5_init_134 (nI_add _ _) ?_
              refine j_iconst (v := nI 4) dX5_init_135 (by decide) ?_
              refine j_iast (w2 := ([(a, .inr (5, [.ref q1, .int 0, .ref q2, .ref q3, .ref q4, .ref q5, .int 0, .ref q6, .ref q7, .int 0, .ref q8, .int 0, .int 0, .int 0, .int 0, .ref q9, .int 0]))]) ++ ([(q1, .inl (dI D, 455, .inl (dJ (i + 1))))]) ++ ([(q2, .inl (dI D, 2730, .inl (fun _ => 0)))]) ++ ([(q3, .inl (dZ D, 2, .inl (fun _ => 0)))]) ++ ([(q4, .inl (dI D, 910, .inl (fun _ => 0)))]) ++ ([(q5, .inl (dI D, 455, .inl (fun _ => 0)))]) ++ ([(q6, .inl (dI D, 6, .inl (fun _ => 0)))]) ++ ([(q7, .inl (dI D, 6, .inl (fun _ => 0)))]) ++ ([(q8, .inl (dI D, 120, .inl (fun _ => 0)))]) ++ ([(q9, .inl (dI D, 10, .inl (fun _ => 0)))])) dX5_init_136 1 (64 + 7 * i + 2) rfl (rfl) (by omega) (Nat.le_of_ble_eq_true rfl) (by rw [← dI_s]; rfl) ?_
              refine j_iinc (v := nI (i + 1)) (lv2 := [(0, .ref a), (1, .int (nI (i + 1)))]) dX5_init_137 1 rfl (nI_1 _) (by decide) [1, 0] rfl ?_
              refine j_goto (tgt := 102) dX5_init_140 (by decide) ?_
              exact ih (i + 1) (by omega) (by omega)
        exact L102 5 0 (by omega) (by omega)
      · skip
        refine j_aload_n dX5_init_87 0 rfl ?_
        refine g_X5_7 rfl dX5_init_88 0 rfl rfl ?_
        refine j_iload_n dX5_init_91 1 rfl ?_
        refine j_iload_n dX5_init_92 1 rfl ?_
        refine j_iast (w2 := ([(a, .inr (5, [.ref q1, .int 0, .ref q2, .ref q3, .ref q4, .ref q5, .int 0, .ref q6, .ref q7, .int 0, .ref q8, .int 0, .int 0, .int 0, .int 0, .ref q9, .int 0]))]) ++ ([(q1, .inl (dI D, 455, .inl (mI (i + 1))))]) ++ ([(q2, .inl (dI D, 2730, .inl (fun _ => 0)))]) ++ ([(q3, .inl (dZ D, 2, .inl (fun _ => 0)))]) ++ ([(q4, .inl (dI D, 910, .inl (fun _ => 0)))]) ++ ([(q5, .inl (dI D, 455, .inl (fun _ => 0)))]) ++ ([(q6, .inl (dI D, 6, .inl (fun _ => 0)))]) ++ ([(q7, .inl (dI D, 6, .inl (fun _ => 0)))]) ++ ([(q8, .inl (dI D, 120, .inl (fun _ => 0)))]) ++ ([(q9, .inl (dI D, 10, .inl (fun _ => 0)))])) dX5_init_93 1 i rfl (rfl) (by omega) (Nat.le_of_ble_eq_true rfl) (by rw [← mI_s]; rfl) ?_
        refine j_iinc (v := nI (i + 1)) (lv2 := [(0, .ref a), (1, .int (nI (i + 1)))]) dX5_init_94 1 rfl (nI_1 _) (by decide) [1, 0] rfl ?_
        refine j_goto (tgt := 81) dX5_init_97 (by decide) ?_
        exact ih (i + 1) (by omega) (by omega)
  exact L81 65 0 (by omega) (by omega)

end IN1
