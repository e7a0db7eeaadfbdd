section IN4
variable {D : DX}
set_option maxHeartbeats 4000000 in
set_option maxRecDepth 100000 in
theorem c_X4_init (a : Nat) : Ct D yX4_init cX4_init 2 none ({ frames := 3, cells := 61, slots := 4768, locals := 62 } : Room) [.ref a] ([(a, .inr (4, [.null, .null, .null, .null, .null, .null, .null]))]) (fun v_ u_ => v_ = none ∧ ∃ (X E F Y Z V : Nat → Nat) (P G : Nat → Nat → Nat), u_ = CW D a X E F Y Z V P G s0 s0 (fun _ => 0) (fun _ => 0) (fun _ => 0) 0 0 0 (fun _ => s0) 5 0 (fun _ => 0) (fun _ => 0) 0 (fun _ => 0) (fun _ => s0)) := by
  refine ct_of (by decide) (Nat.le_of_ble_eq_true rfl) (lv0 := [(0, .ref a)]) rfl (fun Γ => ?_)
  refine j_aload_n dX4_init_0 0 rfl ?_
  refine j_oi rfl m_ml_X4_1 dX4_init_1 ⟨Nat.le_of_ble_eq_true rfl, Nat.le_of_ble_eq_true rfl⟩ ?_
  refine j_aload_n dX4_init_4 0 rfl ?_
  refine j_new (ci := 3) (fs := f0X3) rfl m_us_X3 tyX3 tyX3_ok m_cl_X4_7 m_is_X3 m_in_X3 rfl fsX3 ⟨Nat.le_of_ble_eq_true rfl, Nat.le_of_ble_eq_true rfl⟩ dX4_init_5 (fun q1 => ?_)
  refine j_ws (w2 := ([(a, .inr (4, [.null, .null, .null, .null, .null, .null, .null]))]) ++ ([(q1, .inr (3, [.null, .null, .null, .int 0, .int 0, .int 0]))])) (st2 := [.ref q1, .ref a]) rfl rfl ?_
  refine j_dup dX4_init_8 rfl ?_
  refine j_init (wr := [(a, .inr (4, [.null, .null, .null, .null, .null, .null, .null]))]) (c_X3_init q1) rfl cw_X4_9 ⟨Nat.le_of_ble_eq_true rfl, Nat.le_of_ble_eq_true rfl⟩ ⟨Nat.le_of_ble_eq_true rfl, Nat.le_of_ble_eq_true rfl⟩ dX4_init_9 (Nat.le_of_ble_eq_true rfl) rfl (fun v_ w_ hf_ => ?_)
  obtain ⟨rfl, X, rfl, rfl⟩ := hf_
  refine j_ws (w2 := ([(a, .inr (4, [.null, .null, .null, .null, .null, .null, .null]))]) ++ (TW D X (fun _ => 0) (fun _ => 0) (fun _ => 0) 0 0 0)) (st2 := [.ref (X 0), .ref a]) rfl rfl ?_
  refine p_X4_10 (w2 := ([(a, .inr (4, [.ref (X 0), .null, .null, .null, .null, .null, .null]))]) ++ (TW D X (fun _ => 0) (fun _ => 0) (fun _ => 0) 0 0 0)) rfl rfl dX4_init_12 0 rfl (Nat.le_of_ble_eq_true rfl) (rfl) ?_
  refine j_aload_n dX4_init_15 0 rfl ?_
  refine j_new (ci := 0) (fs := f0X0) rfl m_us_X0 tyX0 tyX0_ok m_cl_X4_16 m_is_X0 m_in_X0 rfl fsX0 ⟨Nat.le_of_ble_eq_true rfl, Nat.le_of_ble_eq_true rfl⟩ dX4_init_16 (fun q2 => ?_)
  refine j_ws (w2 := ([(a, .inr (4, [.ref (X 0), .null, .null, .null, .null, .null, .null]))]) ++ (TW D X (fun _ => 0) (fun _ => 0) (fun _ => 0) 0 0 0) ++ ([(q2, .inr (0, [.null, .null, .null, .null, .int 0, .int 0, .int 0]))])) (st2 := [.ref q2, .ref a]) rfl rfl ?_
  refine j_dup dX4_init_19 rfl ?_
  refine j_init (wr := ([(a, .inr (4, [.ref (X 0), .null, .null, .null, .null, .null, .null]))]) ++ (TW D X (fun _ => 0) (fun _ => 0) (fun _ => 0) 0 0 0)) (c_X0_init q2) rfl cw_X4_18 ⟨Nat.le_of_ble_eq_true rfl, Nat.le_of_ble_eq_true rfl⟩ ⟨Nat.le_of_ble_eq_true rfl, Nat.le_of_ble_eq_true rfl⟩ dX4_init_20 (Nat.le_of_ble_eq_true rfl) rfl (fun v_ w_ hf_ => ?_)
  obtain ⟨rfl, E, rfl, rfl⟩ := hf_
  refine j_ws (w2 := ([(a, .inr (4, [.ref (X 0), .null, .null, .null, .null, .null, .null]))]) ++ (TW D X (fun _ => 0) (fun _ => 0) (fun _ => 0) 0 0 0) ++ (EW D E s0)) (st2 := [.ref (E 0), .ref a]) rfl rfl ?_
  refine p_X4_19 (w2 := ([(a, .inr (4, [.ref (X 0), .ref (E 0), .null, .null, .null, .null, .null]))]) ++ (TW D X (fun _ => 0) (fun _ => 0) (fun _ => 0) 0 0 0) ++ (EW D E s0)) rfl rfl dX4_init_23 0 rfl (Nat.le_of_ble_eq_true rfl) (rfl) ?_
  refine j_aload_n dX4_init_26 0 rfl ?_
  refine j_new (ci := 0) (fs := f0X0) rfl m_us_X0 tyX0 tyX0_ok m_cl_X4_16 m_is_X0 m_in_X0 rfl fsX0 ⟨Nat.le_of_ble_eq_true rfl, Nat.le_of_ble_eq_true rfl⟩ dX4_init_27 (fun q3 => ?_)
  refine j_ws (w2 := ([(a, .inr (4, [.ref (X 0), .ref (E 0), .null, .null, .null, .null, .null]))]) ++ (TW D X (fun _ => 0) (fun _ => 0) (fun _ => 0) 0 0 0) ++ (EW D E s0) ++ ([(q3, .inr (0, [.null, .null, .null, .null, .int 0, .int 0, .int 0]))])) (st2 := [.ref q3, .ref a]) rfl rfl ?_
  refine j_dup dX4_init_30 rfl ?_
  refine j_init (wr := ([(a, .inr (4, [.ref (X 0), .ref (E 0), .null, .null, .null, .null, .null]))]) ++ (TW D X (fun _ => 0) (fun _ => 0) (fun _ => 0) 0 0 0) ++ (EW D E s0)) (c_X0_init q3) rfl cw_X4_18 ⟨Nat.le_of_ble_eq_true rfl, Nat.le_of_ble_eq_true rfl⟩ ⟨Nat.le_of_ble_eq_true rfl, Nat.le_of_ble_eq_true rfl⟩ dX4_init_31 (Nat.le_of_ble_eq_true rfl) rfl (fun v_ w_ hf_ => ?_)
  obtain ⟨rfl, F, rfl, rfl⟩ := hf_
  refine j_ws (w2 := ([(a, .inr (4, [.ref (X 0), .ref (E 0), .null, .null, .null, .null, .null]))]) ++ (TW D X (fun _ => 0) (fun _ => 0) (fun _ => 0) 0 0 0) ++ (EW D E s0) ++ (EW D F s0)) (st2 := [.ref (F 0), .ref a]) rfl rfl ?_
  refine p_X4_23 (w2 := ([(a, .inr (4, [.ref (X 0), .ref (E 0), .ref (F 0), .null, .null, .null, .null]))]) ++ (TW D X (fun _ => 0) (fun _ => 0) (fun _ => 0) 0 0 0) ++ (EW D E s0) ++ (EW D F s0)) rfl rfl dX4_init_34 0 rfl (Nat.le_of_ble_eq_true rfl) (rfl) ?_
  refine j_aload_n dX4_init_37 0 rfl ?_
  refine j_new (ci := 1) (fs := f0X1) rfl m_us_X1 tyX1 tyX1_ok m_cl_X4_26 m_is_X1 m_in_X1 rfl fsX1 ⟨Nat.le_of_ble_eq_true rfl, Nat.le_of_ble_eq_true rfl⟩ dX4_init_38 (fun q4 => ?_)
  refine j_ws (w2 := ([(a, .inr (4, [.ref (X 0), .ref (E 0), .ref (F 0), .null, .null, .null, .null]))]) ++ (TW D X (fun _ => 0) (fun _ => 0) (fun _ => 0) 0 0 0) ++ (EW D E s0) ++ (EW D F s0) ++ ([(q4, .inr (1, [.null, .int 0, .int 0]))])) (st2 := [.ref q4, .ref a]) rfl rfl ?_
  refine j_dup dX4_init_41 rfl ?_
  refine j_init (wr := ([(a, .inr (4, [.ref (X 0), .ref (E 0), .ref (F 0), .null, .null, .null, .null]))]) ++ (TW D X (fun _ => 0) (fun _ => 0) (fun _ => 0) 0 0 0) ++ (EW D E s0) ++ (EW D F s0)) (c_X1_init q4) rfl cw_X4_28 ⟨Nat.le_of_ble_eq_true rfl, Nat.le_of_ble_eq_true rfl⟩ ⟨Nat.le_of_ble_eq_true rfl, Nat.le_of_ble_eq_true rfl⟩ dX4_init_42 (Nat.le_of_ble_eq_true rfl) rfl (fun v_ w_ hf_ => ?_)
  obtain ⟨rfl, Y, P, rfl, rfl⟩ := hf_
  refine j_ws (w2 := ([(a, .inr (4, [.ref (X 0), .ref (E 0), .ref (F 0), .null, .null, .null, .null]))]) ++ (TW D X (fun _ => 0) (fun _ => 0) (fun _ => 0) 0 0 0) ++ (EW D E s0) ++ (EW D F s0) ++ (HO D Y P 5 0) ++ (EW D (P 0) s0) ++ (EW D (P 1) s0) ++ (EW D (P 2) s0) ++ (EW D (P 3) s0) ++ (EW D (P 4) s0) ++ (EW D (P 5) s0)) (st2 := [.ref (Y 0), .ref a]) rfl rfl ?_
  refine p_X4_29 (w2 := ([(a, .inr (4, [.ref (X 0), .ref (E 0), .ref (F 0), .ref (Y 0), .null, .null, .null]))]) ++ (TW D X (fun _ => 0) (fun _ => 0) (fun _ => 0) 0 0 0) ++ (EW D E s0) ++ (EW D F s0) ++ (HO D Y P 5 0) ++ (EW D (P 0) s0) ++ (EW D (P 1) s0) ++ (EW D (P 2) s0) ++ (EW D (P 3) s0) ++ (EW D (P 4) s0) ++ (EW D (P 5) s0)) rfl rfl dX4_init_45 0 rfl (Nat.le_of_ble_eq_true rfl) (rfl) ?_
  refine j_aload_n dX4_init_48 0 rfl ?_
  refine j_new (ci := 2) (fs := f0X2) rfl m_us_X2 tyX2 tyX2_ok m_cl_X4_33 m_is_X2 m_in_X2 rfl fsX2 ⟨Nat.le_of_ble_eq_true rfl, Nat.le_of_ble_eq_true rfl⟩ dX4_init_49 (fun q5 => ?_)
  refine j_ws (w2 := ([(a, .inr (4, [.ref (X 0), .ref (E 0), .ref (F 0), .ref (Y 0), .null, .null, .null]))]) ++ (TW D X (fun _ => 0) (fun _ => 0) (fun _ => 0) 0 0 0) ++ (EW D E s0) ++ (EW D F s0) ++ (HO D Y P 5 0) ++ (EW D (P 0) s0) ++ (EW D (P 1) s0) ++ (EW D (P 2) s0) ++ (EW D (P 3) s0) ++ (EW D (P 4) s0) ++ (EW D (P 5) s0) ++ ([(q5, .inr (2, [.null, .null, .int 0]))])) (st2 := [.ref q5, .ref a]) rfl rfl ?_
  refine j_dup dX4_init_52 rfl ?_
  refine j_init (wr := ([(a, .inr (4, [.ref (X 0), .ref (E 0), .ref (F 0), .ref (Y 0), .null, .null, .null]))]) ++ (TW D X (fun _ => 0) (fun _ => 0) (fun _ => 0) 0 0 0) ++ (EW D E s0) ++ (EW D F s0) ++ (HO D Y P 5 0) ++ (EW D (P 0) s0) ++ (EW D (P 1) s0) ++ (EW D (P 2) s0) ++ (EW D (P 3) s0) ++ (EW D (P 4) s0) ++ (EW D (P 5) s0)) (c_X2_init q5) rfl cw_X4_35 ⟨Nat.le_of_ble_eq_true rfl, Nat.le_of_ble_eq_true rfl⟩ ⟨Nat.le_of_ble_eq_true rfl, Nat.le_of_ble_eq_true rfl⟩ dX4_init_53 (Nat.le_of_ble_eq_true rfl) rfl (fun v_ w_ hf_ => ?_)
  obtain ⟨rfl, Z, rfl, rfl⟩ := hf_
  refine j_ws (w2 := ([(a, .inr (4, [.ref (X 0), .ref (E 0), .ref (F 0), .ref (Y 0), .null, .null, .null]))]) ++ (TW D X (fun _ => 0) (fun _ => 0) (fun _ => 0) 0 0 0) ++ (EW D E s0) ++ (EW D F s0) ++ (HO D Y P 5 0) ++ (EW D (P 0) s0) ++ (EW D (P 1) s0) ++ (EW D (P 2) s0) ++ (EW D (P 3) s0) ++ (EW D (P 4) s0) ++ (EW D (P 5) s0) ++ (ZW D Z (fun _ => 0) (fun _ => 0) 0)) (st2 := [.ref (Z 0), .ref a]) rfl rfl ?_
  refine p_X4_36 (w2 := ([(a, .inr (4, [.ref (X 0), .ref (E 0), .ref (F 0), .ref (Y 0), .ref (Z 0), .null, .null]))]) ++ (TW D X (fun _ => 0) (fun _ => 0) (fun _ => 0) 0 0 0) ++ (EW D E s0) ++ (EW D F s0) ++ (HO D Y P 5 0) ++ (EW D (P 0) s0) ++ (EW D (P 1) s0) ++ (EW D (P 2) s0) ++ (EW D (P 3) s0) ++ (EW D (P 4) s0) ++ (EW D (P 5) s0) ++ (ZW D Z (fun _ => 0) (fun _ => 0) 0)) rfl rfl dX4_init_56 0 rfl (Nat.le_of_ble_eq_true rfl) (rfl) ?_
  refine j_aload_n dX4_init_59 0 rfl ?_
  refine j_iconst (v := nI 2) dX4_init_60 (by decide) ?_
  refine j_newQ (N := 2) rfl rfl (Nat.le_of_ble_eq_true rfl) m_cl_X4_16 ⟨Nat.le_of_ble_eq_true rfl, Nat.le_of_ble_eq_true rfl⟩ dX4_init_61 (fun q6 => ?_)
  refine j_ws (w2 := ([(a, .inr (4, [.ref (X 0), .ref (E 0), .ref (F 0), .ref (Y 0), .ref (Z 0), .null, .null]))]) ++ (TW D X (fun _ => 0) (fun _ => 0) (fun _ => 0) 0 0 0) ++ (EW D E s0) ++ (EW D F s0) ++ (HO D Y P 5 0) ++ (EW D (P 0) s0) ++ (EW D (P 1) s0) ++ (EW D (P 2) s0) ++ (EW D (P 3) s0) ++ (EW D (P 4) s0) ++ (EW D (P 5) s0) ++ (ZW D Z (fun _ => 0) (fun _ => 0) 0) ++ ([(q6, .inl (dE D, 2, .inr (.inr (.inr (.inr (fun _ => none))))))])) (st2 := [.ref q6, .ref a]) rfl rfl ?_
  refine p_X4_40 (w2 := ([(a, .inr (4, [.ref (X 0), .ref (E 0), .ref (F 0), .ref (Y 0), .ref (Z 0), .ref q6, .null]))]) ++ (TW D X (fun _ => 0) (fun _ => 0) (fun _ => 0) 0 0 0) ++ (EW D E s0) ++ (EW D F s0) ++ (HO D Y P 5 0) ++ (EW D (P 0) s0) ++ (EW D (P 1) s0) ++ (EW D (P 2) s0) ++ (EW D (P 3) s0) ++ (EW D (P 4) s0) ++ (EW D (P 5) s0) ++ (ZW D Z (fun _ => 0) (fun _ => 0) 0) ++ ([(q6, .inl (dE D, 2, .inr (.inr (.inr (.inr (fun _ => none))))))])) rfl rfl dX4_init_64 0 rfl (Nat.le_of_ble_eq_true rfl) (rfl) ?_
  refine j_iconst (v := nI 0) dX4_init_67 (by decide) ?_
  refine j_istore_n (lv2 := [(0, .ref a), (1, .int (nI 0))]) dX4_init_68 (by decide) [1, 0] rfl ?_
  refine j_iload_n dX4_init_69 1 rfl ?_
  refine j_iconst (v := nI 2) dX4_init_70 (by decide) ?_
  refine j_icmp_ge_N (tgt := 93) dX4_init_71 (by decide) ⟨by omega, by omega⟩ (fun h71 => absurd h71 (by decide)) (fun h71 => ?_)
  refine j_aload_n dX4_init_74 0 rfl ?_
  refine g_X4_40 rfl dX4_init_75 0 rfl rfl ?_
  refine j_iload_n dX4_init_78 1 rfl ?_
  refine j_new (ci := 0) (fs := f0X0) rfl m_us_X0 tyX0 tyX0_ok m_cl_X4_16 m_is_X0 m_in_X0 rfl fsX0 ⟨Nat.le_of_ble_eq_true rfl, Nat.le_of_ble_eq_true rfl⟩ dX4_init_79 (fun q7 => ?_)
  refine j_ws (w2 := ([(a, .inr (4, [.ref (X 0), .ref (E 0), .ref (F 0), .ref (Y 0), .ref (Z 0), .ref q6, .null]))]) ++ (TW D X (fun _ => 0) (fun _ => 0) (fun _ => 0) 0 0 0) ++ (EW D E s0) ++ (EW D F s0) ++ (HO D Y P 5 0) ++ (EW D (P 0) s0) ++ (EW D (P 1) s0) ++ (EW D (P 2) s0) ++ (EW D (P 3) s0) ++ (EW D (P 4) s0) ++ (EW D (P 5) s0) ++ (ZW D Z (fun _ => 0) (fun _ => 0) 0) ++ ([(q6, .inl (dE D, 2, .inr (.inr (.inr (.inr (fun _ => none))))))]) ++ ([(q7, .inr (0, [.null, .null, .null, .null, .int 0, .int 0, .int 0]))])) (st2 := [.ref q7, .int (nI 0), .ref q6]) rfl rfl ?_
  refine j_dup dX4_init_82 rfl ?_
  refine j_init (wr := ([(a, .inr (4, [.ref (X 0), .ref (E 0), .ref (F 0), .ref (Y 0), .ref (Z 0), .ref q6, .null]))]) ++ (TW D X (fun _ => 0) (fun _ => 0) (fun _ => 0) 0 0 0) ++ (EW D E s0) ++ (EW D F s0) ++ (HO D Y P 5 0) ++ (EW D (P 0) s0) ++ (EW D (P 1) s0) ++ (EW D (P 2) s0) ++ (EW D (P 3) s0) ++ (EW D (P 4) s0) ++ (EW D (P 5) s0) ++ (ZW D Z (fun _ => 0) (fun _ => 0) 0) ++ ([(q6, .inl (dE D, 2, .inr (.inr (.inr (.inr (fun _ => none))))))])) (c_X0_init q7) rfl cw_X4_18 ⟨Nat.le_of_ble_eq_true rfl, Nat.le_of_ble_eq_true rfl⟩ ⟨Nat.le_of_ble_eq_true rfl, Nat.le_of_ble_eq_true rfl⟩ dX4_init_83 (Nat.le_of_ble_eq_true rfl) rfl (fun v_ w_ hf_ => ?_)
  obtain ⟨rfl, G0, rfl, rfl⟩ := hf_
  refine j_ws (w2 := ([(a, .inr (4, [.ref (X 0), .ref (E 0), .ref (F 0), .ref (Y 0), .ref (Z 0), .ref q6, .null]))]) ++ (TW D X (fun _ => 0) (fun _ => 0) (fun _ => 0) 0 0 0) ++ (EW D E s0) ++ (EW D F s0) ++ (HO D Y P 5 0) ++ (EW D (P 0) s0) ++ (EW D (P 1) s0) ++ (EW D (P 2) s0) ++ (EW D (P 3) s0) ++ (EW D (P 4) s0) ++ (EW D (P 5) s0) ++ (ZW D Z (fun _ => 0) (fun _ => 0) 0) ++ ([(q6, .inl (dE D, 2, .inr (.inr (.inr (.inr (fun _ => none))))))]) ++ (EW D G0 s0)) (st2 := [.ref (G0 0), .int (nI 0), .ref q6]) rfl rfl ?_
  refine j_astq (w2 := ([(a, .inr (4, [.ref (X 0), .ref (E 0), .ref (F 0), .ref (Y 0), .ref (Z 0), .ref q6, .null]))]) ++ (TW D X (fun _ => 0) (fun _ => 0) (fun _ => 0) 0 0 0) ++ (EW D E s0) ++ (EW D F s0) ++ (HO D Y P 5 0) ++ (EW D (P 0) s0) ++ (EW D (P 1) s0) ++ (EW D (P 2) s0) ++ (EW D (P 3) s0) ++ (EW D (P 4) s0) ++ (EW D (P 5) s0) ++ (ZW D Z (fun _ => 0) (fun _ => 0) 0) ++ ([(q6, .inl (dE D, 2, .inr (.inr (.inr (.inr (va_up (fun _ => none) 0 (some (G0 0))))))))]) ++ (EW D G0 s0)) dX4_init_86 50 51 0 rfl rfl rfl (Nat.le_of_ble_eq_true rfl) (Nat.le_of_ble_eq_true rfl) rfl ?_
  refine j_iinc (v := nI 1) (lv2 := [(0, .ref a), (1, .int (nI 1))]) dX4_init_87 1 rfl (nI_1 _) (by decide) [1, 0] rfl ?_
  refine j_goto (tgt := 69) dX4_init_90 (by decide) ?_
  refine j_iload_n dX4_init_69 1 rfl ?_
  refine j_iconst (v := nI 2) dX4_init_70 (by decide) ?_
  refine j_icmp_ge_N (tgt := 93) dX4_init_71 (by decide) ⟨by omega, by omega⟩ (fun h71 => absurd h71 (by decide)) (fun h71 => ?_)
  refine j_aload_n dX4_init_74 0 rfl ?_
  refine g_X4_40 rfl dX4_init_75 0 rfl rfl ?_
  refine j_iload_n dX4_init_78 1 rfl ?_
  refine j_new (ci := 0) (fs := f0X0) rfl m_us_X0 tyX0 tyX0_ok m_cl_X4_16 m_is_X0 m_in_X0 rfl fsX0 ⟨Nat.le_of_ble_eq_true rfl, Nat.le_of_ble_eq_true rfl⟩ dX4_init_79 (fun q8 => ?_)
  refine j_ws (w2 := ([(a, .inr (4, [.ref (X 0), .ref (E 0), .ref (F 0), .ref (Y 0), .ref (Z 0), .ref q6, .null]))]) ++ (TW D X (fun _ => 0) (fun _ => 0) (fun _ => 0) 0 0 0) ++ (EW D E s0) ++ (EW D F s0) ++ (HO D Y P 5 0) ++ (EW D (P 0) s0) ++ (EW D (P 1) s0) ++ (EW D (P 2) s0) ++ (EW D (P 3) s0) ++ (EW D (P 4) s0) ++ (EW D (P 5) s0) ++ (ZW D Z (fun _ => 0) (fun _ => 0) 0) ++ ([(q6, .inl (dE D, 2, .inr (.inr (.inr (.inr (va_up (fun _ => none) 0 (some (G0 0))))))))]) ++ (EW D G0 s0) ++ ([(q8, .inr (0, [.null, .null, .null, .null, .int 0, .int 0, .int 0]))])) (st2 := [.ref q8, .int (nI 1), .ref q6]) rfl rfl ?_
  refine j_dup dX4_init_82 rfl ?_
  refine j_init (wr := ([(a, .inr (4, [.ref (X 0), .ref (E 0), .ref (F 0), .ref (Y 0), .ref (Z 0), .ref q6, .null]))]) ++ (TW D X (fun _ => 0) (fun _ => 0) (fun _ => 0) 0 0 0) ++ (EW D E s0) ++ (EW D F s0) ++ (HO D Y P 5 0) ++ (EW D (P 0) s0) ++ (EW D (P 1) s0) ++ (EW D (P 2) s0) ++ (EW D (P 3) s0) ++ (EW D (P 4) s0) ++ (EW D (P 5) s0) ++ (ZW D Z (fun _ => 0) (fun _ => 0) 0) ++ ([(q6, .inl (dE D, 2, .inr (.inr (.inr (.inr (va_up (fun _ => none) 0 (some (G0 0))))))))]) ++ (EW D G0 s0)) (c_X0_init q8) rfl cw_X4_18 ⟨Nat.le_of_ble_eq_true rfl, Nat.le_of_ble_eq_true rfl⟩ ⟨Nat.le_of_ble_eq_true rfl, Nat.le_of_ble_eq_true rfl⟩ dX4_init_83 (Nat.le_of_ble_eq_true rfl) rfl (fun v_ w_ hf_ => ?_)
  obtain ⟨rfl, G1, rfl, rfl⟩ := hf_
  refine j_ws (w2 := ([(a, .inr (4, [.ref (X 0), .ref (E 0), .ref (F 0), .ref (Y 0), .ref (Z 0), .ref q6, .null]))]) ++ (TW D X (fun _ => 0) (fun _ => 0) (fun _ => 0) 0 0 0) ++ (EW D E s0) ++ (EW D F s0) ++ (HO D Y P 5 0) ++ (EW D (P 0) s0) ++ (EW D (P 1) s0) ++ (EW D (P 2) s0) ++ (EW D (P 3) s0) ++ (EW D (P 4) s0) ++ (EW D (P 5) s0) ++ (ZW D Z (fun _ => 0) (fun _ => 0) 0) ++ ([(q6, .inl (dE D, 2, .inr (.inr (.inr (.inr (va_up (fun _ => none) 0 (some (G0 0))))))))]) ++ (EW D G0 s0) ++ (EW D G1 s0)) (st2 := [.ref (G1 0), .int (nI 1), .ref q6]) rfl rfl ?_
  refine j_astq (w2 := ([(a, .inr (4, [.ref (X 0), .ref (E 0), .ref (F 0), .ref (Y 0), .ref (Z 0), .ref q6, .null]))]) ++ (TW D X (fun _ => 0) (fun _ => 0) (fun _ => 0) 0 0 0) ++ (EW D E s0) ++ (EW D F s0) ++ (HO D Y P 5 0) ++ (EW D (P 0) s0) ++ (EW D (P 1) s0) ++ (EW D (P 2) s0) ++ (EW D (P 3) s0) ++ (EW D (P 4) s0) ++ (EW D (P 5) s0) ++ (ZW D Z (fun _ => 0) (fun _ => 0) 0) ++ ([(q6, .inl (dE D, 2, .inr (.inr (.inr (.inr (va_up (va_up (fun _ => none) 0 (some (G0 0))) 1 (some (G1 0))))))))]) ++ (EW D G0 s0) ++ (EW D G1 s0)) dX4_init_86 50 56 1 rfl rfl rfl (Nat.le_of_ble_eq_true rfl) (Nat.le_of_ble_eq_true rfl) rfl ?_
  refine j_iinc (v := nI 2) (lv2 := [(0, .ref a), (1, .int (nI 2))]) dX4_init_87 1 rfl (nI_1 _) (by decide) [1, 0] rfl ?_
  refine j_goto (tgt := 69) dX4_init_90 (by decide) ?_
  refine j_iload_n dX4_init_69 1 rfl ?_
  refine j_iconst (v := nI 2) dX4_init_70 (by decide) ?_
  refine j_icmp_ge_N (tgt := 93) dX4_init_71 (by decide) ⟨by omega, by omega⟩ (fun h71 => ?_) (fun h71 => absurd (by decide) h71)
  refine j_aload_n dX4_init_93 0 rfl ?_
  refine j_iconst (v := nI 2) dX4_init_94 (by decide) ?_
  refine j_newZ (N := 2) rfl (Nat.le_of_ble_eq_true rfl) ⟨Nat.le_of_ble_eq_true rfl, Nat.le_of_ble_eq_true rfl⟩ dX4_init_95 (fun q9 => ?_)
  refine j_ws (w2 := ([(a, .inr (4, [.ref (X 0), .ref (E 0), .ref (F 0), .ref (Y 0), .ref (Z 0), .ref q6, .null]))]) ++ (TW D X (fun _ => 0) (fun _ => 0) (fun _ => 0) 0 0 0) ++ (EW D E s0) ++ (EW D F s0) ++ (HO D Y P 5 0) ++ (EW D (P 0) s0) ++ (EW D (P 1) s0) ++ (EW D (P 2) s0) ++ (EW D (P 3) s0) ++ (EW D (P 4) s0) ++ (EW D (P 5) s0) ++ (ZW D Z (fun _ => 0) (fun _ => 0) 0) ++ ([(q6, .inl (dE D, 2, .inr (.inr (.inr (.inr (va_up (va_up (fun _ => none) 0 (some (G0 0))) 1 (some (G1 0))))))))]) ++ (EW D G0 s0) ++ (EW D G1 s0) ++ ([(q9, .inl (dZ D, 2, .inl (fun _ => 0)))])) (st2 := [.ref q9, .ref a]) rfl rfl ?_
  refine p_X4_44 (w2 := ([(a, .inr (4, [.ref (X 0), .ref (E 0), .ref (F 0), .ref (Y 0), .ref (Z 0), .ref q6, .ref q9]))]) ++ (TW D X (fun _ => 0) (fun _ => 0) (fun _ => 0) 0 0 0) ++ (EW D E s0) ++ (EW D F s0) ++ (HO D Y P 5 0) ++ (EW D (P 0) s0) ++ (EW D (P 1) s0) ++ (EW D (P 2) s0) ++ (EW D (P 3) s0) ++ (EW D (P 4) s0) ++ (EW D (P 5) s0) ++ (ZW D Z (fun _ => 0) (fun _ => 0) 0) ++ ([(q6, .inl (dE D, 2, .inr (.inr (.inr (.inr (va_up (va_up (fun _ => none) 0 (some (G0 0))) 1 (some (G1 0))))))))]) ++ (EW D G0 s0) ++ (EW D G1 s0) ++ ([(q9, .inl (dZ D, 2, .inl (fun _ => 0)))])) rfl rfl dX4_init_97 0 rfl (Nat.le_of_ble_eq_true rfl) (rfl) ?_
  refine j_congq (w2 := ([(a, .inr (4, [.ref (X 0), .ref (E 0), .ref (F 0), .ref (Y 0), .ref (Z 0), .ref q6, .ref q9]))]) ++ (TW D X (fun _ => 0) (fun _ => 0) (fun _ => 0) 0 0 0) ++ (EW D E s0) ++ (EW D F s0) ++ (HO D Y P 5 0) ++ (EW D (P 0) s0) ++ (EW D (P 1) s0) ++ (EW D (P 2) s0) ++ (EW D (P 3) s0) ++ (EW D (P 4) s0) ++ (EW D (P 5) s0) ++ (ZW D Z (fun _ => 0) (fun _ => 0) 0) ++ ([(q6, .inl (dE D, 2, .inr (.inr (.inr (.inr (fun i => some (([G0, G1].getD i G0) 0)))))))]) ++ (EW D G0 s0) ++ (EW D G1 s0) ++ ([(q9, .inl (dZ D, 2, .inl (fun _ => 0)))])) 50 rfl (fun j hj => by rcases (show j = 0 ∨ j = 1 by omega) with rfl | rfl <;> rfl) rfl ?_
  exact j_vret dX4_init_100 ⟨rfl, rfl⟩ ⟨rfl, X, E, F, Y, Z, fun i => [q6, q9].getD i 0, P, fun i => [G0, G1].getD i G0, rfl⟩
end IN4
