set_option maxHeartbeats 4000000 in
set_option maxRecDepth 100000 in
theorem CW_l (D : DX) (O : Nat) (X E F Y Z V : Nat → Nat) (P G : Nat → Nat → Nat) (s t sg kd nu : SS) (k n ic : Nat) (h : Nat → SS) (nw kn : Nat) (tk wh : SS) (m : Nat) (kp : SS) (g : Nat → SS) : CW D O X E F Y Z V P G s t sg kd nu k n ic h nw kn tk wh m kp g = [(O, .inr (4, [.ref (X 0), .ref (E 0), .ref (F 0), .ref (Y 0), .ref (Z 0), .ref (V 0), .ref (V 1)])), (X 0, .inr (3, [.ref (X 1), .ref (X 2), .ref (X 3), .int (nI k), .int (nI n), .int (nI ic)])), (X 1, .inl (dI D, 120, .inl sg)), (X 2, .inl (dI D, 24, .inl kd)), (X 3, .inl (dI D, 240, .inl nu)), (E 0, .inr (0, [.ref (E 1), .ref (E 2), .ref (E 3), .ref (E 4), .int (s 428), .int (s 453), .int (s 454)])), (E 1, .inl (dI D, 64, .inl (vM s))), (E 2, .inl (dI D, 28, .inl (vC s))), (E 3, .inl (dI D, 312, .inl (vL s))), (E 4, .inl (dI D, 24, .inl (vQ s))), (F 0, .inr (0, [.ref (F 1), .ref (F 2), .ref (F 3), .ref (F 4), .int (t 428), .int (t 453), .int (t 454)])), (F 1, .inl (dI D, 64, .inl (vM t))), (F 2, .inl (dI D, 28, .inl (vC t))), (F 3, .inl (dI D, 312, .inl (vL t))), (F 4, .inl (dI D, 24, .inl (vQ t))), (Y 0, .inr (1, [.ref (Y 1), .int (nI nw), .int (nI kn)])), (Y 1, .inl (dE D, 6, .inr (.inr (.inr (.inr (fun i => some (P i 0))))))), (P 0 0, .inr (0, [.ref (P 0 1), .ref (P 0 2), .ref (P 0 3), .ref (P 0 4), .int (h 0 428), .int (h 0 453), .int (h 0 454)])), (P 0 1, .inl (dI D, 64, .inl (vM (h 0)))), (P 0 2, .inl (dI D, 28, .inl (vC (h 0)))), (P 0 3, .inl (dI D, 312, .inl (vL (h 0)))), (P 0 4, .inl (dI D, 24, .inl (vQ (h 0)))), (P 1 0, .inr (0, [.ref (P 1 1), .ref (P 1 2), .ref (P 1 3), .ref (P 1 4), .int (h 1 428), .int (h 1 453), .int (h 1 454)])), (P 1 1, .inl (dI D, 64, .inl (vM (h 1)))), (P 1 2, .inl (dI D, 28, .inl (vC (h 1)))), (P 1 3, .inl (dI D, 312, .inl (vL (h 1)))), (P 1 4, .inl (dI D, 24, .inl (vQ (h 1)))), (P 2 0, .inr (0, [.ref (P 2 1), .ref (P 2 2), .ref (P 2 3), .ref (P 2 4), .int (h 2 428), .int (h 2 453), .int (h 2 454)])), (P 2 1, .inl (dI D, 64, .inl (vM (h 2)))), (P 2 2, .inl (dI D, 28, .inl (vC (h 2)))), (P 2 3, .inl (dI D, 312, .inl (vL (h 2)))), (P 2 4, .inl (dI D, 24, .inl (vQ (h 2)))), (P 3 0, .inr (0, [.ref (P 3 1), .ref (P 3 2), .ref (P 3 3), .ref (P 3 4), .int (h 3 428), .int (h 3 453), .int (h 3 454)])), (P 3 1, .inl (dI D, 64, .inl (vM (h 3)))), (P 3 2, .inl (dI D, 28, .inl (vC (h 3)))), (P 3 3, .inl (dI D, 312, .inl (vL (h 3)))), (P 3 4, .inl (dI D, 24, .inl (vQ (h 3)))), (P 4 0, .inr (0, [.ref (P 4 1), .ref (P 4 2), .ref (P 4 3), .ref (P 4 4), .int (h 4 428), .int (h 4 453), .int (h 4 454)])), (P 4 1, .inl (dI D, 64, .inl (vM (h 4)))), (P 4 2, .inl (dI D, 28, .inl (vC (h 4)))), (P 4 3, .inl (dI D, 312, .inl (vL (h 4)))), (P 4 4, .inl (dI D, 24, .inl (vQ (h 4)))), (P 5 0, .inr (0, [.ref (P 5 1), .ref (P 5 2), .ref (P 5 3), .ref (P 5 4), .int (h 5 428), .int (h 5 453), .int (h 5 454)])), (P 5 1, .inl (dI D, 64, .inl (vM (h 5)))), (P 5 2, .inl (dI D, 28, .inl (vC (h 5)))), (P 5 3, .inl (dI D, 312, .inl (vL (h 5)))), (P 5 4, .inl (dI D, 24, .inl (vQ (h 5)))), (Z 0, .inr (2, [.ref (Z 1), .ref (Z 2), .int (nI m)])), (Z 1, .inl (dI D, 6, .inl tk)), (Z 2, .inl (dI D, 6, .inl wh)), (V 0, .inl (dE D, 2, .inr (.inr (.inr (.inr (fun i => some (G i 0))))))), (G 0 0, .inr (0, [.ref (G 0 1), .ref (G 0 2), .ref (G 0 3), .ref (G 0 4), .int (g 0 428), .int (g 0 453), .int (g 0 454)])), (G 0 1, .inl (dI D, 64, .inl (vM (g 0)))), (G 0 2, .inl (dI D, 28, .inl (vC (g 0)))), (G 0 3, .inl (dI D, 312, .inl (vL (g 0)))), (G 0 4, .inl (dI D, 24, .inl (vQ (g 0)))), (G 1 0, .inr (0, [.ref (G 1 1), .ref (G 1 2), .ref (G 1 3), .ref (G 1 4), .int (g 1 428), .int (g 1 453), .int (g 1 454)])), (G 1 1, .inl (dI D, 64, .inl (vM (g 1)))), (G 1 2, .inl (dI D, 28, .inl (vC (g 1)))), (G 1 3, .inl (dI D, 312, .inl (vL (g 1)))), (G 1 4, .inl (dI D, 24, .inl (vQ (g 1)))), (V 1, .inl (dZ D, 2, .inl kp))] := rfl
set_option maxHeartbeats 4000000 in
set_option maxRecDepth 100000 in
theorem L4_at (D : DX) (O : Nat) (X E F Y Z V : Nat → Nat) (P G : Nat → Nat → Nat) (s sg : SS) (n : Nat) (h : Nat → SS) (nw kn : Nat) (tk wh : SS) (m : Nat) (kp : SS) (g : Nat → SS) (pa kt : SS) (v : Int32) : ∀ wC, CE D O X E F Y Z V P G (s, sg, n, h, nw, kn, tk, wh, m, kp, g, pa, kt) wC → ∃ rm, Ct D yX4_at cX4_at 2 (some .int) rm [.ref O, .int v] wC (fun v_ u_ => v_ = some (.int (atF s v)) ∧ CE D O X E F Y Z V P G (s, sg, n, h, nw, kn, tk, wh, m, kp, g, pa, kt) u_) ∧ RB rm := by
  intro wC hC
  obtain ⟨t, kd, nu, k, ic, rfl⟩ := hC
  rw [CW_l]
  refine ⟨_, (Ct.frame (c_X4_at O X E F Y Z V s v) [0, 5, 6, 7, 8, 9] rfl rfl (fun v w1 hf => ?_)).weaken (fun v w' hf => ?_), Nat.le_of_ble_eq_true rfl, Nat.le_of_ble_eq_true rfl, rfl, rfl⟩
  · obtain ⟨rfl, rfl⟩ := hf; rfl
  · obtain ⟨w1, ⟨rfl, rfl⟩, rfl⟩ := hf; exact ⟨rfl, t, kd, nu, k, ic, by rw [CW_l]; rfl⟩

set_option maxHeartbeats 4000000 in
set_option maxRecDepth 100000 in
theorem L4_channel (D : DX) (O : Nat) (X E F Y Z V : Nat → Nat) (P G : Nat → Nat → Nat) (s sg : SS) (n : Nat) (h : Nat → SS) (nw kn : Nat) (tk wh : SS) (m : Nat) (kp : SS) (g : Nat → SS) (pa kt : SS) (hI : Inv s) (v w : Int32) : ∀ wC, CE D O X E F Y Z V P G (s, sg, n, h, nw, kn, tk, wh, m, kp, g, pa, kt) wC → ∃ rm, Ct D yX4_channel cX4_channel 3 (some .int) rm [.ref O, .int v, .int w] wC (fun v_ u_ => v_ = some (.int (chF s v w)) ∧ CE D O X E F Y Z V P G (s, sg, n, h, nw, kn, tk, wh, m, kp, g, pa, kt) u_) ∧ RB rm := by
  intro wC hC
  obtain ⟨t, kd, nu, k, ic, rfl⟩ := hC
  rw [CW_l]
  refine ⟨_, (Ct.frame (c_X4_channel O X E F Y Z V s hI v w) [0, 5, 6, 7, 8, 9] rfl rfl (fun v w1 hf => ?_)).weaken (fun v w' hf => ?_), Nat.le_of_ble_eq_true rfl, Nat.le_of_ble_eq_true rfl, rfl, rfl⟩
  · obtain ⟨rfl, rfl⟩ := hf; rfl
  · obtain ⟨w1, ⟨rfl, rfl⟩, rfl⟩ := hf; exact ⟨rfl, t, kd, nu, k, ic, by rw [CW_l]; rfl⟩

set_option maxHeartbeats 4000000 in
set_option maxRecDepth 100000 in
theorem L4_slot (D : DX) (O : Nat) (X E F Y Z V : Nat → Nat) (P G : Nat → Nat → Nat) (s sg : SS) (n : Nat) (h : Nat → SS) (nw kn : Nat) (tk wh : SS) (m : Nat) (kp : SS) (g : Nat → SS) (pa kt : SS) (v z w : Int32) : ∀ wC, CE D O X E F Y Z V P G (s, sg, n, h, nw, kn, tk, wh, m, kp, g, pa, kt) wC → ∃ rm, Ct D yX4_slot cX4_slot 5 (some .int) rm [.ref O, .int v, .int z, .int w] wC (fun v_ u_ => v_ = some (.int (slF s v z w)) ∧ CE D O X E F Y Z V P G (s, sg, n, h, nw, kn, tk, wh, m, kp, g, pa, kt) u_) ∧ RB rm := by
  intro wC hC
  obtain ⟨t, kd, nu, k, ic, rfl⟩ := hC
  rw [CW_l]
  refine ⟨_, (Ct.frame (c_X4_slot O X E F Y Z V s v z w) [0, 5, 6, 7, 8, 9] rfl rfl (fun v w1 hf => ?_)).weaken (fun v w' hf => ?_), Nat.le_of_ble_eq_true rfl, Nat.le_of_ble_eq_true rfl, rfl, rfl⟩
  · obtain ⟨rfl, rfl⟩ := hf; rfl
  · obtain ⟨w1, ⟨rfl, rfl⟩, rfl⟩ := hf; exact ⟨rfl, t, kd, nu, k, ic, by rw [CW_l]; rfl⟩

set_option maxHeartbeats 4000000 in
set_option maxRecDepth 100000 in
theorem L4_unit (D : DX) (O : Nat) (X E F Y Z V : Nat → Nat) (P G : Nat → Nat → Nat) (s sg : SS) (n : Nat) (h : Nat → SS) (nw kn : Nat) (tk wh : SS) (m : Nat) (kp : SS) (g : Nat → SS) (pa kt : SS) (hI : Inv s) (v z c w : Int32) : ∀ wC, CE D O X E F Y Z V P G (s, sg, n, h, nw, kn, tk, wh, m, kp, g, pa, kt) wC → ∃ rm, Ct D yX4_unit cX4_unit 6 (some .int) rm [.ref O, .int v, .int z, .int c, .int w] wC (fun v_ u_ => v_ = some (.int (uiF s v z c w)) ∧ CE D O X E F Y Z V P G (s, sg, n, h, nw, kn, tk, wh, m, kp, g, pa, kt) u_) ∧ RB rm := by
  intro wC hC
  obtain ⟨t, kd, nu, k, ic, rfl⟩ := hC
  rw [CW_l]
  refine ⟨_, (Ct.frame (c_X4_unit O X E F Y Z V s hI v z c w) [0, 5, 6, 7, 8, 9] rfl rfl (fun v w1 hf => ?_)).weaken (fun v w' hf => ?_), Nat.le_of_ble_eq_true rfl, Nat.le_of_ble_eq_true rfl, rfl, rfl⟩
  · obtain ⟨rfl, rfl⟩ := hf; rfl
  · obtain ⟨w1, ⟨rfl, rfl⟩, rfl⟩ := hf; exact ⟨rfl, t, kd, nu, k, ic, by rw [CW_l]; rfl⟩

set_option maxHeartbeats 4000000 in
set_option maxRecDepth 100000 in
theorem L4_waiting (D : DX) (O : Nat) (X E F Y Z V : Nat → Nat) (P G : Nat → Nat → Nat) (s sg : SS) (n : Nat) (h : Nat → SS) (nw kn : Nat) (tk wh : SS) (m : Nat) (kp : SS) (g : Nat → SS) (pa kt : SS) (hI : Inv s) (v : Int32) : ∀ wC, CE D O X E F Y Z V P G (s, sg, n, h, nw, kn, tk, wh, m, kp, g, pa, kt) wC → ∃ rm, Ct D yX4_waiting cX4_waiting 3 (some .int) rm [.ref O, .int v] wC (fun v_ u_ => v_ = some (.int (waA s v)) ∧ CE D O X E F Y Z V P G (s, sg, n, h, nw, kn, tk, wh, m, kp, g, pa, kt) u_) ∧ RB rm := by
  intro wC hC
  obtain ⟨t, kd, nu, k, ic, rfl⟩ := hC
  rw [CW_l]
  refine ⟨_, (Ct.frame (c_X4_waiting O X E F Y Z V s hI v) [0, 5, 6, 7, 8, 9] rfl rfl (fun v w1 hf => ?_)).weaken (fun v w' hf => ?_), Nat.le_of_ble_eq_true rfl, Nat.le_of_ble_eq_true rfl, rfl, rfl⟩
  · obtain ⟨rfl, rfl⟩ := hf; rfl
  · obtain ⟨w1, ⟨rfl, rfl⟩, rfl⟩ := hf; exact ⟨rfl, t, kd, nu, k, ic, by rw [CW_l]; rfl⟩

set_option maxHeartbeats 4000000 in
set_option maxRecDepth 100000 in
theorem L4_lands (D : DX) (O : Nat) (X E F Y Z V : Nat → Nat) (P G : Nat → Nat → Nat) (s sg : SS) (n : Nat) (h : Nat → SS) (nw kn : Nat) (tk wh : SS) (m : Nat) (kp : SS) (g : Nat → SS) (pa kt : SS) (hI : Inv s) (v : Int32) : ∀ wC, CE D O X E F Y Z V P G (s, sg, n, h, nw, kn, tk, wh, m, kp, g, pa, kt) wC → ∃ rm, Ct D yX4_lands cX4_lands 2 (some .int) rm [.ref O, .int v] wC (fun v_ u_ => v_ = some (.int (lnF s v)) ∧ CE D O X E F Y Z V P G (s, sg, n, h, nw, kn, tk, wh, m, kp, g, pa, kt) u_) ∧ RB rm := by
  intro wC hC
  obtain ⟨t, kd, nu, k, ic, rfl⟩ := hC
  rw [CW_l]
  refine ⟨_, (Ct.frame (c_X4_lands O X E F Y Z V s hI v) [0, 5, 6, 7, 8, 9] rfl rfl (fun v w1 hf => ?_)).weaken (fun v w' hf => ?_), Nat.le_of_ble_eq_true rfl, Nat.le_of_ble_eq_true rfl, rfl, rfl⟩
  · obtain ⟨rfl, rfl⟩ := hf; rfl
  · obtain ⟨w1, ⟨rfl, rfl⟩, rfl⟩ := hf; exact ⟨rfl, t, kd, nu, k, ic, by rw [CW_l]; rfl⟩

set_option maxHeartbeats 4000000 in
set_option maxRecDepth 100000 in
theorem L4_both (D : DX) (O : Nat) (X E F Y Z V : Nat → Nat) (P G : Nat → Nat → Nat) (s sg : SS) (n : Nat) (h : Nat → SS) (nw kn : Nat) (tk wh : SS) (m : Nat) (kp : SS) (g : Nat → SS) (pa kt : SS) (hI : Inv s) (v z w c : Int32) : ∀ wC, CE D O X E F Y Z V P G (s, sg, n, h, nw, kn, tk, wh, m, kp, g, pa, kt) wC → ∃ rm, Ct D yX4_both cX4_both 7 (some .int) rm [.ref O, .int v, .int z, .int w, .int c] wC (fun v_ u_ => v_ = some (.int (boF s v z w c)) ∧ CE D O X E F Y Z V P G (s, sg, n, h, nw, kn, tk, wh, m, kp, g, pa, kt) u_) ∧ RB rm := by
  intro wC hC
  obtain ⟨t, kd, nu, k, ic, rfl⟩ := hC
  rw [CW_l]
  refine ⟨_, (Ct.frame (c_X4_both O X E F Y Z V s hI v z w c) [0, 5, 6, 7, 8, 9] rfl rfl (fun v w1 hf => ?_)).weaken (fun v w' hf => ?_), Nat.le_of_ble_eq_true rfl, Nat.le_of_ble_eq_true rfl, rfl, rfl⟩
  · obtain ⟨rfl, rfl⟩ := hf; rfl
  · obtain ⟨w1, ⟨rfl, rfl⟩, rfl⟩ := hf; exact ⟨rfl, t, kd, nu, k, ic, by rw [CW_l]; rfl⟩

set_option maxHeartbeats 4000000 in
set_option maxRecDepth 100000 in
theorem L4_type_bad (D : DX) (O : Nat) (X E F Y Z V : Nat → Nat) (P G : Nat → Nat → Nat) (s sg : SS) (n : Nat) (h : Nat → SS) (nw kn : Nat) (tk wh : SS) (m : Nat) (kp : SS) (g : Nat → SS) (pa kt : SS) (v : Int32) (hb : inR v (nI 0) (nI 255) = false) : ∀ wC, CE D O X E F Y Z V P G (s, sg, n, h, nw, kn, tk, wh, m, kp, g, pa, kt) wC → ∃ rm, Ct D yX4_type cX4_type 2 (some .int) rm [.ref O, .int v] wC (fun v_ u_ => v_ = some (.int (-1)) ∧ CE D O X E F Y Z V P G (s, sg, n, h, nw, kn, tk, wh, m, kp, g, pa, kt) u_) ∧ RB rm := by
  intro wC hC
  obtain ⟨t, kd, nu, k, ic, rfl⟩ := hC
  rw [CW_l]
  refine ⟨_, (Ct.frame (c_X4_type_bad O X E F Y Z V sg kd nu k n ic v hb) [0, 1, 2, 3, 4] rfl rfl (fun v w1 hf => ?_)).weaken (fun v w' hf => ?_), Nat.le_of_ble_eq_true rfl, Nat.le_of_ble_eq_true rfl, rfl, rfl⟩
  · obtain ⟨rfl, rfl⟩ := hf; rfl
  · obtain ⟨w1, ⟨rfl, rfl⟩, rfl⟩ := hf; exact ⟨rfl, t, kd, nu, k, ic, by rw [CW_l]; rfl⟩

set_option maxHeartbeats 4000000 in
set_option maxRecDepth 100000 in
theorem L4_type_full (D : DX) (O : Nat) (X E F Y Z V : Nat → Nat) (P G : Nat → Nat → Nat) (s sg : SS) (n : Nat) (h : Nat → SS) (nw kn : Nat) (tk wh : SS) (m : Nat) (kp : SS) (g : Nat → SS) (pa kt : SS) (v : Int32) (hb : inR v (nI 0) (nI 255) = true) (hn : n = 120) : ∀ wC, CE D O X E F Y Z V P G (s, sg, n, h, nw, kn, tk, wh, m, kp, g, pa, kt) wC → ∃ rm, Ct D yX4_type cX4_type 2 (some .int) rm [.ref O, .int v] wC (fun v_ u_ => v_ = some (.int (-3)) ∧ CE D O X E F Y Z V P G (s, sg, n, h, nw, kn, tk, wh, m, kp, g, pa, kt) u_) ∧ RB rm := by
  intro wC hC
  obtain ⟨t, kd, nu, k, ic, rfl⟩ := hC
  rw [CW_l]
  refine ⟨_, (Ct.frame (c_X4_type_full O X E F Y Z V sg kd nu k n ic v hb hn) [0, 1, 2, 3, 4] rfl rfl (fun v w1 hf => ?_)).weaken (fun v w' hf => ?_), Nat.le_of_ble_eq_true rfl, Nat.le_of_ble_eq_true rfl, rfl, rfl⟩
  · obtain ⟨rfl, rfl⟩ := hf; rfl
  · obtain ⟨w1, ⟨rfl, rfl⟩, rfl⟩ := hf; exact ⟨rfl, t, kd, nu, k, ic, by rw [CW_l]; rfl⟩

set_option maxHeartbeats 4000000 in
set_option maxRecDepth 100000 in
theorem L4_type_ok (D : DX) (O : Nat) (X E F Y Z V : Nat → Nat) (P G : Nat → Nat → Nat) (s sg : SS) (n : Nat) (h : Nat → SS) (nw kn : Nat) (tk wh : SS) (m : Nat) (kp : SS) (g : Nat → SS) (pa kt : SS) (v : Int32) (hb : inR v (nI 0) (nI 255) = true) (hn : n < 120) : ∀ wC, CE D O X E F Y Z V P G (s, sg, n, h, nw, kn, tk, wh, m, kp, g, pa, kt) wC → ∃ rm, Ct D yX4_type cX4_type 2 (some .int) rm [.ref O, .int v] wC (fun v_ u_ => v_ = some (.int (nI (n + 1))) ∧ CE D O X E F Y Z V P G (s, upd sg n v, n + 1, h, nw, kn, tk, wh, m, kp, g, pa, kt) u_) ∧ RB rm := by
  intro wC hC
  obtain ⟨t, kd, nu, k, ic, rfl⟩ := hC
  rw [CW_l]
  refine ⟨_, (Ct.frame (c_X4_type_ok O X E F Y Z V sg kd nu k n ic v hb hn) [0, 1, 2, 3, 4] rfl rfl (fun v w1 hf => ?_)).weaken (fun v w' hf => ?_), Nat.le_of_ble_eq_true rfl, Nat.le_of_ble_eq_true rfl, rfl, rfl⟩
  · obtain ⟨rfl, rfl⟩ := hf; rfl
  · obtain ⟨w1, ⟨rfl, rfl⟩, rfl⟩ := hf; exact ⟨rfl, t, kd, nu, k, ic, by rw [CW_l]; rfl⟩

set_option maxHeartbeats 4000000 in
set_option maxRecDepth 100000 in
theorem L4_clear (D : DX) (O : Nat) (X E F Y Z V : Nat → Nat) (P G : Nat → Nat → Nat) (s sg : SS) (n : Nat) (h : Nat → SS) (nw kn : Nat) (tk wh : SS) (m : Nat) (kp : SS) (g : Nat → SS) (pa kt : SS)  : ∀ wC, CE D O X E F Y Z V P G (s, sg, n, h, nw, kn, tk, wh, m, kp, g, pa, kt) wC → ∃ rm, Ct D yX4_clear cX4_clear 2 (some .int) rm [.ref O] wC (fun v_ u_ => v_ = some (.int (nI n)) ∧ CE D O X E F Y Z V P G (s, sg, 0, h, nw, kn, tk, wh, m, kp, g, pa, kt) u_) ∧ RB rm := by
  intro wC hC
  obtain ⟨t, kd, nu, k, ic, rfl⟩ := hC
  rw [CW_l]
  refine ⟨_, (Ct.frame (c_X4_clear O X E F Y Z V sg kd nu k n ic) [0, 1, 2, 3, 4] rfl rfl (fun v w1 hf => ?_)).weaken (fun v w' hf => ?_), Nat.le_of_ble_eq_true rfl, Nat.le_of_ble_eq_true rfl, rfl, rfl⟩
  · obtain ⟨rfl, rfl⟩ := hf; rfl
  · obtain ⟨w1, ⟨rfl, rfl⟩, rfl⟩ := hf; exact ⟨rfl, t, kd, nu, k, ic, by rw [CW_l]; rfl⟩

set_option maxHeartbeats 4000000 in
set_option maxRecDepth 100000 in
theorem L4_posts_fault (D : DX) (O : Nat) (X E F Y Z V : Nat → Nat) (P G : Nat → Nat → Nat) (s sg : SS) (n : Nat) (h : Nat → SS) (nw kn : Nat) (tk wh : SS) (m : Nat) (kp : SS) (g : Nat → SS) (pa kt : SS) (a : Nat → Nat) (hz : zT D a) (hn : n ≤ 120) (f : Nat) (hf : f < 2 ^ 31) (hp : (prA sg n).1 = some f) : ∀ wC, CE D O X E F Y Z V P G (s, sg, n, h, nw, kn, tk, wh, m, kp, g, pa, kt) wC → ∃ rm, Ct D yX4_posts cX4_posts 3 (some .int) rm [.ref O] wC (fun v_ u_ => v_ = some (.int ((-10) - nI f)) ∧ CE D O X E F Y Z V P G (s, sg, n, h, nw, kn, tk, wh, m, kp, g, pa, kt) u_) ∧ RB rm := by
  intro wC hC
  obtain ⟨t, kd, nu, k, ic, rfl⟩ := hC
  rw [CW_l]
  refine ⟨_, (Ct.frame (c_X4_posts_fault O X E F Y Z V sg kd nu k n ic a hz hn f hf hp) [0, 1, 2, 3, 4] rfl rfl (fun v w1 hf => ?_)).weaken (fun v w' hf => ?_), Nat.le_of_ble_eq_true rfl, Nat.le_of_ble_eq_true rfl, rfl, rfl⟩
  · obtain ⟨rfl, kd1, nu1, k1, ic1, rfl⟩ := hf; rfl
  · obtain ⟨w1, ⟨rfl, kd1, nu1, k1, ic1, rfl⟩, rfl⟩ := hf; exact ⟨rfl, t, kd1, nu1, k1, ic1, by rw [CW_l]; rfl⟩

set_option maxHeartbeats 4000000 in
set_option maxRecDepth 100000 in
theorem L4_posts_full (D : DX) (O : Nat) (X E F Y Z V : Nat → Nat) (P G : Nat → Nat → Nat) (s sg : SS) (n : Nat) (h : Nat → SS) (nw kn : Nat) (tk wh : SS) (m : Nat) (kp : SS) (g : Nat → SS) (pa kt : SS) (a : Nat → Nat) (hz : zT D a) (hn : n ≤ 120) (hI : Inv s) (hp : (prA sg n).1 = none) (hA : okA sg n s (prA sg n).2 = false) : ∀ wC, CE D O X E F Y Z V P G (s, sg, n, h, nw, kn, tk, wh, m, kp, g, pa, kt) wC → ∃ rm, Ct D yX4_posts cX4_posts 3 (some .int) rm [.ref O] wC (fun v_ u_ => v_ = some (.int (-3)) ∧ CE D O X E F Y Z V P G (s, sg, n, h, nw, kn, tk, wh, m, kp, g, pa, kt) u_) ∧ RB rm := by
  intro wC hC
  obtain ⟨t, kd, nu, k, ic, rfl⟩ := hC
  rw [CW_l]
  refine ⟨_, (Ct.frame (c_X4_posts_full O X E F Y Z V sg kd nu k n ic a hz hn s t hI hp hA) [0, 1, 2, 3, 4, 5, 6, 7, 8, 9, 10, 11, 12, 13, 14] rfl rfl (fun v w1 hf => ?_)).weaken (fun v w' hf => ?_), Nat.le_of_ble_eq_true rfl, Nat.le_of_ble_eq_true rfl, rfl, rfl⟩
  · obtain ⟨rfl, kd1, nu1, k1, t1, rfl⟩ := hf; rfl
  · obtain ⟨w1, ⟨rfl, kd1, nu1, k1, t1, rfl⟩, rfl⟩ := hf; exact ⟨rfl, t1, kd1, nu1, k1, (prA sg n).2, by rw [CW_l]; rfl⟩

set_option maxHeartbeats 4000000 in
set_option maxRecDepth 100000 in
theorem L4_ticks_bad (D : DX) (O : Nat) (X E F Y Z V : Nat → Nat) (P G : Nat → Nat → Nat) (s sg : SS) (n : Nat) (h : Nat → SS) (nw kn : Nat) (tk wh : SS) (m : Nat) (kp : SS) (g : Nat → SS) (pa kt : SS) (v : Int32) (hb : inR v (nI 1) (nI 40) = false) : ∀ wC, CE D O X E F Y Z V P G (s, sg, n, h, nw, kn, tk, wh, m, kp, g, pa, kt) wC → ∃ rm, Ct D yX4_ticks cX4_ticks 4 (some .int) rm [.ref O, .int v] wC (fun v_ u_ => v_ = some (.int (-1)) ∧ CE D O X E F Y Z V P G (s, sg, n, h, nw, kn, tk, wh, m, kp, g, pa, kt) u_) ∧ RB rm := by
  intro wC hC
  obtain ⟨t, kd, nu, k, ic, rfl⟩ := hC
  rw [CW_l]
  refine ⟨_, (Ct.frame (c_X4_ticks_bad O X E F Y Z V v hb) [0] rfl rfl (fun v w1 hf => ?_)).weaken (fun v w' hf => ?_), Nat.le_of_ble_eq_true rfl, Nat.le_of_ble_eq_true rfl, rfl, rfl⟩
  · obtain ⟨rfl, rfl⟩ := hf; rfl
  · obtain ⟨w1, ⟨rfl, rfl⟩, rfl⟩ := hf; exact ⟨rfl, t, kd, nu, k, ic, by rw [CW_l]; rfl⟩

set_option maxHeartbeats 4000000 in
set_option maxRecDepth 100000 in
theorem L4_cancels_bad (D : DX) (O : Nat) (X E F Y Z V : Nat → Nat) (P G : Nat → Nat → Nat) (s sg : SS) (n : Nat) (h : Nat → SS) (nw kn : Nat) (tk wh : SS) (m : Nat) (kp : SS) (g : Nat → SS) (pa kt : SS) (v : Int32) (hb : inR v (nI 0) (nI 3) = false) : ∀ wC, CE D O X E F Y Z V P G (s, sg, n, h, nw, kn, tk, wh, m, kp, g, pa, kt) wC → ∃ rm, Ct D yX4_cancels cX4_cancels 2 (some .int) rm [.ref O, .int v] wC (fun v_ u_ => v_ = some (.int (-1)) ∧ CE D O X E F Y Z V P G (s, sg, n, h, nw, kn, tk, wh, m, kp, g, pa, kt) u_) ∧ RB rm := by
  intro wC hC
  obtain ⟨t, kd, nu, k, ic, rfl⟩ := hC
  rw [CW_l]
  refine ⟨_, (Ct.frame (c_X4_cancels_bad O X E F Y Z V v hb) [0] rfl rfl (fun v w1 hf => ?_)).weaken (fun v w' hf => ?_), Nat.le_of_ble_eq_true rfl, Nat.le_of_ble_eq_true rfl, rfl, rfl⟩
  · obtain ⟨rfl, rfl⟩ := hf; rfl
  · obtain ⟨w1, ⟨rfl, rfl⟩, rfl⟩ := hf; exact ⟨rfl, t, kd, nu, k, ic, by rw [CW_l]; rfl⟩

set_option maxHeartbeats 4000000 in
set_option maxRecDepth 100000 in
theorem L4_cancels_none (D : DX) (O : Nat) (X E F Y Z V : Nat → Nat) (P G : Nat → Nat → Nat) (s sg : SS) (n : Nat) (h : Nat → SS) (nw kn : Nat) (tk wh : SS) (m : Nat) (kp : SS) (g : Nat → SS) (pa kt : SS) (hI : Inv s) (c : Nat) (hc : c < 4) (ht : tc s (pl s c) = false) : ∀ wC, CE D O X E F Y Z V P G (s, sg, n, h, nw, kn, tk, wh, m, kp, g, pa, kt) wC → ∃ rm, Ct D yX4_cancels cX4_cancels 2 (some .int) rm [.ref O, .int (nI c)] wC (fun v_ u_ => v_ = some (.int (-2)) ∧ CE D O X E F Y Z V P G (s, sg, n, h, nw, kn, tk, wh, m, kp, g, pa, kt) u_) ∧ RB rm := by
  intro wC hC
  obtain ⟨t, kd, nu, k, ic, rfl⟩ := hC
  rw [CW_l]
  refine ⟨_, (Ct.frame (c_X4_cancels_none O X E F Y Z V s hI c hc ht) [0, 5, 6, 7, 8, 9] rfl rfl (fun v w1 hf => ?_)).weaken (fun v w' hf => ?_), Nat.le_of_ble_eq_true rfl, Nat.le_of_ble_eq_true rfl, rfl, rfl⟩
  · obtain ⟨rfl, rfl⟩ := hf; rfl
  · obtain ⟨w1, ⟨rfl, rfl⟩, rfl⟩ := hf; exact ⟨rfl, t, kd, nu, k, ic, by rw [CW_l]; rfl⟩

set_option maxHeartbeats 4000000 in
set_option maxRecDepth 100000 in
theorem L4_switches_bad (D : DX) (O : Nat) (X E F Y Z V : Nat → Nat) (P G : Nat → Nat → Nat) (s sg : SS) (n : Nat) (h : Nat → SS) (nw kn : Nat) (tk wh : SS) (m : Nat) (kp : SS) (g : Nat → SS) (pa kt : SS) (v : Int32) (hb : inR v (nI 0) (nI 3) = false) : ∀ wC, CE D O X E F Y Z V P G (s, sg, n, h, nw, kn, tk, wh, m, kp, g, pa, kt) wC → ∃ rm, Ct D yX4_switches cX4_switches 3 (some .int) rm [.ref O, .int v] wC (fun v_ u_ => v_ = some (.int (-1)) ∧ CE D O X E F Y Z V P G (s, sg, n, h, nw, kn, tk, wh, m, kp, g, pa, kt) u_) ∧ RB rm := by
  intro wC hC
  obtain ⟨t, kd, nu, k, ic, rfl⟩ := hC
  rw [CW_l]
  refine ⟨_, (Ct.frame (c_X4_switches_bad O X E F Y Z V v hb) [0] rfl rfl (fun v w1 hf => ?_)).weaken (fun v w' hf => ?_), Nat.le_of_ble_eq_true rfl, Nat.le_of_ble_eq_true rfl, rfl, rfl⟩
  · obtain ⟨rfl, rfl⟩ := hf; rfl
  · obtain ⟨w1, ⟨rfl, rfl⟩, rfl⟩ := hf; exact ⟨rfl, t, kd, nu, k, ic, by rw [CW_l]; rfl⟩

set_option maxHeartbeats 4000000 in
set_option maxRecDepth 100000 in
theorem L4_tunes_bad (D : DX) (O : Nat) (X E F Y Z V : Nat → Nat) (P G : Nat → Nat → Nat) (s sg : SS) (n : Nat) (h : Nat → SS) (nw kn : Nat) (tk wh : SS) (m : Nat) (kp : SS) (g : Nat → SS) (pa kt : SS) (v w z : Int32) (hb : ¬ (inR v (nI 0) (nI 3) = true ∧ inR w (nI 0) (nI 3) = true ∧ inR z (nI 1) (nI 8) = true)) : ∀ wC, CE D O X E F Y Z V P G (s, sg, n, h, nw, kn, tk, wh, m, kp, g, pa, kt) wC → ∃ rm, Ct D yX4_tunes cX4_tunes 4 (some .int) rm [.ref O, .int v, .int w, .int z] wC (fun v_ u_ => v_ = some (.int (-1)) ∧ CE D O X E F Y Z V P G (s, sg, n, h, nw, kn, tk, wh, m, kp, g, pa, kt) u_) ∧ RB rm := by
  intro wC hC
  obtain ⟨t, kd, nu, k, ic, rfl⟩ := hC
  rw [CW_l]
  refine ⟨_, (Ct.frame (c_X4_tunes_bad O X E F Y Z V v w z hb) [0] rfl rfl (fun v w1 hf => ?_)).weaken (fun v w' hf => ?_), Nat.le_of_ble_eq_true rfl, Nat.le_of_ble_eq_true rfl, rfl, rfl⟩
  · obtain ⟨rfl, rfl⟩ := hf; rfl
  · obtain ⟨w1, ⟨rfl, rfl⟩, rfl⟩ := hf; exact ⟨rfl, t, kd, nu, k, ic, by rw [CW_l]; rfl⟩

set_option maxHeartbeats 4000000 in
set_option maxRecDepth 100000 in
theorem L4_tunes_same (D : DX) (O : Nat) (X E F Y Z V : Nat → Nat) (P G : Nat → Nat → Nat) (s sg : SS) (n : Nat) (h : Nat → SS) (nw kn : Nat) (tk wh : SS) (m : Nat) (kp : SS) (g : Nat → SS) (pa kt : SS) (c r b : Nat) (hc : c < 4) (hr : r < 4) (hb : 1 ≤ b ∧ b ≤ 8) (h1 : gC s c 1 = nI r) (h2 : gC s c 2 = nI b) : ∀ wC, CE D O X E F Y Z V P G (s, sg, n, h, nw, kn, tk, wh, m, kp, g, pa, kt) wC → ∃ rm, Ct D yX4_tunes cX4_tunes 4 (some .int) rm [.ref O, .int (nI c), .int (nI r), .int (nI b)] wC (fun v_ u_ => v_ = some (.int (-2)) ∧ CE D O X E F Y Z V P G (s, sg, n, h, nw, kn, tk, wh, m, kp, g, pa, kt) u_) ∧ RB rm := by
  intro wC hC
  obtain ⟨t, kd, nu, k, ic, rfl⟩ := hC
  rw [CW_l]
  refine ⟨_, (Ct.frame (c_X4_tunes_same O X E F Y Z V s c r b hc hr hb h1 h2) [0, 5, 6, 7, 8, 9] rfl rfl (fun v w1 hf => ?_)).weaken (fun v w' hf => ?_), Nat.le_of_ble_eq_true rfl, Nat.le_of_ble_eq_true rfl, rfl, rfl⟩
  · obtain ⟨rfl, rfl⟩ := hf; rfl
  · obtain ⟨w1, ⟨rfl, rfl⟩, rfl⟩ := hf; exact ⟨rfl, t, kd, nu, k, ic, by rw [CW_l]; rfl⟩

set_option maxHeartbeats 4000000 in
set_option maxRecDepth 100000 in
theorem L4_undo_none (D : DX) (O : Nat) (X E F Y Z V : Nat → Nat) (P G : Nat → Nat → Nat) (s sg : SS) (n : Nat) (h : Nat → SS) (nw kn : Nat) (tk wh : SS) (m : Nat) (kp : SS) (g : Nat → SS) (pa kt : SS) (hk : kn = 0) : ∀ wC, CE D O X E F Y Z V P G (s, sg, n, h, nw, kn, tk, wh, m, kp, g, pa, kt) wC → ∃ rm, Ct D yX4_undo cX4_undo 1 (some .int) rm [.ref O] wC (fun v_ u_ => v_ = some (.int (-2)) ∧ CE D O X E F Y Z V P G (s, sg, n, h, nw, kn, tk, wh, m, kp, g, pa, kt) u_) ∧ RB rm := by
  intro wC hC
  obtain ⟨t, kd, nu, k, ic, rfl⟩ := hC
  rw [CW_l]
  refine ⟨_, (Ct.frame (c_X4_undo_none O X E F Y Z V P nw kn s hk) [0, 5, 6, 7, 8, 9, 15, 16] rfl rfl (fun v w1 hf => ?_)).weaken (fun v w' hf => ?_), Nat.le_of_ble_eq_true rfl, Nat.le_of_ble_eq_true rfl, rfl, rfl⟩
  · obtain ⟨rfl, rfl⟩ := hf; rfl
  · obtain ⟨w1, ⟨rfl, rfl⟩, rfl⟩ := hf; exact ⟨rfl, t, kd, nu, k, ic, by rw [CW_l]; rfl⟩

set_option maxHeartbeats 4000000 in
set_option maxRecDepth 100000 in
theorem L4_over (D : DX) (O : Nat) (X E F Y Z V : Nat → Nat) (P G : Nat → Nat → Nat) (s sg : SS) (n : Nat) (h : Nat → SS) (nw kn : Nat) (tk wh : SS) (m : Nat) (kp : SS) (g : Nat → SS) (pa kt : SS) (hI : Inv s) (v : Int32) : ∀ wC, CE D O X E F Y Z V P G (s, sg, n, h, nw, kn, tk, wh, m, kp, g, pa, kt) wC → ∃ rm, Ct D yX4_over cX4_over 2 (some .int) rm [.ref O, .int v] wC (fun v_ u_ => v_ = some (.int (ovA s v)) ∧ CE D O X E F Y Z V P G (s, sg, n, h, nw, kn, tk, wh, m, kp, g, pa, kt) u_) ∧ RB rm := by
  intro wC hC
  obtain ⟨t, kd, nu, k, ic, rfl⟩ := hC
  rw [CW_l]
  refine ⟨_, (Ct.frame (c_X4_over O X E F Y Z V s t hI v) [0, 5, 6, 7, 8, 9, 10, 11, 12, 13, 14] rfl rfl (fun v w1 hf => ?_)).weaken (fun v w' hf => ?_), Nat.le_of_ble_eq_true rfl, Nat.le_of_ble_eq_true rfl, rfl, rfl⟩
  · obtain ⟨rfl, t1, rfl⟩ := hf; rfl
  · obtain ⟨w1, ⟨rfl, t1, rfl⟩, rfl⟩ := hf; exact ⟨rfl, t1, kd, nu, k, ic, by rw [CW_l]; rfl⟩

set_option maxHeartbeats 4000000 in
set_option maxRecDepth 100000 in
theorem L4_enough (D : DX) (O : Nat) (X E F Y Z V : Nat → Nat) (P G : Nat → Nat → Nat) (s sg : SS) (n : Nat) (h : Nat → SS) (nw kn : Nat) (tk wh : SS) (m : Nat) (kp : SS) (g : Nat → SS) (pa kt : SS) (hI : Inv s) (v w : Int32) : ∀ wC, CE D O X E F Y Z V P G (s, sg, n, h, nw, kn, tk, wh, m, kp, g, pa, kt) wC → ∃ rm, Ct D yX4_enough cX4_enough 4 (some .int) rm [.ref O, .int v, .int w] wC (fun v_ u_ => v_ = some (.int (enA s v w)) ∧ CE D O X E F Y Z V P G (s, sg, n, h, nw, kn, tk, wh, m, kp, g, pa, kt) u_) ∧ RB rm := by
  intro wC hC
  obtain ⟨t, kd, nu, k, ic, rfl⟩ := hC
  rw [CW_l]
  refine ⟨_, (Ct.frame (c_X4_enough O X E F Y Z V s t hI v w) [0, 5, 6, 7, 8, 9, 10, 11, 12, 13, 14] rfl rfl (fun v w1 hf => ?_)).weaken (fun v w' hf => ?_), Nat.le_of_ble_eq_true rfl, Nat.le_of_ble_eq_true rfl, rfl, rfl⟩
  · obtain ⟨rfl, t1, rfl⟩ := hf; rfl
  · obtain ⟨w1, ⟨rfl, t1, rfl⟩, rfl⟩ := hf; exact ⟨rfl, t1, kd, nu, k, ic, by rw [CW_l]; rfl⟩

set_option maxHeartbeats 4000000 in
set_option maxRecDepth 100000 in
theorem L4_granted (D : DX) (O : Nat) (X E F Y Z V : Nat → Nat) (P G : Nat → Nat → Nat) (s sg : SS) (n : Nat) (h : Nat → SS) (nw kn : Nat) (tk wh : SS) (m : Nat) (kp : SS) (g : Nat → SS) (pa kt : SS) (hI : Inv s) (v : Int32) : ∀ wC, CE D O X E F Y Z V P G (s, sg, n, h, nw, kn, tk, wh, m, kp, g, pa, kt) wC → ∃ rm, Ct D yX4_granted cX4_granted 3 (some .int) rm [.ref O, .int v] wC (fun v_ u_ => v_ = some (.int (gnA s v)) ∧ CE D O X E F Y Z V P G (s, sg, n, h, nw, kn, tk, wh, m, kp, g, pa, kt) u_) ∧ RB rm := by
  intro wC hC
  obtain ⟨t, kd, nu, k, ic, rfl⟩ := hC
  rw [CW_l]
  refine ⟨_, (Ct.frame (c_X4_granted O X E F Y Z V s t hI v) [0, 5, 6, 7, 8, 9, 10, 11, 12, 13, 14] rfl rfl (fun v w1 hf => ?_)).weaken (fun v w' hf => ?_), Nat.le_of_ble_eq_true rfl, Nat.le_of_ble_eq_true rfl, rfl, rfl⟩
  · obtain ⟨rfl, t1, rfl⟩ := hf; rfl
  · obtain ⟨w1, ⟨rfl, t1, rfl⟩, rfl⟩ := hf; exact ⟨rfl, t1, kd, nu, k, ic, by rw [CW_l]; rfl⟩

set_option maxHeartbeats 4000000 in
set_option maxRecDepth 100000 in
theorem L4_ranks (D : DX) (O : Nat) (X E F Y Z V : Nat → Nat) (P G : Nat → Nat → Nat) (s sg : SS) (n : Nat) (h : Nat → SS) (nw kn : Nat) (tk wh : SS) (m : Nat) (kp : SS) (g : Nat → SS) (pa kt : SS) (hI : Inv s) (hs : SeOk tk wh m) (v : Int32) : ∀ wC, CE D O X E F Y Z V P G (s, sg, n, h, nw, kn, tk, wh, m, kp, g, pa, kt) wC → ∃ rm, Ct D yX4_ranks cX4_ranks 4 (some .int) rm [.ref O, .int v] wC (fun v_ u_ => v_ = some (.int (rkA s tk wh m v)) ∧ CE D O X E F Y Z V P G (s, sg, n, h, nw, kn, tk, wh, m, kp, g, pa, kt) u_) ∧ RB rm := by
  intro wC hC
  obtain ⟨t, kd, nu, k, ic, rfl⟩ := hC
  rw [CW_l]
  refine ⟨_, (Ct.frame (c_X4_ranks O X E F Y Z V s t hI tk wh m hs v) [0, 5, 6, 7, 8, 9, 10, 11, 12, 13, 14, 47, 48, 49] rfl rfl (fun v w1 hf => ?_)).weaken (fun v w' hf => ?_), Nat.le_of_ble_eq_true rfl, Nat.le_of_ble_eq_true rfl, rfl, rfl⟩
  · obtain ⟨rfl, t1, rfl⟩ := hf; rfl
  · obtain ⟨w1, ⟨rfl, t1, rfl⟩, rfl⟩ := hf; exact ⟨rfl, t1, kd, nu, k, ic, by rw [CW_l]; rfl⟩

set_option maxHeartbeats 4000000 in
set_option maxRecDepth 100000 in
theorem L4_sees_bad (D : DX) (O : Nat) (X E F Y Z V : Nat → Nat) (P G : Nat → Nat → Nat) (s sg : SS) (n : Nat) (h : Nat → SS) (nw kn : Nat) (tk wh : SS) (m : Nat) (kp : SS) (g : Nat → SS) (pa kt : SS) (v w : Int32) (hb : ¬ (inR v (nI 1) (nI 40) = true ∧ (inR w (nI 0) (nI 3) = true ∨ w = -9))) : ∀ wC, CE D O X E F Y Z V P G (s, sg, n, h, nw, kn, tk, wh, m, kp, g, pa, kt) wC → ∃ rm, Ct D yX4_sees cX4_sees 3 (some .int) rm [.ref O, .int v, .int w] wC (fun v_ u_ => v_ = some (.int (-1)) ∧ CE D O X E F Y Z V P G (s, sg, n, h, nw, kn, tk, wh, m, kp, g, pa, kt) u_) ∧ RB rm := by
  intro wC hC
  obtain ⟨t, kd, nu, k, ic, rfl⟩ := hC
  rw [CW_l]
  refine ⟨_, (Ct.frame (c_X4_sees_bad O X E F Y Z V tk wh m v w hb) [0, 47, 48, 49] rfl rfl (fun v w1 hf => ?_)).weaken (fun v w' hf => ?_), Nat.le_of_ble_eq_true rfl, Nat.le_of_ble_eq_true rfl, rfl, rfl⟩
  · obtain ⟨rfl, rfl⟩ := hf; rfl
  · obtain ⟨w1, ⟨rfl, rfl⟩, rfl⟩ := hf; exact ⟨rfl, t, kd, nu, k, ic, by rw [CW_l]; rfl⟩

set_option maxHeartbeats 4000000 in
set_option maxRecDepth 100000 in
theorem L4_sees_full (D : DX) (O : Nat) (X E F Y Z V : Nat → Nat) (P G : Nat → Nat → Nat) (s sg : SS) (n : Nat) (h : Nat → SS) (nw kn : Nat) (tk wh : SS) (m : Nat) (kp : SS) (g : Nat → SS) (pa kt : SS) (v w : Int32) (hb : (inR v (nI 1) (nI 40) = true ∧ (inR w (nI 0) (nI 3) = true ∨ w = -9))) (hm : m = 6) : ∀ wC, CE D O X E F Y Z V P G (s, sg, n, h, nw, kn, tk, wh, m, kp, g, pa, kt) wC → ∃ rm, Ct D yX4_sees cX4_sees 3 (some .int) rm [.ref O, .int v, .int w] wC (fun v_ u_ => v_ = some (.int (-3)) ∧ CE D O X E F Y Z V P G (s, sg, n, h, nw, kn, tk, wh, m, kp, g, pa, kt) u_) ∧ RB rm := by
  intro wC hC
  obtain ⟨t, kd, nu, k, ic, rfl⟩ := hC
  rw [CW_l]
  refine ⟨_, (Ct.frame (c_X4_sees_full O X E F Y Z V tk wh m v w hb hm) [0, 47, 48, 49] rfl rfl (fun v w1 hf => ?_)).weaken (fun v w' hf => ?_), Nat.le_of_ble_eq_true rfl, Nat.le_of_ble_eq_true rfl, rfl, rfl⟩
  · obtain ⟨rfl, rfl⟩ := hf; rfl
  · obtain ⟨w1, ⟨rfl, rfl⟩, rfl⟩ := hf; exact ⟨rfl, t, kd, nu, k, ic, by rw [CW_l]; rfl⟩

set_option maxHeartbeats 4000000 in
set_option maxRecDepth 100000 in
theorem L4_sees_ok (D : DX) (O : Nat) (X E F Y Z V : Nat → Nat) (P G : Nat → Nat → Nat) (s sg : SS) (n : Nat) (h : Nat → SS) (nw kn : Nat) (tk wh : SS) (m : Nat) (kp : SS) (g : Nat → SS) (pa kt : SS) (v w : Int32) (hb : (inR v (nI 1) (nI 40) = true ∧ (inR w (nI 0) (nI 3) = true ∨ w = -9))) (hm : m < 6) : ∀ wC, CE D O X E F Y Z V P G (s, sg, n, h, nw, kn, tk, wh, m, kp, g, pa, kt) wC → ∃ rm, Ct D yX4_sees cX4_sees 3 (some .int) rm [.ref O, .int v, .int w] wC (fun v_ u_ => v_ = some (.int (nI (m + 1))) ∧ CE D O X E F Y Z V P G (s, sg, n, h, nw, kn, upd tk m v, upd wh m w, m + 1, kp, g, pa, kt) u_) ∧ RB rm := by
  intro wC hC
  obtain ⟨t, kd, nu, k, ic, rfl⟩ := hC
  rw [CW_l]
  refine ⟨_, (Ct.frame (c_X4_sees_ok O X E F Y Z V tk wh m v w hb hm) [0, 47, 48, 49] rfl rfl (fun v w1 hf => ?_)).weaken (fun v w' hf => ?_), Nat.le_of_ble_eq_true rfl, Nat.le_of_ble_eq_true rfl, rfl, rfl⟩
  · obtain ⟨rfl, rfl⟩ := hf; rfl
  · obtain ⟨w1, ⟨rfl, rfl⟩, rfl⟩ := hf; exact ⟨rfl, t, kd, nu, k, ic, by rw [CW_l]; rfl⟩

set_option maxHeartbeats 4000000 in
set_option maxRecDepth 100000 in
theorem L4_forget (D : DX) (O : Nat) (X E F Y Z V : Nat → Nat) (P G : Nat → Nat → Nat) (s sg : SS) (n : Nat) (h : Nat → SS) (nw kn : Nat) (tk wh : SS) (m : Nat) (kp : SS) (g : Nat → SS) (pa kt : SS)  : ∀ wC, CE D O X E F Y Z V P G (s, sg, n, h, nw, kn, tk, wh, m, kp, g, pa, kt) wC → ∃ rm, Ct D yX4_forget cX4_forget 2 (some .int) rm [.ref O] wC (fun v_ u_ => v_ = some (.int (nI m)) ∧ CE D O X E F Y Z V P G (s, sg, n, h, nw, kn, tk, wh, 0, kp, g, pa, kt) u_) ∧ RB rm := by
  intro wC hC
  obtain ⟨t, kd, nu, k, ic, rfl⟩ := hC
  rw [CW_l]
  refine ⟨_, (Ct.frame (c_X4_forget O X E F Y Z V tk wh m) [0, 47, 48, 49] rfl rfl (fun v w1 hf => ?_)).weaken (fun v w' hf => ?_), Nat.le_of_ble_eq_true rfl, Nat.le_of_ble_eq_true rfl, rfl, rfl⟩
  · obtain ⟨rfl, rfl⟩ := hf; rfl
  · obtain ⟨w1, ⟨rfl, rfl⟩, rfl⟩ := hf; exact ⟨rfl, t, kd, nu, k, ic, by rw [CW_l]; rfl⟩

set_option maxHeartbeats 4000000 in
set_option maxRecDepth 100000 in
theorem L4_keep_bad (D : DX) (O : Nat) (X E F Y Z V : Nat → Nat) (P G : Nat → Nat → Nat) (s sg : SS) (n : Nat) (h : Nat → SS) (nw kn : Nat) (tk wh : SS) (m : Nat) (kp : SS) (g : Nat → SS) (pa kt : SS) (v : Int32) (hb : inR v (nI 0) (nI 1) = false) : ∀ wC, CE D O X E F Y Z V P G (s, sg, n, h, nw, kn, tk, wh, m, kp, g, pa, kt) wC → ∃ rm, Ct D yX4_keep cX4_keep 2 (some .int) rm [.ref O, .int v] wC (fun v_ u_ => v_ = some (.int (-1)) ∧ CE D O X E F Y Z V P G (s, sg, n, h, nw, kn, tk, wh, m, kp, g, pa, kt) u_) ∧ RB rm := by
  intro wC hC
  obtain ⟨t, kd, nu, k, ic, rfl⟩ := hC
  rw [CW_l]
  refine ⟨_, (Ct.frame (c_X4_keep_bad O X E F Y Z V G kp s s v hb) [0] rfl rfl (fun v w1 hf => ?_)).weaken (fun v w' hf => ?_), Nat.le_of_ble_eq_true rfl, Nat.le_of_ble_eq_true rfl, rfl, rfl⟩
  · obtain ⟨rfl, rfl⟩ := hf; rfl
  · obtain ⟨w1, ⟨rfl, rfl⟩, rfl⟩ := hf; exact ⟨rfl, t, kd, nu, k, ic, by rw [CW_l]; rfl⟩

set_option maxHeartbeats 4000000 in
set_option maxRecDepth 100000 in
theorem L4_back_bad (D : DX) (O : Nat) (X E F Y Z V : Nat → Nat) (P G : Nat → Nat → Nat) (s sg : SS) (n : Nat) (h : Nat → SS) (nw kn : Nat) (tk wh : SS) (m : Nat) (kp : SS) (g : Nat → SS) (pa kt : SS) (v : Int32) (hb : inR v (nI 0) (nI 1) = false) : ∀ wC, CE D O X E F Y Z V P G (s, sg, n, h, nw, kn, tk, wh, m, kp, g, pa, kt) wC → ∃ rm, Ct D yX4_back cX4_back 2 (some .int) rm [.ref O, .int v] wC (fun v_ u_ => v_ = some (.int (-1)) ∧ CE D O X E F Y Z V P G (s, sg, n, h, nw, kn, tk, wh, m, kp, g, pa, kt) u_) ∧ RB rm := by
  intro wC hC
  obtain ⟨t, kd, nu, k, ic, rfl⟩ := hC
  rw [CW_l]
  refine ⟨_, (Ct.frame (c_X4_back_bad O X E F Y Z V G kp s s v hb) [0] rfl rfl (fun v w1 hf => ?_)).weaken (fun v w' hf => ?_), Nat.le_of_ble_eq_true rfl, Nat.le_of_ble_eq_true rfl, rfl, rfl⟩
  · obtain ⟨rfl, rfl⟩ := hf; rfl
  · obtain ⟨w1, ⟨rfl, rfl⟩, rfl⟩ := hf; exact ⟨rfl, t, kd, nu, k, ic, by rw [CW_l]; rfl⟩

set_option maxHeartbeats 4000000 in
set_option maxRecDepth 100000 in
theorem L4_back_none (D : DX) (O : Nat) (X E F Y Z V : Nat → Nat) (P G : Nat → Nat → Nat) (s sg : SS) (n : Nat) (h : Nat → SS) (nw kn : Nat) (tk wh : SS) (m : Nat) (kp : SS) (g : Nat → SS) (pa kt : SS) (e : Nat) (he : e < 2) (hk : kp e = 0) : ∀ wC, CE D O X E F Y Z V P G (s, sg, n, h, nw, kn, tk, wh, m, kp, g, pa, kt) wC → ∃ rm, Ct D yX4_back cX4_back 2 (some .int) rm [.ref O, .int (nI e)] wC (fun v_ u_ => v_ = some (.int (-2)) ∧ CE D O X E F Y Z V P G (s, sg, n, h, nw, kn, tk, wh, m, kp, g, pa, kt) u_) ∧ RB rm := by
  intro wC hC
  obtain ⟨t, kd, nu, k, ic, rfl⟩ := hC
  rw [CW_l]
  refine ⟨_, (Ct.frame (c_X4_back_none O X E F Y Z V G kp s s e he hk) [0, 50, 61] rfl rfl (fun v w1 hf => ?_)).weaken (fun v w' hf => ?_), Nat.le_of_ble_eq_true rfl, Nat.le_of_ble_eq_true rfl, rfl, rfl⟩
  · obtain ⟨rfl, rfl⟩ := hf; rfl
  · obtain ⟨w1, ⟨rfl, rfl⟩, rfl⟩ := hf; exact ⟨rfl, t, kd, nu, k, ic, by rw [CW_l]; rfl⟩

set_option maxHeartbeats 4000000 in
set_option maxRecDepth 100000 in
theorem L4_count (D : DX) (O : Nat) (X E F Y Z V : Nat → Nat) (P G : Nat → Nat → Nat) (s sg : SS) (n : Nat) (h : Nat → SS) (nw kn : Nat) (tk wh : SS) (m : Nat) (kp : SS) (g : Nat → SS) (pa kt : SS) (w : Int32) : ∀ wC, CE D O X E F Y Z V P G (s, sg, n, h, nw, kn, tk, wh, m, kp, g, pa, kt) wC → ∃ rm, Ct D yX4_count cX4_count 2 (some .int) rm [.ref O, .int w] wC (fun v_ u_ => v_ = some (.int (coF s m n kn w)) ∧ CE D O X E F Y Z V P G (s, sg, n, h, nw, kn, tk, wh, m, kp, g, pa, kt) u_) ∧ RB rm := by
  intro wC hC
  obtain ⟨t, kd, nu, k, ic, rfl⟩ := hC
  rw [CW_l]
  refine ⟨_, (Ct.frame (c_X4_count O X E F Y Z V s sg kd nu k n ic tk wh m P nw kn w) [0, 5, 6, 7, 8, 9, 1, 2, 3, 4, 47, 48, 49, 15, 16] rfl rfl (fun v w1 hf => ?_)).weaken (fun v w' hf => ?_), Nat.le_of_ble_eq_true rfl, Nat.le_of_ble_eq_true rfl, rfl, rfl⟩
  · obtain ⟨rfl, rfl⟩ := hf; rfl
  · obtain ⟨w1, ⟨rfl, rfl⟩, rfl⟩ := hf; exact ⟨rfl, t, kd, nu, k, ic, by rw [CW_l]; rfl⟩

