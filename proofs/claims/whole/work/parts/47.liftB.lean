set_option maxHeartbeats 4000000 in
set_option maxRecDepth 100000 in
theorem L4_at (D : DX) (O : Nat) (X E F Y Z V : Nat → Nat) (P G : Nat → Nat → Nat) (s sg : SS) (n : Nat) (h : Nat → SS) (nw kn : Nat) (tk wh : SS) (m : Nat) (kp : SS) (g : Nat → SS) (pa kt : SS) (v : Int32) : ∀ wC, CE D O X E F Y Z V P G (s, sg, n, h, nw, kn, tk, wh, m, kp, g, pa, kt) wC → ∃ rm, Ct D yX4_at cX4_at 2 (some .int) rm [.ref O, .int v] wC (fun v_ u_ => v_ = some (.int (atF s v)) ∧ CE D O X E F Y Z V P G (s, sg, n, h, nw, kn, tk, wh, m, kp, g, pa, kt) u_) ∧ RB rm := by
  intro wC hC
  obtain ⟨t, kd, nu, k, ic, rfl⟩ := hC
  refine ⟨_, (Ct.frame (c_X4_at O X E F Y Z V s v) [0, 5, 6, 7, 8, 9] rfl rfl (fun v w1 hf => ?_)).weaken (fun v w' hf => ?_), Nat.le_of_ble_eq_true rfl, Nat.le_of_ble_eq_true rfl, rfl, rfl⟩
  · obtain ⟨rfl, rfl⟩ := hf; rfl
  · obtain ⟨w1, ⟨rfl, rfl⟩, rfl⟩ := hf; exact ⟨rfl, t, kd, nu, k, ic, rfl⟩

set_option maxHeartbeats 4000000 in
set_option maxRecDepth 100000 in
theorem L4_channel (D : DX) (O : Nat) (X E F Y Z V : Nat → Nat) (P G : Nat → Nat → Nat) (s sg : SS) (n : Nat) (h : Nat → SS) (nw kn : Nat) (tk wh : SS) (m : Nat) (kp : SS) (g : Nat → SS) (pa kt : SS) (hI : Inv s) (v w : Int32) : ∀ wC, CE D O X E F Y Z V P G (s, sg, n, h, nw, kn, tk, wh, m, kp, g, pa, kt) wC → ∃ rm, Ct D yX4_channel cX4_channel 3 (some .int) rm [.ref O, .int v, .int w] wC (fun v_ u_ => v_ = some (.int (chF s v w)) ∧ CE D O X E F Y Z V P G (s, sg, n, h, nw, kn, tk, wh, m, kp, g, pa, kt) u_) ∧ RB rm := by
  intro wC hC
  obtain ⟨t, kd, nu, k, ic, rfl⟩ := hC
  refine ⟨_, (Ct.frame (c_X4_channel O X E F Y Z V s hI v w) [0, 5, 6, 7, 8, 9] rfl rfl (fun v w1 hf => ?_)).weaken (fun v w' hf => ?_), Nat.le_of_ble_eq_true rfl, Nat.le_of_ble_eq_true rfl, rfl, rfl⟩
  · obtain ⟨rfl, rfl⟩ := hf; rfl
  · obtain ⟨w1, ⟨rfl, rfl⟩, rfl⟩ := hf; exact ⟨rfl, t, kd, nu, k, ic, rfl⟩

set_option maxHeartbeats 4000000 in
set_option maxRecDepth 100000 in
theorem L4_slot (D : DX) (O : Nat) (X E F Y Z V : Nat → Nat) (P G : Nat → Nat → Nat) (s sg : SS) (n : Nat) (h : Nat → SS) (nw kn : Nat) (tk wh : SS) (m : Nat) (kp : SS) (g : Nat → SS) (pa kt : SS) (v z w : Int32) : ∀ wC, CE D O X E F Y Z V P G (s, sg, n, h, nw, kn, tk, wh, m, kp, g, pa, kt) wC → ∃ rm, Ct D yX4_slot cX4_slot 5 (some .int) rm [.ref O, .int v, .int z, .int w] wC (fun v_ u_ => v_ = some (.int (slF s v z w)) ∧ CE D O X E F Y Z V P G (s, sg, n, h, nw, kn, tk, wh, m, kp, g, pa, kt) u_) ∧ RB rm := by
  intro wC hC
  obtain ⟨t, kd, nu, k, ic, rfl⟩ := hC
  refine ⟨_, (Ct.frame (c_X4_slot O X E F Y Z V s v z w) [0, 5, 6, 7, 8, 9] rfl rfl (fun v w1 hf => ?_)).weaken (fun v w' hf => ?_), Nat.le_of_ble_eq_true rfl, Nat.le_of_ble_eq_true rfl, rfl, rfl⟩
  · obtain ⟨rfl, rfl⟩ := hf; rfl
  · obtain ⟨w1, ⟨rfl, rfl⟩, rfl⟩ := hf; exact ⟨rfl, t, kd, nu, k, ic, rfl⟩

set_option maxHeartbeats 4000000 in
set_option maxRecDepth 100000 in
theorem L4_unit (D : DX) (O : Nat) (X E F Y Z V : Nat → Nat) (P G : Nat → Nat → Nat) (s sg : SS) (n : Nat) (h : Nat → SS) (nw kn : Nat) (tk wh : SS) (m : Nat) (kp : SS) (g : Nat → SS) (pa kt : SS) (hI : Inv s) (v z c w : Int32) : ∀ wC, CE D O X E F Y Z V P G (s, sg, n, h, nw, kn, tk, wh, m, kp, g, pa, kt) wC → ∃ rm, Ct D yX4_unit cX4_unit 6 (some .int) rm [.ref O, .int v, .int z, .int c, .int w] wC (fun v_ u_ => v_ = some (.int (uiF s v z c w)) ∧ CE D O X E F Y Z V P G (s, sg, n, h, nw, kn, tk, wh, m, kp, g, pa, kt) u_) ∧ RB rm := by
  intro wC hC
  obtain ⟨t, kd, nu, k, ic, rfl⟩ := hC
  refine ⟨_, (Ct.frame (c_X4_unit O X E F Y Z V s hI v z c w) [0, 5, 6, 7, 8, 9] rfl rfl (fun v w1 hf => ?_)).weaken (fun v w' hf => ?_), Nat.le_of_ble_eq_true rfl, Nat.le_of_ble_eq_true rfl, rfl, rfl⟩
  · obtain ⟨rfl, rfl⟩ := hf; rfl
  · obtain ⟨w1, ⟨rfl, rfl⟩, rfl⟩ := hf; exact ⟨rfl, t, kd, nu, k, ic, rfl⟩

set_option maxHeartbeats 4000000 in
set_option maxRecDepth 100000 in
theorem L4_waiting (D : DX) (O : Nat) (X E F Y Z V : Nat → Nat) (P G : Nat → Nat → Nat) (s sg : SS) (n : Nat) (h : Nat → SS) (nw kn : Nat) (tk wh : SS) (m : Nat) (kp : SS) (g : Nat → SS) (pa kt : SS) (hI : Inv s) (v : Int32) : ∀ wC, CE D O X E F Y Z V P G (s, sg, n, h, nw, kn, tk, wh, m, kp, g, pa, kt) wC → ∃ rm, Ct D yX4_waiting cX4_waiting 3 (some .int) rm [.ref O, .int v] wC (fun v_ u_ => v_ = some (.int (waA s v)) ∧ CE D O X E F Y Z V P G (s, sg, n, h, nw, kn, tk, wh, m, kp, g, pa, kt) u_) ∧ RB rm := by
  intro wC hC
  obtain ⟨t, kd, nu, k, ic, rfl⟩ := hC
  refine ⟨_, (Ct.frame (c_X4_waiting O X E F Y Z V s hI v) [0, 5, 6, 7, 8, 9] rfl rfl (fun v w1 hf => ?_)).weaken (fun v w' hf => ?_), Nat.le_of_ble_eq_true rfl, Nat.le_of_ble_eq_true rfl, rfl, rfl⟩
  · obtain ⟨rfl, rfl⟩ := hf; rfl
  · obtain ⟨w1, ⟨rfl, rfl⟩, rfl⟩ := hf; exact ⟨rfl, t, kd, nu, k, ic, rfl⟩

set_option maxHeartbeats 4000000 in
set_option maxRecDepth 100000 in
theorem L4_lands (D : DX) (O : Nat) (X E F Y Z V : Nat → Nat) (P G : Nat → Nat → Nat) (s sg : SS) (n : Nat) (h : Nat → SS) (nw kn : Nat) (tk wh : SS) (m : Nat) (kp : SS) (g : Nat → SS) (pa kt : SS) (hI : Inv s) (v : Int32) : ∀ wC, CE D O X E F Y Z V P G (s, sg, n, h, nw, kn, tk, wh, m, kp, g, pa, kt) wC → ∃ rm, Ct D yX4_lands cX4_lands 2 (some .int) rm [.ref O, .int v] wC (fun v_ u_ => v_ = some (.int (lnF s v)) ∧ CE D O X E F Y Z V P G (s, sg, n, h, nw, kn, tk, wh, m, kp, g, pa, kt) u_) ∧ RB rm := by
  intro wC hC
  obtain ⟨t, kd, nu, k, ic, rfl⟩ := hC
  refine ⟨_, (Ct.frame (c_X4_lands O X E F Y Z V s hI v) [0, 5, 6, 7, 8, 9] rfl rfl (fun v w1 hf => ?_)).weaken (fun v w' hf => ?_), Nat.le_of_ble_eq_true rfl, Nat.le_of_ble_eq_true rfl, rfl, rfl⟩
  · obtain ⟨rfl, rfl⟩ := hf; rfl
  · obtain ⟨w1, ⟨rfl, rfl⟩, rfl⟩ := hf; exact ⟨rfl, t, kd, nu, k, ic, rfl⟩

set_option maxHeartbeats 4000000 in
set_option maxRecDepth 100000 in
theorem L4_both (D : DX) (O : Nat) (X E F Y Z V : Nat → Nat) (P G : Nat → Nat → Nat) (s sg : SS) (n : Nat) (h : Nat → SS) (nw kn : Nat) (tk wh : SS) (m : Nat) (kp : SS) (g : Nat → SS) (pa kt : SS) (hI : Inv s) (v z w c : Int32) : ∀ wC, CE D O X E F Y Z V P G (s, sg, n, h, nw, kn, tk, wh, m, kp, g, pa, kt) wC → ∃ rm, Ct D yX4_both cX4_both 7 (some .int) rm [.ref O, .int v, .int z, .int w, .int c] wC (fun v_ u_ => v_ = some (.int (boF s v z w c)) ∧ CE D O X E F Y Z V P G (s, sg, n, h, nw, kn, tk, wh, m, kp, g, pa, kt) u_) ∧ RB rm := by
  intro wC hC
  obtain ⟨t, kd, nu, k, ic, rfl⟩ := hC
  refine ⟨_, (Ct.frame (c_X4_both O X E F Y Z V s hI v z w c) [0, 5, 6, 7, 8, 9] rfl rfl (fun v w1 hf => ?_)).weaken (fun v w' hf => ?_), Nat.le_of_ble_eq_true rfl, Nat.le_of_ble_eq_true rfl, rfl, rfl⟩
  · obtain ⟨rfl, rfl⟩ := hf; rfl
  · obtain ⟨w1, ⟨rfl, rfl⟩, rfl⟩ := hf; exact ⟨rfl, t, kd, nu, k, ic, rfl⟩

set_option maxHeartbeats 4000000 in
set_option maxRecDepth 100000 in
theorem L4_type_bad (D : DX) (O : Nat) (X E F Y Z V : Nat → Nat) (P G : Nat → Nat → Nat) (s sg : SS) (n : Nat) (h : Nat → SS) (nw kn : Nat) (tk wh : SS) (m : Nat) (kp : SS) (g : Nat → SS) (pa kt : SS) (v : Int32) (hb : inR v (nI 0) (nI 255) = false) : ∀ wC, CE D O X E F Y Z V P G (s, sg, n, h, nw, kn, tk, wh, m, kp, g, pa, kt) wC → ∃ rm, Ct D yX4_type cX4_type 2 (some .int) rm [.ref O, .int v] wC (fun v_ u_ => v_ = some (.int (-1)) ∧ CE D O X E F Y Z V P G (s, sg, n, h, nw, kn, tk, wh, m, kp, g, pa, kt) u_) ∧ RB rm := by
  intro wC hC
  obtain ⟨t, kd, nu, k, ic, rfl⟩ := hC
  refine ⟨_, (Ct.frame (c_X4_type_bad O X E F Y Z V sg kd nu k n ic v hb) [0, 1, 2, 3, 4] rfl rfl (fun v w1 hf => ?_)).weaken (fun v w' hf => ?_), Nat.le_of_ble_eq_true rfl, Nat.le_of_ble_eq_true rfl, rfl, rfl⟩
  · obtain ⟨rfl, rfl⟩ := hf; rfl
  · obtain ⟨w1, ⟨rfl, rfl⟩, rfl⟩ := hf; exact ⟨rfl, t, kd, nu, k, ic, rfl⟩

set_option maxHeartbeats 4000000 in
set_option maxRecDepth 100000 in
theorem L4_type_full (D : DX) (O : Nat) (X E F Y Z V : Nat → Nat) (P G : Nat → Nat → Nat) (s sg : SS) (n : Nat) (h : Nat → SS) (nw kn : Nat) (tk wh : SS) (m : Nat) (kp : SS) (g : Nat → SS) (pa kt : SS) (v : Int32) (hb : inR v (nI 0) (nI 255) = true) (hn : n = 120) : ∀ wC, CE D O X E F Y Z V P G (s, sg, n, h, nw, kn, tk, wh, m, kp, g, pa, kt) wC → ∃ rm, Ct D yX4_type cX4_type 2 (some .int) rm [.ref O, .int v] wC (fun v_ u_ => v_ = some (.int (-3)) ∧ CE D O X E F Y Z V P G (s, sg, n, h, nw, kn, tk, wh, m, kp, g, pa, kt) u_) ∧ RB rm := by
  intro wC hC
  obtain ⟨t, kd, nu, k, ic, rfl⟩ := hC
  refine ⟨_, (Ct.frame (c_X4_type_full O X E F Y Z V sg kd nu k n ic v hb hn) [0, 1, 2, 3, 4] rfl rfl (fun v w1 hf => ?_)).weaken (fun v w' hf => ?_), Nat.le_of_ble_eq_true rfl, Nat.le_of_ble_eq_true rfl, rfl, rfl⟩
  · obtain ⟨rfl, rfl⟩ := hf; rfl
  · obtain ⟨w1, ⟨rfl, rfl⟩, rfl⟩ := hf; exact ⟨rfl, t, kd, nu, k, ic, rfl⟩

set_option maxHeartbeats 4000000 in
set_option maxRecDepth 100000 in
theorem L4_type_ok (D : DX) (O : Nat) (X E F Y Z V : Nat → Nat) (P G : Nat → Nat → Nat) (s sg : SS) (n : Nat) (h : Nat → SS) (nw kn : Nat) (tk wh : SS) (m : Nat) (kp : SS) (g : Nat → SS) (pa kt : SS) (v : Int32) (hb : inR v (nI 0) (nI 255) = true) (hn : n < 120) : ∀ wC, CE D O X E F Y Z V P G (s, sg, n, h, nw, kn, tk, wh, m, kp, g, pa, kt) wC → ∃ rm, Ct D yX4_type cX4_type 2 (some .int) rm [.ref O, .int v] wC (fun v_ u_ => v_ = some (.int (nI (n + 1))) ∧ CE D O X E F Y Z V P G (s, upd sg n v, n + 1, h, nw, kn, tk, wh, m, kp, g, pa, kt) u_) ∧ RB rm := by
  intro wC hC
  obtain ⟨t, kd, nu, k, ic, rfl⟩ := hC
  refine ⟨_, (Ct.frame (c_X4_type_ok O X E F Y Z V sg kd nu k n ic v hb hn) [0, 1, 2, 3, 4] rfl rfl (fun v w1 hf => ?_)).weaken (fun v w' hf => ?_), Nat.le_of_ble_eq_true rfl, Nat.le_of_ble_eq_true rfl, rfl, rfl⟩
  · obtain ⟨rfl, rfl⟩ := hf; rfl
  · obtain ⟨w1, ⟨rfl, rfl⟩, rfl⟩ := hf; exact ⟨rfl, t, kd, nu, k, ic, rfl⟩

set_option maxHeartbeats 4000000 in
set_option maxRecDepth 100000 in
theorem L4_clear (D : DX) (O : Nat) (X E F Y Z V : Nat → Nat) (P G : Nat → Nat → Nat) (s sg : SS) (n : Nat) (h : Nat → SS) (nw kn : Nat) (tk wh : SS) (m : Nat) (kp : SS) (g : Nat → SS) (pa kt : SS)  : ∀ wC, CE D O X E F Y Z V P G (s, sg, n, h, nw, kn, tk, wh, m, kp, g, pa, kt) wC → ∃ rm, Ct D yX4_clear cX4_clear 2 (some .int) rm [.ref O] wC (fun v_ u_ => v_ = some (.int (nI n)) ∧ CE D O X E F Y Z V P G (s, sg, 0, h, nw, kn, tk, wh, m, kp, g, pa, kt) u_) ∧ RB rm := by
  intro wC hC
  obtain ⟨t, kd, nu, k, ic, rfl⟩ := hC
  refine ⟨_, (Ct.frame (c_X4_clear O X E F Y Z V sg kd nu k n ic) [0, 1, 2, 3, 4] rfl rfl (fun v w1 hf => ?_)).weaken (fun v w' hf => ?_), Nat.le_of_ble_eq_true rfl, Nat.le_of_ble_eq_true rfl, rfl, rfl⟩
  · obtain ⟨rfl, rfl⟩ := hf; rfl
  · obtain ⟨w1, ⟨rfl, rfl⟩, rfl⟩ := hf; exact ⟨rfl, t, kd, nu, k, ic, rfl⟩

set_option maxHeartbeats 4000000 in
set_option maxRecDepth 100000 in
theorem L4_posts_fault (D : DX) (O : Nat) (X E F Y Z V : Nat → Nat) (P G : Nat → Nat → Nat) (s sg : SS) (n : Nat) (h : Nat → SS) (nw kn : Nat) (tk wh : SS) (m : Nat) (kp : SS) (g : Nat → SS) (pa kt : SS) (a : Nat → Nat) (hz : zT D a) (hn : n ≤ 120) (f : Nat) (hf : f < 2 ^ 31) (hp : (prA sg n).1 = some f) : ∀ wC, CE D O X E F Y Z V P G (s, sg, n, h, nw, kn, tk, wh, m, kp, g, pa, kt) wC → ∃ rm, Ct D yX4_posts cX4_posts 3 (some .int) rm [.ref O] wC (fun v_ u_ => v_ = some (.int ((-10) - nI f)) ∧ CE D O X E F Y Z V P G (s, sg, n, h, nw, kn, tk, wh, m, kp, g, pa, kt) u_) ∧ RB rm := by
  intro wC hC
  obtain ⟨t, kd, nu, k, ic, rfl⟩ := hC
  refine ⟨_, (Ct.frame (c_X4_posts_fault O X E F Y Z V sg kd nu k n ic a hz hn f hf hp) [0, 1, 2, 3, 4] rfl rfl (fun v w1 hf => ?_)).weaken (fun v w' hf => ?_), Nat.le_of_ble_eq_true rfl, Nat.le_of_ble_eq_true rfl, rfl, rfl⟩
  · obtain ⟨rfl, kd1, nu1, k1, ic1, rfl⟩ := hf; rfl
  · obtain ⟨w1, ⟨rfl, kd1, nu1, k1, ic1, rfl⟩, rfl⟩ := hf; exact ⟨rfl, t, kd1, nu1, k1, ic1, rfl⟩

set_option maxHeartbeats 4000000 in
set_option maxRecDepth 100000 in
theorem L4_posts_full (D : DX) (O : Nat) (X E F Y Z V : Nat → Nat) (P G : Nat → Nat → Nat) (s sg : SS) (n : Nat) (h : Nat → SS) (nw kn : Nat) (tk wh : SS) (m : Nat) (kp : SS) (g : Nat → SS) (pa kt : SS) (a : Nat → Nat) (hz : zT D a) (hn : n ≤ 120) (hI : Inv s) (hp : (prA sg n).1 = none) (hA : okA sg n s (prA sg n).2 = false) : ∀ wC, CE D O X E F Y Z V P G (s, sg, n, h, nw, kn, tk, wh, m, kp, g, pa, kt) wC → ∃ rm, Ct D yX4_posts cX4_posts 3 (some .int) rm [.ref O] wC (fun v_ u_ => v_ = some (.int (-3)) ∧ CE D O X E F Y Z V P G (s, sg, n, h, nw, kn, tk, wh, m, kp, g, pa, kt) u_) ∧ RB rm := by
  intro wC hC
  obtain ⟨t, kd, nu, k, ic, rfl⟩ := hC
  refine ⟨_, (Ct.frame (c_X4_posts_full O X E F Y Z V sg kd nu k n ic a hz hn s t hI hp hA) [0, 1, 2, 3, 4, 5, 6, 7, 8, 9, 10, 11, 12, 13, 14] rfl rfl (fun v w1 hf => ?_)).weaken (fun v w' hf => ?_), Nat.le_of_ble_eq_true rfl, Nat.le_of_ble_eq_true rfl, rfl, rfl⟩
  · obtain ⟨rfl, kd1, nu1, k1, t1, rfl⟩ := hf; rfl
  · obtain ⟨w1, ⟨rfl, kd1, nu1, k1, t1, rfl⟩, rfl⟩ := hf; exact ⟨rfl, t1, kd1, nu1, k1, _, rfl⟩

set_option maxHeartbeats 4000000 in
set_option maxRecDepth 100000 in
theorem L4_ticks_bad (D : DX) (O : Nat) (X E F Y Z V : Nat → Nat) (P G : Nat → Nat → Nat) (s sg : SS) (n : Nat) (h : Nat → SS) (nw kn : Nat) (tk wh : SS) (m : Nat) (kp : SS) (g : Nat → SS) (pa kt : SS) (v : Int32) (hb : inR v (nI 1) (nI 40) = false) : ∀ wC, CE D O X E F Y Z V P G (s, sg, n, h, nw, kn, tk, wh, m, kp, g, pa, kt) wC → ∃ rm, Ct D yX4_ticks cX4_ticks 4 (some .int) rm [.ref O, .int v] wC (fun v_ u_ => v_ = some (.int (-1)) ∧ CE D O X E F Y Z V P G (s, sg, n, h, nw, kn, tk, wh, m, kp, g, pa, kt) u_) ∧ RB rm := by
  intro wC hC
  obtain ⟨t, kd, nu, k, ic, rfl⟩ := hC
  refine ⟨_, (Ct.frame (c_X4_ticks_bad O X E F Y Z V v hb) [0] rfl rfl (fun v w1 hf => ?_)).weaken (fun v w' hf => ?_), Nat.le_of_ble_eq_true rfl, Nat.le_of_ble_eq_true rfl, rfl, rfl⟩
  · obtain ⟨rfl, rfl⟩ := hf; rfl
  · obtain ⟨w1, ⟨rfl, rfl⟩, rfl⟩ := hf; exact ⟨rfl, t, kd, nu, k, ic, rfl⟩

set_option maxHeartbeats 4000000 in
set_option maxRecDepth 100000 in
theorem L4_cancels_bad (D : DX) (O : Nat) (X E F Y Z V : Nat → Nat) (P G : Nat → Nat → Nat) (s sg : SS) (n : Nat) (h : Nat → SS) (nw kn : Nat) (tk wh : SS) (m : Nat) (kp : SS) (g : Nat → SS) (pa kt : SS) (v : Int32) (hb : inR v (nI 0) (nI 3) = false) : ∀ wC, CE D O X E F Y Z V P G (s, sg, n, h, nw, kn, tk, wh, m, kp, g, pa, kt) wC → ∃ rm, Ct D yX4_cancels cX4_cancels 2 (some .int) rm [.ref O, .int v] wC (fun v_ u_ => v_ = some (.int (-1)) ∧ CE D O X E F Y Z V P G (s, sg, n, h, nw, kn, tk, wh, m, kp, g, pa, kt) u_) ∧ RB rm := by
  intro wC hC
  obtain ⟨t, kd, nu, k, ic, rfl⟩ := hC
  refine ⟨_, (Ct.frame (c_X4_cancels_bad O X E F Y Z V v hb) [0] rfl rfl (fun v w1 hf => ?_)).weaken (fun v w' hf => ?_), Nat.le_of_ble_eq_true rfl, Nat.le_of_ble_eq_true rfl, rfl, rfl⟩
  · obtain ⟨rfl, rfl⟩ := hf; rfl
  · obtain ⟨w1, ⟨rfl, rfl⟩, rfl⟩ := hf; exact ⟨rfl, t, kd, nu, k, ic, rfl⟩

set_option maxHeartbeats 4000000 in
set_option maxRecDepth 100000 in
theorem L4_cancels_none (D : DX) (O : Nat) (X E F Y Z V : Nat → Nat) (P G : Nat → Nat → Nat) (s sg : SS) (n : Nat) (h : Nat → SS) (nw kn : Nat) (tk wh : SS) (m : Nat) (kp : SS) (g : Nat → SS) (pa kt : SS) (hI : Inv s) (c : Nat) (hc : c < 4) (ht : tc s (pl s c) = false) : ∀ wC, CE D O X E F Y Z V P G (s, sg, n, h, nw, kn, tk, wh, m, kp, g, pa, kt) wC → ∃ rm, Ct D yX4_cancels cX4_cancels 2 (some .int) rm [.ref O, .int (nI c)] wC (fun v_ u_ => v_ = some (.int (-2)) ∧ CE D O X E F Y Z V P G (s, sg, n, h, nw, kn, tk, wh, m, kp, g, pa, kt) u_) ∧ RB rm := by
  intro wC hC
  obtain ⟨t, kd, nu, k, ic, rfl⟩ := hC
  refine ⟨_, (Ct.frame (c_X4_cancels_none O X E F Y Z V s hI c hc ht) [0, 5, 6, 7, 8, 9] rfl rfl (fun v w1 hf => ?_)).weaken (fun v w' hf => ?_), Nat.le_of_ble_eq_true rfl, Nat.le_of_ble_eq_true rfl, rfl, rfl⟩
  · obtain ⟨rfl, rfl⟩ := hf; rfl
  · obtain ⟨w1, ⟨rfl, rfl⟩, rfl⟩ := hf; exact ⟨rfl, t, kd, nu, k, ic, rfl⟩

set_option maxHeartbeats 4000000 in
set_option maxRecDepth 100000 in
theorem L4_switches_bad (D : DX) (O : Nat) (X E F Y Z V : Nat → Nat) (P G : Nat → Nat → Nat) (s sg : SS) (n : Nat) (h : Nat → SS) (nw kn : Nat) (tk wh : SS) (m : Nat) (kp : SS) (g : Nat → SS) (pa kt : SS) (v : Int32) (hb : inR v (nI 0) (nI 3) = false) : ∀ wC, CE D O X E F Y Z V P G (s, sg, n, h, nw, kn, tk, wh, m, kp, g, pa, kt) wC → ∃ rm, Ct D yX4_switches cX4_switches 3 (some .int) rm [.ref O, .int v] wC (fun v_ u_ => v_ = some (.int (-1)) ∧ CE D O X E F Y Z V P G (s, sg, n, h, nw, kn, tk, wh, m, kp, g, pa, kt) u_) ∧ RB rm := by
  intro wC hC
  obtain ⟨t, kd, nu, k, ic, rfl⟩ := hC
  refine ⟨_, (Ct.frame (c_X4_switches_bad O X E F Y Z V v hb) [0] rfl rfl (fun v w1 hf => ?_)).weaken (fun v w' hf => ?_), Nat.le_of_ble_eq_true rfl, Nat.le_of_ble_eq_true rfl, rfl, rfl⟩
  · obtain ⟨rfl, rfl⟩ := hf; rfl
  · obtain ⟨w1, ⟨rfl, rfl⟩, rfl⟩ := hf; exact ⟨rfl, t, kd, nu, k, ic, rfl⟩

set_option maxHeartbeats 4000000 in
set_option maxRecDepth 100000 in
theorem L4_tunes_bad (D : DX) (O : Nat) (X E F Y Z V : Nat → Nat) (P G : Nat → Nat → Nat) (s sg : SS) (n : Nat) (h : Nat → SS) (nw kn : Nat) (tk wh : SS) (m : Nat) (kp : SS) (g : Nat → SS) (pa kt : SS) (v w z : Int32) (hb : ¬ (inR v (nI 0) (nI 3) = true ∧ inR w (nI 0) (nI 3) = true ∧ inR z (nI 1) (nI 8) = true)) : ∀ wC, CE D O X E F Y Z V P G (s, sg, n, h, nw, kn, tk, wh, m, kp, g, pa, kt) wC → ∃ rm, Ct D yX4_tunes cX4_tunes 4 (some .int) rm [.ref O, .int v, .int w, .int z] wC (fun v_ u_ => v_ = some (.int (-1)) ∧ CE D O X E F Y Z V P G (s, sg, n, h, nw, kn, tk, wh, m, kp, g, pa, kt) u_) ∧ RB rm := by
  intro wC hC
  obtain ⟨t, kd, nu, k, ic, rfl⟩ := hC
  refine ⟨_, (Ct.frame (c_X4_tunes_bad O X E F Y Z V v w z hb) [0] rfl rfl (fun v w1 hf => ?_)).weaken (fun v w' hf => ?_), Nat.le_of_ble_eq_true rfl, Nat.le_of_ble_eq_true rfl, rfl, rfl⟩
  · obtain ⟨rfl, rfl⟩ := hf; rfl
  · obtain ⟨w1, ⟨rfl, rfl⟩, rfl⟩ := hf; exact ⟨rfl, t, kd, nu, k, ic, rfl⟩

set_option maxHeartbeats 4000000 in
set_option maxRecDepth 100000 in
theorem L4_tunes_same (D : DX) (O : Nat) (X E F Y Z V : Nat → Nat) (P G : Nat → Nat → Nat) (s sg : SS) (n : Nat) (h : Nat → SS) (nw kn : Nat) (tk wh : SS) (m : Nat) (kp : SS) (g : Nat → SS) (pa kt : SS) (c r b : Nat) (hc : c < 4) (hr : r < 4) (hb : 1 ≤ b ∧ b ≤ 8) (h1 : gC s c 1 = nI r) (h2 : gC s c 2 = nI b) : ∀ wC, CE D O X E F Y Z V P G (s, sg, n, h, nw, kn, tk, wh, m, kp, g, pa, kt) wC → ∃ rm, Ct D yX4_tunes cX4_tunes 4 (some .int) rm [.ref O, .int (nI c), .int (nI r), .int (nI b)] wC (fun v_ u_ => v_ = some (.int (-2)) ∧ CE D O X E F Y Z V P G (s, sg, n, h, nw, kn, tk, wh, m, kp, g, pa, kt) u_) ∧ RB rm := by
  intro wC hC
  obtain ⟨t, kd, nu, k, ic, rfl⟩ := hC
  refine ⟨_, (Ct.frame (c_X4_tunes_same O X E F Y Z V s c r b hc hr hb h1 h2) [0, 5, 6, 7, 8, 9] rfl rfl (fun v w1 hf => ?_)).weaken (fun v w' hf => ?_), Nat.le_of_ble_eq_true rfl, Nat.le_of_ble_eq_true rfl, rfl, rfl⟩
  · obtain ⟨rfl, rfl⟩ := hf; rfl
  · obtain ⟨w1, ⟨rfl, rfl⟩, rfl⟩ := hf; exact ⟨rfl, t, kd, nu, k, ic, rfl⟩

set_option maxHeartbeats 4000000 in
set_option maxRecDepth 100000 in
theorem L4_undo_none (D : DX) (O : Nat) (X E F Y Z V : Nat → Nat) (P G : Nat → Nat → Nat) (s sg : SS) (n : Nat) (h : Nat → SS) (nw kn : Nat) (tk wh : SS) (m : Nat) (kp : SS) (g : Nat → SS) (pa kt : SS) (hk : kn = 0) : ∀ wC, CE D O X E F Y Z V P G (s, sg, n, h, nw, kn, tk, wh, m, kp, g, pa, kt) wC → ∃ rm, Ct D yX4_undo cX4_undo 1 (some .int) rm [.ref O] wC (fun v_ u_ => v_ = some (.int (-2)) ∧ CE D O X E F Y Z V P G (s, sg, n, h, nw, kn, tk, wh, m, kp, g, pa, kt) u_) ∧ RB rm := by
  intro wC hC
  obtain ⟨t, kd, nu, k, ic, rfl⟩ := hC
  refine ⟨_, (Ct.frame (c_X4_undo_none O X E F Y Z V P nw kn s hk) [0, 5, 6, 7, 8, 9, 15, 16] rfl rfl (fun v w1 hf => ?_)).weaken (fun v w' hf => ?_), Nat.le_of_ble_eq_true rfl, Nat.le_of_ble_eq_true rfl, rfl, rfl⟩
  · obtain ⟨rfl, rfl⟩ := hf; rfl
  · obtain ⟨w1, ⟨rfl, rfl⟩, rfl⟩ := hf; exact ⟨rfl, t, kd, nu, k, ic, rfl⟩

set_option maxHeartbeats 4000000 in
set_option maxRecDepth 100000 in
theorem L4_over (D : DX) (O : Nat) (X E F Y Z V : Nat → Nat) (P G : Nat → Nat → Nat) (s sg : SS) (n : Nat) (h : Nat → SS) (nw kn : Nat) (tk wh : SS) (m : Nat) (kp : SS) (g : Nat → SS) (pa kt : SS) (hI : Inv s) (v : Int32) : ∀ wC, CE D O X E F Y Z V P G (s, sg, n, h, nw, kn, tk, wh, m, kp, g, pa, kt) wC → ∃ rm, Ct D yX4_over cX4_over 2 (some .int) rm [.ref O, .int v] wC (fun v_ u_ => v_ = some (.int (ovA s v)) ∧ CE D O X E F Y Z V P G (s, sg, n, h, nw, kn, tk, wh, m, kp, g, pa, kt) u_) ∧ RB rm := by
  intro wC hC
  obtain ⟨t, kd, nu, k, ic, rfl⟩ := hC
  refine ⟨_, (Ct.frame (c_X4_over O X E F Y Z V s t hI v) [0, 5, 6, 7, 8, 9, 10, 11, 12, 13, 14] rfl rfl (fun v w1 hf => ?_)).weaken (fun v w' hf => ?_), Nat.le_of_ble_eq_true rfl, Nat.le_of_ble_eq_true rfl, rfl, rfl⟩
  · obtain ⟨rfl, t1, rfl⟩ := hf; rfl
  · obtain ⟨w1, ⟨rfl, t1, rfl⟩, rfl⟩ := hf; exact ⟨rfl, t1, kd, nu, k, ic, rfl⟩

set_option maxHeartbeats 4000000 in
set_option maxRecDepth 100000 in
theorem L4_enough (D : DX) (O : Nat) (X E F Y Z V : Nat → Nat) (P G : Nat → Nat → Nat) (s sg : SS) (n : Nat) (h : Nat → SS) (nw kn : Nat) (tk wh : SS) (m : Nat) (kp : SS) (g : Nat → SS) (pa kt : SS) (hI : Inv s) (v w : Int32) : ∀ wC, CE D O X E F Y Z V P G (s, sg, n, h, nw, kn, tk, wh, m, kp, g, pa, kt) wC → ∃ rm, Ct D yX4_enough cX4_enough 4 (some .int) rm [.ref O, .int v, .int w] wC (fun v_ u_ => v_ = some (.int (enA s v w)) ∧ CE D O X E F Y Z V P G (s, sg, n, h, nw, kn, tk, wh, m, kp, g, pa, kt) u_) ∧ RB rm := by
  intro wC hC
  obtain ⟨t, kd, nu, k, ic, rfl⟩ := hC
  refine ⟨_, (Ct.frame (c_X4_enough O X E F Y Z V s t hI v w) [0, 5, 6, 7, 8, 9, 10, 11, 12, 13, 14] rfl rfl (fun v w1 hf => ?_)).weaken (fun v w' hf => ?_), Nat.le_of_ble_eq_true rfl, Nat.le_of_ble_eq_true rfl, rfl, rfl⟩
  · obtain ⟨rfl, t1, rfl⟩ := hf; rfl
  · obtain ⟨w1, ⟨rfl, t1, rfl⟩, rfl⟩ := hf; exact ⟨rfl, t1, kd, nu, k, ic, rfl⟩

set_option maxHeartbeats 4000000 in
set_option maxRecDepth 100000 in
theorem L4_granted (D : DX) (O : Nat) (X E F Y Z V : Nat → Nat) (P G : Nat → Nat → Nat) (s sg : SS) (n : Nat) (h : Nat → SS) (nw kn : Nat) (tk wh : SS) (m : Nat) (kp : SS) (g : Nat → SS) (pa kt : SS) (hI : Inv s) (v : Int32) : ∀ wC, CE D O X E F Y Z V P G (s, sg, n, h, nw, kn, tk, wh, m, kp, g, pa, kt) wC → ∃ rm, Ct D yX4_granted cX4_granted 3 (some .int) rm [.ref O, .int v] wC (fun v_ u_ => v_ = some (.int (gnA s v)) ∧ CE D O X E F Y Z V P G (s, sg, n, h, nw, kn, tk, wh, m, kp, g, pa, kt) u_) ∧ RB rm := by
  intro wC hC
  obtain ⟨t, kd, nu, k, ic, rfl⟩ := hC
  refine ⟨_, (Ct.frame (c_X4_granted O X E F Y Z V s t hI v) [0, 5, 6, 7, 8, 9, 10, 11, 12, 13, 14] rfl rfl (fun v w1 hf => ?_)).weaken (fun v w' hf => ?_), Nat.le_of_ble_eq_true rfl, Nat.le_of_ble_eq_true rfl, rfl, rfl⟩
  · obtain ⟨rfl, t1, rfl⟩ := hf; rfl
  · obtain ⟨w1, ⟨rfl, t1, rfl⟩, rfl⟩ := hf; exact ⟨rfl, t1, kd, nu, k, ic, rfl⟩

set_option maxHeartbeats 4000000 in
set_option maxRecDepth 100000 in
theorem L4_ranks (D : DX) (O : Nat) (X E F Y Z V : Nat → Nat) (P G : Nat → Nat → Nat) (s sg : SS) (n : Nat) (h : Nat → SS) (nw kn : Nat) (tk wh : SS) (m : Nat) (kp : SS) (g : Nat → SS) (pa kt : SS) (hI : Inv s) (hs : SeOk tk wh m) (v : Int32) : ∀ wC, CE D O X E F Y Z V P G (s, sg, n, h, nw, kn, tk, wh, m, kp, g, pa, kt) wC → ∃ rm, Ct D yX4_ranks cX4_ranks 4 (some .int) rm [.ref O, .int v] wC (fun v_ u_ => v_ = some (.int (rkA s tk wh m v)) ∧ CE D O X E F Y Z V P G (s, sg, n, h, nw, kn, tk, wh, m, kp, g, pa, kt) u_) ∧ RB rm := by
  intro wC hC
  obtain ⟨t, kd, nu, k, ic, rfl⟩ := hC
  refine ⟨_, (Ct.frame (c_X4_ranks O X E F Y Z V s t hI tk wh m hs v) [0, 5, 6, 7, 8, 9, 10, 11, 12, 13, 14, 47, 48, 49] rfl rfl (fun v w1 hf => ?_)).weaken (fun v w' hf => ?_), Nat.le_of_ble_eq_true rfl, Nat.le_of_ble_eq_true rfl, rfl, rfl⟩
  · obtain ⟨rfl, t1, rfl⟩ := hf; rfl
  · obtain ⟨w1, ⟨rfl, t1, rfl⟩, rfl⟩ := hf; exact ⟨rfl, t1, kd, nu, k, ic, rfl⟩

set_option maxHeartbeats 4000000 in
set_option maxRecDepth 100000 in
theorem L4_sees_bad (D : DX) (O : Nat) (X E F Y Z V : Nat → Nat) (P G : Nat → Nat → Nat) (s sg : SS) (n : Nat) (h : Nat → SS) (nw kn : Nat) (tk wh : SS) (m : Nat) (kp : SS) (g : Nat → SS) (pa kt : SS) (v w : Int32) (hb : ¬ (inR v (nI 1) (nI 40) = true ∧ (inR w (nI 0) (nI 3) = true ∨ w = -9))) : ∀ wC, CE D O X E F Y Z V P G (s, sg, n, h, nw, kn, tk, wh, m, kp, g, pa, kt) wC → ∃ rm, Ct D yX4_sees cX4_sees 3 (some .int) rm [.ref O, .int v, .int w] wC (fun v_ u_ => v_ = some (.int (-1)) ∧ CE D O X E F Y Z V P G (s, sg, n, h, nw, kn, tk, wh, m, kp, g, pa, kt) u_) ∧ RB rm := by
  intro wC hC
  obtain ⟨t, kd, nu, k, ic, rfl⟩ := hC
  refine ⟨_, (Ct.frame (c_X4_sees_bad O X E F Y Z V tk wh m v w hb) [0, 47, 48, 49] rfl rfl (fun v w1 hf => ?_)).weaken (fun v w' hf => ?_), Nat.le_of_ble_eq_true rfl, Nat.le_of_ble_eq_true rfl, rfl, rfl⟩
  · obtain ⟨rfl, rfl⟩ := hf; rfl
  · obtain ⟨w1, ⟨rfl, rfl⟩, rfl⟩ := hf; exact ⟨rfl, t, kd, nu, k, ic, rfl⟩

set_option maxHeartbeats 4000000 in
set_option maxRecDepth 100000 in
theorem L4_sees_full (D : DX) (O : Nat) (X E F Y Z V : Nat → Nat) (P G : Nat → Nat → Nat) (s sg : SS) (n : Nat) (h : Nat → SS) (nw kn : Nat) (tk wh : SS) (m : Nat) (kp : SS) (g : Nat → SS) (pa kt : SS) (v w : Int32) (hb : (inR v (nI 1) (nI 40) = true ∧ (inR w (nI 0) (nI 3) = true ∨ w = -9))) (hm : m = 6) : ∀ wC, CE D O X E F Y Z V P G (s, sg, n, h, nw, kn, tk, wh, m, kp, g, pa, kt) wC → ∃ rm, Ct D yX4_sees cX4_sees 3 (some .int) rm [.ref O, .int v, .int w] wC (fun v_ u_ => v_ = some (.int (-3)) ∧ CE D O X E F Y Z V P G (s, sg, n, h, nw, kn, tk, wh, m, kp, g, pa, kt) u_) ∧ RB rm := by
  intro wC hC
  obtain ⟨t, kd, nu, k, ic, rfl⟩ := hC
  refine ⟨_, (Ct.frame (c_X4_sees_full O X E F Y Z V tk wh m v w hb hm) [0, 47, 48, 49] rfl rfl (fun v w1 hf => ?_)).weaken (fun v w' hf => ?_), Nat.le_of_ble_eq_true rfl, Nat.le_of_ble_eq_true rfl, rfl, rfl⟩
  · obtain ⟨rfl, rfl⟩ := hf; rfl
  · obtain ⟨w1, ⟨rfl, rfl⟩, rfl⟩ := hf; exact ⟨rfl, t, kd, nu, k, ic, rfl⟩

set_option maxHeartbeats 4000000 in
set_option maxRecDepth 100000 in
theorem L4_sees_ok (D : DX) (O : Nat) (X E F Y Z V : Nat → Nat) (P G : Nat → Nat → Nat) (s sg : SS) (n : Nat) (h : Nat → SS) (nw kn : Nat) (tk wh : SS) (m : Nat) (kp : SS) (g : Nat → SS) (pa kt : SS) (v w : Int32) (hb : (inR v (nI 1) (nI 40) = true ∧ (inR w (nI 0) (nI 3) = true ∨ w = -9))) (hm : m < 6) : ∀ wC, CE D O X E F Y Z V P G (s, sg, n, h, nw, kn, tk, wh, m, kp, g, pa, kt) wC → ∃ rm, Ct D yX4_sees cX4_sees 3 (some .int) rm [.ref O, .int v, .int w] wC (fun v_ u_ => v_ = some (.int (nI (m + 1))) ∧ CE D O X E F Y Z V P G (s, sg, n, h, nw, kn, upd tk m v, upd wh m w, m + 1, kp, g, pa, kt) u_) ∧ RB rm := by
  intro wC hC
  obtain ⟨t, kd, nu, k, ic, rfl⟩ := hC
  refine ⟨_, (Ct.frame (c_X4_sees_ok O X E F Y Z V tk wh m v w hb hm) [0, 47, 48, 49] rfl rfl (fun v w1 hf => ?_)).weaken (fun v w' hf => ?_), Nat.le_of_ble_eq_true rfl, Nat.le_of_ble_eq_true rfl, rfl, rfl⟩
  · obtain ⟨rfl, rfl⟩ := hf; rfl
  · obtain ⟨w1, ⟨rfl, rfl⟩, rfl⟩ := hf; exact ⟨rfl, t, kd, nu, k, ic, rfl⟩

set_option maxHeartbeats 4000000 in
set_option maxRecDepth 100000 in
theorem L4_forget (D : DX) (O : Nat) (X E F Y Z V : Nat → Nat) (P G : Nat → Nat → Nat) (s sg : SS) (n : Nat) (h : Nat → SS) (nw kn : Nat) (tk wh : SS) (m : Nat) (kp : SS) (g : Nat → SS) (pa kt : SS)  : ∀ wC, CE D O X E F Y Z V P G (s, sg, n, h, nw, kn, tk, wh, m, kp, g, pa, kt) wC → ∃ rm, Ct D yX4_forget cX4_forget 2 (some .int) rm [.ref O] wC (fun v_ u_ => v_ = some (.int (nI m)) ∧ CE D O X E F Y Z V P G (s, sg, n, h, nw, kn, tk, wh, 0, kp, g, pa, kt) u_) ∧ RB rm := by
  intro wC hC
  obtain ⟨t, kd, nu, k, ic, rfl⟩ := hC
  refine ⟨_, (Ct.frame (c_X4_forget O X E F Y Z V tk wh m) [0, 47, 48, 49] rfl rfl (fun v w1 hf => ?_)).weaken (fun v w' hf => ?_), Nat.le_of_ble_eq_true rfl, Nat.le_of_ble_eq_true rfl, rfl, rfl⟩
  · obtain ⟨rfl, rfl⟩ := hf; rfl
  · obtain ⟨w1, ⟨rfl, rfl⟩, rfl⟩ := hf; exact ⟨rfl, t, kd, nu, k, ic, rfl⟩

set_option maxHeartbeats 4000000 in
set_option maxRecDepth 100000 in
theorem L4_keep_bad (D : DX) (O : Nat) (X E F Y Z V : Nat → Nat) (P G : Nat → Nat → Nat) (s sg : SS) (n : Nat) (h : Nat → SS) (nw kn : Nat) (tk wh : SS) (m : Nat) (kp : SS) (g : Nat → SS) (pa kt : SS) (v : Int32) (hb : inR v (nI 0) (nI 1) = false) : ∀ wC, CE D O X E F Y Z V P G (s, sg, n, h, nw, kn, tk, wh, m, kp, g, pa, kt) wC → ∃ rm, Ct D yX4_keep cX4_keep 2 (some .int) rm [.ref O, .int v] wC (fun v_ u_ => v_ = some (.int (-1)) ∧ CE D O X E F Y Z V P G (s, sg, n, h, nw, kn, tk, wh, m, kp, g, pa, kt) u_) ∧ RB rm := by
  intro wC hC
  obtain ⟨t, kd, nu, k, ic, rfl⟩ := hC
  refine ⟨_, (Ct.frame (c_X4_keep_bad O X E F Y Z V G kp s s v hb) [0] rfl rfl (fun v w1 hf => ?_)).weaken (fun v w' hf => ?_), Nat.le_of_ble_eq_true rfl, Nat.le_of_ble_eq_true rfl, rfl, rfl⟩
  · obtain ⟨rfl, rfl⟩ := hf; rfl
  · obtain ⟨w1, ⟨rfl, rfl⟩, rfl⟩ := hf; exact ⟨rfl, t, kd, nu, k, ic, rfl⟩

set_option maxHeartbeats 4000000 in
set_option maxRecDepth 100000 in
theorem L4_back_bad (D : DX) (O : Nat) (X E F Y Z V : Nat → Nat) (P G : Nat → Nat → Nat) (s sg : SS) (n : Nat) (h : Nat → SS) (nw kn : Nat) (tk wh : SS) (m : Nat) (kp : SS) (g : Nat → SS) (pa kt : SS) (v : Int32) (hb : inR v (nI 0) (nI 1) = false) : ∀ wC, CE D O X E F Y Z V P G (s, sg, n, h, nw, kn, tk, wh, m, kp, g, pa, kt) wC → ∃ rm, Ct D yX4_back cX4_back 2 (some .int) rm [.ref O, .int v] wC (fun v_ u_ => v_ = some (.int (-1)) ∧ CE D O X E F Y Z V P G (s, sg, n, h, nw, kn, tk, wh, m, kp, g, pa, kt) u_) ∧ RB rm := by
  intro wC hC
  obtain ⟨t, kd, nu, k, ic, rfl⟩ := hC
  refine ⟨_, (Ct.frame (c_X4_back_bad O X E F Y Z V G kp s s v hb) [0] rfl rfl (fun v w1 hf => ?_)).weaken (fun v w' hf => ?_), Nat.le_of_ble_eq_true rfl, Nat.le_of_ble_eq_true rfl, rfl, rfl⟩
  · obtain ⟨rfl, rfl⟩ := hf; rfl
  · obtain ⟨w1, ⟨rfl, rfl⟩, rfl⟩ := hf; exact ⟨rfl, t, kd, nu, k, ic, rfl⟩

set_option maxHeartbeats 4000000 in
set_option maxRecDepth 100000 in
theorem L4_back_none (D : DX) (O : Nat) (X E F Y Z V : Nat → Nat) (P G : Nat → Nat → Nat) (s sg : SS) (n : Nat) (h : Nat → SS) (nw kn : Nat) (tk wh : SS) (m : Nat) (kp : SS) (g : Nat → SS) (pa kt : SS) (e : Nat) (he : e < 2) (hk : kp e = 0) : ∀ wC, CE D O X E F Y Z V P G (s, sg, n, h, nw, kn, tk, wh, m, kp, g, pa, kt) wC → ∃ rm, Ct D yX4_back cX4_back 2 (some .int) rm [.ref O, .int (nI e)] wC (fun v_ u_ => v_ = some (.int (-2)) ∧ CE D O X E F Y Z V P G (s, sg, n, h, nw, kn, tk, wh, m, kp, g, pa, kt) u_) ∧ RB rm := by
  intro wC hC
  obtain ⟨t, kd, nu, k, ic, rfl⟩ := hC
  refine ⟨_, (Ct.frame (c_X4_back_none O X E F Y Z V G kp s s e he hk) [0, 50, 61] rfl rfl (fun v w1 hf => ?_)).weaken (fun v w' hf => ?_), Nat.le_of_ble_eq_true rfl, Nat.le_of_ble_eq_true rfl, rfl, rfl⟩
  · obtain ⟨rfl, rfl⟩ := hf; rfl
  · obtain ⟨w1, ⟨rfl, rfl⟩, rfl⟩ := hf; exact ⟨rfl, t, kd, nu, k, ic, rfl⟩

set_option maxHeartbeats 4000000 in
set_option maxRecDepth 100000 in
theorem L4_count (D : DX) (O : Nat) (X E F Y Z V : Nat → Nat) (P G : Nat → Nat → Nat) (s sg : SS) (n : Nat) (h : Nat → SS) (nw kn : Nat) (tk wh : SS) (m : Nat) (kp : SS) (g : Nat → SS) (pa kt : SS) (w : Int32) : ∀ wC, CE D O X E F Y Z V P G (s, sg, n, h, nw, kn, tk, wh, m, kp, g, pa, kt) wC → ∃ rm, Ct D yX4_count cX4_count 2 (some .int) rm [.ref O, .int w] wC (fun v_ u_ => v_ = some (.int (coF s m n kn w)) ∧ CE D O X E F Y Z V P G (s, sg, n, h, nw, kn, tk, wh, m, kp, g, pa, kt) u_) ∧ RB rm := by
  intro wC hC
  obtain ⟨t, kd, nu, k, ic, rfl⟩ := hC
  refine ⟨_, (Ct.frame (c_X4_count O X E F Y Z V s sg kd nu k n ic tk wh m P nw kn w) [0, 5, 6, 7, 8, 9, 1, 2, 3, 4, 47, 48, 49, 15, 16] rfl rfl (fun v w1 hf => ?_)).weaken (fun v w' hf => ?_), Nat.le_of_ble_eq_true rfl, Nat.le_of_ble_eq_true rfl, rfl, rfl⟩
  · obtain ⟨rfl, rfl⟩ := hf; rfl
  · obtain ⟨w1, ⟨rfl, rfl⟩, rfl⟩ := hf; exact ⟨rfl, t, kd, nu, k, ic, rfl⟩

