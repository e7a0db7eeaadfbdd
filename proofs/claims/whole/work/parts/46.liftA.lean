set_option maxHeartbeats 4000000 in
set_option maxRecDepth 100000 in
theorem L5_at (D : DX) (M : Nat → Nat) (s sg : SS) (n : Nat) (h : Nat → SS) (nw kn : Nat) (tk wh : SS) (m : Nat) (kp : SS) (g : Nat → SS) (pa kt : SS) (v : Int32) : ∀ wM, ME D M (s, sg, n, h, nw, kn, tk, wh, m, kp, g, pa, kt) wM → ∃ rm, Ct D yX5_at cX5_at 2 (some .int) rm [.ref (M 0), .int v] wM (fun v_ u_ => v_ = some (.int (atF s v)) ∧ ME D M (s, sg, n, h, nw, kn, tk, wh, m, kp, g, pa, kt) u_) ∧ RB rm := by
  intro wM hC
  obtain ⟨sp, rd, nx, pl, it, to, va, rfl⟩ := hC
  refine ⟨_, (Ct.frame (c_X5_at M (kn, m, n, nx, pl, it, to, va) s v) [0, 1] rfl rfl (fun v w1 hf => ?_)).weaken (fun v w' hf => ?_), Nat.le_of_ble_eq_true rfl, Nat.le_of_ble_eq_true rfl, rfl, rfl⟩
  · obtain ⟨rfl, rfl⟩ := hf; rfl
  · obtain ⟨w1, ⟨rfl, rfl⟩, rfl⟩ := hf; exact ⟨rfl, sp, rd, nx, pl, it, to, va, rfl⟩

set_option maxHeartbeats 4000000 in
set_option maxRecDepth 100000 in
theorem L5_channel (D : DX) (M : Nat → Nat) (s sg : SS) (n : Nat) (h : Nat → SS) (nw kn : Nat) (tk wh : SS) (m : Nat) (kp : SS) (g : Nat → SS) (pa kt : SS) (hI : Inv s) (v w : Int32) : ∀ wM, ME D M (s, sg, n, h, nw, kn, tk, wh, m, kp, g, pa, kt) wM → ∃ rm, Ct D yX5_channel cX5_channel 4 (some .int) rm [.ref (M 0), .int v, .int w] wM (fun v_ u_ => v_ = some (.int (chF s v w)) ∧ ME D M (s, sg, n, h, nw, kn, tk, wh, m, kp, g, pa, kt) u_) ∧ RB rm := by
  intro wM hC
  obtain ⟨sp, rd, nx, pl, it, to, va, rfl⟩ := hC
  refine ⟨_, (Ct.frame (c_X5_channel M (kn, m, n, nx, pl, it, to, va) s hI v w) [0, 1] rfl rfl (fun v w1 hf => ?_)).weaken (fun v w' hf => ?_), Nat.le_of_ble_eq_true rfl, Nat.le_of_ble_eq_true rfl, rfl, rfl⟩
  · obtain ⟨rfl, rfl⟩ := hf; rfl
  · obtain ⟨w1, ⟨rfl, rfl⟩, rfl⟩ := hf; exact ⟨rfl, sp, rd, nx, pl, it, to, va, rfl⟩

set_option maxHeartbeats 4000000 in
set_option maxRecDepth 100000 in
theorem L5_slot (D : DX) (M : Nat → Nat) (s sg : SS) (n : Nat) (h : Nat → SS) (nw kn : Nat) (tk wh : SS) (m : Nat) (kp : SS) (g : Nat → SS) (pa kt : SS) (hI : Inv s) (v z w : Int32) : ∀ wM, ME D M (s, sg, n, h, nw, kn, tk, wh, m, kp, g, pa, kt) wM → ∃ rm, Ct D yX5_slot cX5_slot 5 (some .int) rm [.ref (M 0), .int v, .int z, .int w] wM (fun v_ u_ => v_ = some (.int (slF s v z w)) ∧ ME D M (s, sg, n, h, nw, kn, tk, wh, m, kp, g, pa, kt) u_) ∧ RB rm := by
  intro wM hC
  obtain ⟨sp, rd, nx, pl, it, to, va, rfl⟩ := hC
  refine ⟨_, (Ct.frame (c_X5_slot M (kn, m, n, nx, pl, it, to, va) s hI v z w) [0, 1] rfl rfl (fun v w1 hf => ?_)).weaken (fun v w' hf => ?_), Nat.le_of_ble_eq_true rfl, Nat.le_of_ble_eq_true rfl, rfl, rfl⟩
  · obtain ⟨rfl, rfl⟩ := hf; rfl
  · obtain ⟨w1, ⟨rfl, rfl⟩, rfl⟩ := hf; exact ⟨rfl, sp, rd, nx, pl, it, to, va, rfl⟩

set_option maxHeartbeats 4000000 in
set_option maxRecDepth 100000 in
theorem L5_unit (D : DX) (M : Nat → Nat) (s sg : SS) (n : Nat) (h : Nat → SS) (nw kn : Nat) (tk wh : SS) (m : Nat) (kp : SS) (g : Nat → SS) (pa kt : SS) (hI : Inv s) (v z c w : Int32) : ∀ wM, ME D M (s, sg, n, h, nw, kn, tk, wh, m, kp, g, pa, kt) wM → ∃ rm, Ct D yX5_unit cX5_unit 6 (some .int) rm [.ref (M 0), .int v, .int z, .int c, .int w] wM (fun v_ u_ => v_ = some (.int (uiF s v z c w)) ∧ ME D M (s, sg, n, h, nw, kn, tk, wh, m, kp, g, pa, kt) u_) ∧ RB rm := by
  intro wM hC
  obtain ⟨sp, rd, nx, pl, it, to, va, rfl⟩ := hC
  refine ⟨_, (Ct.frame (c_X5_unit M (kn, m, n, nx, pl, it, to, va) s hI v z c w) [0, 1] rfl rfl (fun v w1 hf => ?_)).weaken (fun v w' hf => ?_), Nat.le_of_ble_eq_true rfl, Nat.le_of_ble_eq_true rfl, rfl, rfl⟩
  · obtain ⟨rfl, rfl⟩ := hf; rfl
  · obtain ⟨w1, ⟨rfl, rfl⟩, rfl⟩ := hf; exact ⟨rfl, sp, rd, nx, pl, it, to, va, rfl⟩

set_option maxHeartbeats 4000000 in
set_option maxRecDepth 100000 in
theorem L5_waiting (D : DX) (M : Nat → Nat) (s sg : SS) (n : Nat) (h : Nat → SS) (nw kn : Nat) (tk wh : SS) (m : Nat) (kp : SS) (g : Nat → SS) (pa kt : SS) (hI : Inv s) (v : Int32) : ∀ wM, ME D M (s, sg, n, h, nw, kn, tk, wh, m, kp, g, pa, kt) wM → ∃ rm, Ct D yX5_waiting cX5_waiting 2 (some .int) rm [.ref (M 0), .int v] wM (fun v_ u_ => v_ = some (.int (waA s v)) ∧ ME D M (s, sg, n, h, nw, kn, tk, wh, m, kp, g, pa, kt) u_) ∧ RB rm := by
  intro wM hC
  obtain ⟨sp, rd, nx, pl, it, to, va, rfl⟩ := hC
  refine ⟨_, (Ct.frame (c_X5_waiting M (kn, m, n, nx, pl, it, to, va) s hI v) [0, 1] rfl rfl (fun v w1 hf => ?_)).weaken (fun v w' hf => ?_), Nat.le_of_ble_eq_true rfl, Nat.le_of_ble_eq_true rfl, rfl, rfl⟩
  · obtain ⟨rfl, rfl⟩ := hf; rfl
  · obtain ⟨w1, ⟨rfl, rfl⟩, rfl⟩ := hf; exact ⟨rfl, sp, rd, nx, pl, it, to, va, rfl⟩

set_option maxHeartbeats 4000000 in
set_option maxRecDepth 100000 in
theorem L5_lands (D : DX) (M : Nat → Nat) (s sg : SS) (n : Nat) (h : Nat → SS) (nw kn : Nat) (tk wh : SS) (m : Nat) (kp : SS) (g : Nat → SS) (pa kt : SS) (hI : Inv s) (v : Int32) : ∀ wM, ME D M (s, sg, n, h, nw, kn, tk, wh, m, kp, g, pa, kt) wM → ∃ rm, Ct D yX5_lands cX5_lands 6 (some .int) rm [.ref (M 0), .int v] wM (fun v_ u_ => v_ = some (.int (lnF s v)) ∧ ME D M (s, sg, n, h, nw, kn, tk, wh, m, kp, g, pa, kt) u_) ∧ RB rm := by
  intro wM hC
  obtain ⟨sp, rd, nx, pl, it, to, va, rfl⟩ := hC
  refine ⟨_, (Ct.frame (c_X5_lands M (kn, m, n, nx, pl, it, to, va) s hI v) [0, 1] rfl rfl (fun v w1 hf => ?_)).weaken (fun v w' hf => ?_), Nat.le_of_ble_eq_true rfl, Nat.le_of_ble_eq_true rfl, rfl, rfl⟩
  · obtain ⟨rfl, rfl⟩ := hf; rfl
  · obtain ⟨w1, ⟨rfl, rfl⟩, rfl⟩ := hf; exact ⟨rfl, sp, rd, nx, pl, it, to, va, rfl⟩

set_option maxHeartbeats 4000000 in
set_option maxRecDepth 100000 in
theorem L5_both (D : DX) (M : Nat → Nat) (s sg : SS) (n : Nat) (h : Nat → SS) (nw kn : Nat) (tk wh : SS) (m : Nat) (kp : SS) (g : Nat → SS) (pa kt : SS) (hI : Inv s) (v z w c : Int32) : ∀ wM, ME D M (s, sg, n, h, nw, kn, tk, wh, m, kp, g, pa, kt) wM → ∃ rm, Ct D yX5_both cX5_both 11 (some .int) rm [.ref (M 0), .int v, .int z, .int w, .int c] wM (fun v_ u_ => v_ = some (.int (boF s v z w c)) ∧ ME D M (s, sg, n, h, nw, kn, tk, wh, m, kp, g, pa, kt) u_) ∧ RB rm := by
  intro wM hC
  obtain ⟨sp, rd, nx, pl, it, to, va, rfl⟩ := hC
  refine ⟨_, (Ct.frame (c_X5_both M (kn, m, n, nx, pl, it, to, va) s hI v z w c) [0, 1] rfl rfl (fun v w1 hf => ?_)).weaken (fun v w' hf => ?_), Nat.le_of_ble_eq_true rfl, Nat.le_of_ble_eq_true rfl, rfl, rfl⟩
  · obtain ⟨rfl, rfl⟩ := hf; rfl
  · obtain ⟨w1, ⟨rfl, rfl⟩, rfl⟩ := hf; exact ⟨rfl, sp, rd, nx, pl, it, to, va, rfl⟩

set_option maxHeartbeats 4000000 in
set_option maxRecDepth 100000 in
theorem L5_type_bad (D : DX) (M : Nat → Nat) (s sg : SS) (n : Nat) (h : Nat → SS) (nw kn : Nat) (tk wh : SS) (m : Nat) (kp : SS) (g : Nat → SS) (pa kt : SS) (v : Int32) (hb : inR v (nI 0) (nI 255) = false) : ∀ wM, ME D M (s, sg, n, h, nw, kn, tk, wh, m, kp, g, pa, kt) wM → ∃ rm, Ct D yX5_type cX5_type 2 (some .int) rm [.ref (M 0), .int v] wM (fun v_ u_ => v_ = some (.int (-1)) ∧ ME D M (s, sg, n, h, nw, kn, tk, wh, m, kp, g, pa, kt) u_) ∧ RB rm := by
  intro wM hC
  obtain ⟨sp, rd, nx, pl, it, to, va, rfl⟩ := hC
  refine ⟨_, (Ct.frame (c_X5_type_bad M (kn, m, n, nx, pl, it, to, va) v hb) [0] rfl rfl (fun v w1 hf => ?_)).weaken (fun v w' hf => ?_), Nat.le_of_ble_eq_true rfl, Nat.le_of_ble_eq_true rfl, rfl, rfl⟩
  · obtain ⟨rfl, rfl⟩ := hf; rfl
  · obtain ⟨w1, ⟨rfl, rfl⟩, rfl⟩ := hf; exact ⟨rfl, sp, rd, nx, pl, it, to, va, rfl⟩

set_option maxHeartbeats 4000000 in
set_option maxRecDepth 100000 in
theorem L5_type_full (D : DX) (M : Nat → Nat) (s sg : SS) (n : Nat) (h : Nat → SS) (nw kn : Nat) (tk wh : SS) (m : Nat) (kp : SS) (g : Nat → SS) (pa kt : SS) (v : Int32) (hb : inR v (nI 0) (nI 255) = true) (hn : n = 120) : ∀ wM, ME D M (s, sg, n, h, nw, kn, tk, wh, m, kp, g, pa, kt) wM → ∃ rm, Ct D yX5_type cX5_type 2 (some .int) rm [.ref (M 0), .int v] wM (fun v_ u_ => v_ = some (.int (-3)) ∧ ME D M (s, sg, n, h, nw, kn, tk, wh, m, kp, g, pa, kt) u_) ∧ RB rm := by
  intro wM hC
  obtain ⟨sp, rd, nx, pl, it, to, va, rfl⟩ := hC
  refine ⟨_, (Ct.frame (c_X5_type_full M kn m n (nx, pl, it, to, va) sg v hb hn) [0, 8] rfl rfl (fun v w1 hf => ?_)).weaken (fun v w' hf => ?_), Nat.le_of_ble_eq_true rfl, Nat.le_of_ble_eq_true rfl, rfl, rfl⟩
  · obtain ⟨rfl, rfl⟩ := hf; rfl
  · obtain ⟨w1, ⟨rfl, rfl⟩, rfl⟩ := hf; exact ⟨rfl, sp, rd, nx, pl, it, to, va, rfl⟩

set_option maxHeartbeats 4000000 in
set_option maxRecDepth 100000 in
theorem L5_type_ok (D : DX) (M : Nat → Nat) (s sg : SS) (n : Nat) (h : Nat → SS) (nw kn : Nat) (tk wh : SS) (m : Nat) (kp : SS) (g : Nat → SS) (pa kt : SS) (v : Int32) (hb : inR v (nI 0) (nI 255) = true) (hn : n < 120) : ∀ wM, ME D M (s, sg, n, h, nw, kn, tk, wh, m, kp, g, pa, kt) wM → ∃ rm, Ct D yX5_type cX5_type 2 (some .int) rm [.ref (M 0), .int v] wM (fun v_ u_ => v_ = some (.int (nI (n + 1))) ∧ ME D M (s, upd sg n v, n + 1, h, nw, kn, tk, wh, m, kp, g, pa, kt) u_) ∧ RB rm := by
  intro wM hC
  obtain ⟨sp, rd, nx, pl, it, to, va, rfl⟩ := hC
  refine ⟨_, (Ct.frame (c_X5_type_ok M kn m n (nx, pl, it, to, va) sg v hb hn) [0, 8] rfl rfl (fun v w1 hf => ?_)).weaken (fun v w' hf => ?_), Nat.le_of_ble_eq_true rfl, Nat.le_of_ble_eq_true rfl, rfl, rfl⟩
  · obtain ⟨rfl, rfl⟩ := hf; rfl
  · obtain ⟨w1, ⟨rfl, rfl⟩, rfl⟩ := hf; exact ⟨rfl, sp, rd, nx, pl, it, to, va, rfl⟩

set_option maxHeartbeats 4000000 in
set_option maxRecDepth 100000 in
theorem L5_clear (D : DX) (M : Nat → Nat) (s sg : SS) (n : Nat) (h : Nat → SS) (nw kn : Nat) (tk wh : SS) (m : Nat) (kp : SS) (g : Nat → SS) (pa kt : SS)  : ∀ wM, ME D M (s, sg, n, h, nw, kn, tk, wh, m, kp, g, pa, kt) wM → ∃ rm, Ct D yX5_clear cX5_clear 2 (some .int) rm [.ref (M 0)] wM (fun v_ u_ => v_ = some (.int (nI n)) ∧ ME D M (s, sg, 0, h, nw, kn, tk, wh, m, kp, g, pa, kt) u_) ∧ RB rm := by
  intro wM hC
  obtain ⟨sp, rd, nx, pl, it, to, va, rfl⟩ := hC
  refine ⟨_, (Ct.frame (c_X5_clear M kn m n (nx, pl, it, to, va)) [0] rfl rfl (fun v w1 hf => ?_)).weaken (fun v w' hf => ?_), Nat.le_of_ble_eq_true rfl, Nat.le_of_ble_eq_true rfl, rfl, rfl⟩
  · obtain ⟨rfl, rfl⟩ := hf; rfl
  · obtain ⟨w1, ⟨rfl, rfl⟩, rfl⟩ := hf; exact ⟨rfl, sp, rd, nx, pl, it, to, va, rfl⟩

set_option maxHeartbeats 4000000 in
set_option maxRecDepth 100000 in
theorem L5_posts_fault (D : DX) (M : Nat → Nat) (s sg : SS) (n : Nat) (h : Nat → SS) (nw kn : Nat) (tk wh : SS) (m : Nat) (kp : SS) (g : Nat → SS) (pa kt : SS) (hn : n ≤ 120) (hs : SgOk sg n) (f : Nat) (hp : (prA sg n).1 = some f) : ∀ wM, ME D M (s, sg, n, h, nw, kn, tk, wh, m, kp, g, pa, kt) wM → ∃ rm, Ct D yX5_posts cX5_posts 1 (some .int) rm [.ref (M 0)] wM (fun v_ u_ => v_ = some (.int ((-10) - nI f)) ∧ ME D M (s, sg, n, h, nw, kn, tk, wh, m, kp, g, pa, kt) u_) ∧ RB rm := by
  intro wM hC
  obtain ⟨sp, rd, nx, pl, it, to, va, rfl⟩ := hC
  refine ⟨_, (Ct.frame (c_X5_posts_fault M kn m n nx pl it to va sg rd hn hs f hp) [0, 8, 9] rfl rfl (fun v w1 hf => ?_)).weaken (fun v w' hf => ?_), Nat.le_of_ble_eq_true rfl, Nat.le_of_ble_eq_true rfl, rfl, rfl⟩
  · obtain ⟨rfl, nx1, pl1, it1, to1, va1, rd1, rfl⟩ := hf; rfl
  · obtain ⟨w1, ⟨rfl, nx1, pl1, it1, to1, va1, rd1, rfl⟩, rfl⟩ := hf; exact ⟨rfl, sp, rd1, nx1, pl1, it1, to1, va1, rfl⟩

set_option maxHeartbeats 4000000 in
set_option maxRecDepth 100000 in
theorem L5_posts_full (D : DX) (M : Nat → Nat) (s sg : SS) (n : Nat) (h : Nat → SS) (nw kn : Nat) (tk wh : SS) (m : Nat) (kp : SS) (g : Nat → SS) (pa kt : SS) (hn : n ≤ 120) (hs : SgOk sg n) (hI : Inv s) (hp : (prA sg n).1 = none) (hA : okA sg n s (prA sg n).2 = false) : ∀ wM, ME D M (s, sg, n, h, nw, kn, tk, wh, m, kp, g, pa, kt) wM → ∃ rm, Ct D yX5_posts cX5_posts 1 (some .int) rm [.ref (M 0)] wM (fun v_ u_ => v_ = some (.int (-3)) ∧ ME D M (s, sg, n, h, nw, kn, tk, wh, m, kp, g, pa, kt) u_) ∧ RB rm := by
  intro wM hC
  obtain ⟨sp, rd, nx, pl, it, to, va, rfl⟩ := hC
  refine ⟨_, (Ct.frame (c_X5_posts_full M kn m n nx pl it to va sg rd hn hs s sp hI hp hA) [0, 8, 9, 1, 5] rfl rfl (fun v w1 hf => ?_)).weaken (fun v w' hf => ?_), Nat.le_of_ble_eq_true rfl, Nat.le_of_ble_eq_true rfl, rfl, rfl⟩
  · obtain ⟨rfl, nx1, pl1, it1, to1, va1, rd1, rfl⟩ := hf; rfl
  · obtain ⟨w1, ⟨rfl, nx1, pl1, it1, to1, va1, rd1, rfl⟩, rfl⟩ := hf; exact ⟨rfl, s, rd1, nx1, pl1, it1, to1, va1, rfl⟩

set_option maxHeartbeats 4000000 in
set_option maxRecDepth 100000 in
theorem L5_posts_ok (D : DX) (M : Nat → Nat) (s sg : SS) (n : Nat) (h : Nat → SS) (nw kn : Nat) (tk wh : SS) (m : Nat) (kp : SS) (g : Nat → SS) (pa kt : SS) (hn : n ≤ 120) (hs : SgOk sg n) (hI : Inv s) (hp : (prA sg n).1 = none) (hA : okA sg n s (prA sg n).2 = true) (hkn : kn ≤ 6) : ∀ wM, ME D M (s, sg, n, h, nw, kn, tk, wh, m, kp, g, pa, kt) wM → ∃ rm, Ct D yX5_posts cX5_posts 1 (some .int) rm [.ref (M 0)] wM (fun v_ u_ => v_ = some (.int (nI (prA sg n).2)) ∧ ME D M (doN sg n s (prA sg n).2, sg, 0, hup h ((nw + 1) % 6) s, (nw + 1) % 6, min (kn + 1) 6, tk, wh, m, kp, g, rmF pa kn s, kt) u_) ∧ RB rm := by
  intro wM hC
  obtain ⟨sp, rd, nx, pl, it, to, va, rfl⟩ := hC
  refine ⟨_, (Ct.frame (c_X5_posts_ok M kn m n nx pl it to va sg rd hn hs s sp pa hI hp hA hkn) [0, 8, 9, 1, 5, 2] rfl rfl (fun v w1 hf => ?_)).weaken (fun v w' hf => ?_), Nat.le_of_ble_eq_true rfl, Nat.le_of_ble_eq_true rfl, rfl, rfl⟩
  · obtain ⟨rfl, nx1, pl1, it1, to1, va1, rd1, rfl⟩ := hf; rfl
  · obtain ⟨w1, ⟨rfl, nx1, pl1, it1, to1, va1, rd1, rfl⟩, rfl⟩ := hf; exact ⟨rfl, s, rd1, nx1, pl1, it1, to1, va1, rfl⟩

set_option maxHeartbeats 4000000 in
set_option maxRecDepth 100000 in
theorem L5_ticks_bad (D : DX) (M : Nat → Nat) (s sg : SS) (n : Nat) (h : Nat → SS) (nw kn : Nat) (tk wh : SS) (m : Nat) (kp : SS) (g : Nat → SS) (pa kt : SS) (v : Int32) (hb : inR v (nI 1) (nI 40) = false) : ∀ wM, ME D M (s, sg, n, h, nw, kn, tk, wh, m, kp, g, pa, kt) wM → ∃ rm, Ct D yX5_ticks cX5_ticks 4 (some .int) rm [.ref (M 0), .int v] wM (fun v_ u_ => v_ = some (.int (-1)) ∧ ME D M (s, sg, n, h, nw, kn, tk, wh, m, kp, g, pa, kt) u_) ∧ RB rm := by
  intro wM hC
  obtain ⟨sp, rd, nx, pl, it, to, va, rfl⟩ := hC
  refine ⟨_, (Ct.frame (c_X5_ticks_bad M (kn, m, n, nx, pl, it, to, va) v hb) [0] rfl rfl (fun v w1 hf => ?_)).weaken (fun v w' hf => ?_), Nat.le_of_ble_eq_true rfl, Nat.le_of_ble_eq_true rfl, rfl, rfl⟩
  · obtain ⟨rfl, rfl⟩ := hf; rfl
  · obtain ⟨w1, ⟨rfl, rfl⟩, rfl⟩ := hf; exact ⟨rfl, sp, rd, nx, pl, it, to, va, rfl⟩

set_option maxHeartbeats 4000000 in
set_option maxRecDepth 100000 in
theorem L5_ticks_ok (D : DX) (M : Nat → Nat) (s sg : SS) (n : Nat) (h : Nat → SS) (nw kn : Nat) (tk wh : SS) (m : Nat) (kp : SS) (g : Nat → SS) (pa kt : SS) (hI : Inv s) (hkn : kn ≤ 6) (q : Nat) (hq : 1 ≤ q ∧ q ≤ 40) : ∀ wM, ME D M (s, sg, n, h, nw, kn, tk, wh, m, kp, g, pa, kt) wM → ∃ rm, Ct D yX5_ticks cX5_ticks 4 (some .int) rm [.ref (M 0), .int (nI q)] wM (fun v_ u_ => v_ = some (.int (nI (gcn s q))) ∧ ME D M (itk true s q, sg, n, hup h ((nw + 1) % 6) s, (nw + 1) % 6, min (kn + 1) 6, tk, wh, m, kp, g, rmF pa kn s, kt) u_) ∧ RB rm := by
  intro wM hC
  obtain ⟨sp, rd, nx, pl, it, to, va, rfl⟩ := hC
  refine ⟨_, (Ct.frame (c_X5_ticks_ok M kn (m, n, nx, pl, it, to, va) s pa sp hkn hI q hq) [0, 1, 2, 5] rfl rfl (fun v w1 hf => ?_)).weaken (fun v w' hf => ?_), Nat.le_of_ble_eq_true rfl, Nat.le_of_ble_eq_true rfl, rfl, rfl⟩
  · obtain ⟨rfl, rfl⟩ := hf; rfl
  · obtain ⟨w1, ⟨rfl, rfl⟩, rfl⟩ := hf; exact ⟨rfl, s, rd, nx, pl, it, to, va, rfl⟩

set_option maxHeartbeats 4000000 in
set_option maxRecDepth 100000 in
theorem L5_cancels_bad (D : DX) (M : Nat → Nat) (s sg : SS) (n : Nat) (h : Nat → SS) (nw kn : Nat) (tk wh : SS) (m : Nat) (kp : SS) (g : Nat → SS) (pa kt : SS) (v : Int32) (hb : inR v (nI 0) (nI 3) = false) : ∀ wM, ME D M (s, sg, n, h, nw, kn, tk, wh, m, kp, g, pa, kt) wM → ∃ rm, Ct D yX5_cancels cX5_cancels 6 (some .int) rm [.ref (M 0), .int v] wM (fun v_ u_ => v_ = some (.int (-1)) ∧ ME D M (s, sg, n, h, nw, kn, tk, wh, m, kp, g, pa, kt) u_) ∧ RB rm := by
  intro wM hC
  obtain ⟨sp, rd, nx, pl, it, to, va, rfl⟩ := hC
  refine ⟨_, (Ct.frame (c_X5_cancels_bad M (kn, m, n, nx, pl, it, to, va) v hb) [0] rfl rfl (fun v w1 hf => ?_)).weaken (fun v w' hf => ?_), Nat.le_of_ble_eq_true rfl, Nat.le_of_ble_eq_true rfl, rfl, rfl⟩
  · obtain ⟨rfl, rfl⟩ := hf; rfl
  · obtain ⟨w1, ⟨rfl, rfl⟩, rfl⟩ := hf; exact ⟨rfl, sp, rd, nx, pl, it, to, va, rfl⟩

set_option maxHeartbeats 4000000 in
set_option maxRecDepth 100000 in
theorem L5_cancels_none (D : DX) (M : Nat → Nat) (s sg : SS) (n : Nat) (h : Nat → SS) (nw kn : Nat) (tk wh : SS) (m : Nat) (kp : SS) (g : Nat → SS) (pa kt : SS) (hI : Inv s) (c : Nat) (hc : c < 4) (ht : tc s (pl s c) = false) : ∀ wM, ME D M (s, sg, n, h, nw, kn, tk, wh, m, kp, g, pa, kt) wM → ∃ rm, Ct D yX5_cancels cX5_cancels 6 (some .int) rm [.ref (M 0), .int (nI c)] wM (fun v_ u_ => v_ = some (.int (-2)) ∧ ME D M (s, sg, n, h, nw, kn, tk, wh, m, kp, g, pa, kt) u_) ∧ RB rm := by
  intro wM hC
  obtain ⟨sp, rd, nx, pl, it, to, va, rfl⟩ := hC
  refine ⟨_, (Ct.frame (c_X5_cancels_none M (kn, m, n, nx, pl, it, to, va) s hI c hc ht) [0, 1] rfl rfl (fun v w1 hf => ?_)).weaken (fun v w' hf => ?_), Nat.le_of_ble_eq_true rfl, Nat.le_of_ble_eq_true rfl, rfl, rfl⟩
  · obtain ⟨rfl, rfl⟩ := hf; rfl
  · obtain ⟨w1, ⟨rfl, rfl⟩, rfl⟩ := hf; exact ⟨rfl, sp, rd, nx, pl, it, to, va, rfl⟩

set_option maxHeartbeats 4000000 in
set_option maxRecDepth 100000 in
theorem L5_cancels_ok (D : DX) (M : Nat → Nat) (s sg : SS) (n : Nat) (h : Nat → SS) (nw kn : Nat) (tk wh : SS) (m : Nat) (kp : SS) (g : Nat → SS) (pa kt : SS) (hI : Inv s) (hkn : kn ≤ 6) (c : Nat) (hc : c < 4) (ht : tc s (pl s c) = true) : ∀ wM, ME D M (s, sg, n, h, nw, kn, tk, wh, m, kp, g, pa, kt) wM → ∃ rm, Ct D yX5_cancels cX5_cancels 6 (some .int) rm [.ref (M 0), .int (nI c)] wM (fun v_ u_ => v_ = some (.int (cnA s c)) ∧ ME D M (cnF s c, sg, n, hup h ((nw + 1) % 6) s, (nw + 1) % 6, min (kn + 1) 6, tk, wh, m, kp, g, rmF pa kn s, kt) u_) ∧ RB rm := by
  intro wM hC
  obtain ⟨sp, rd, nx, pl, it, to, va, rfl⟩ := hC
  refine ⟨_, (Ct.frame (c_X5_cancels_ok M kn (m, n, nx, pl, it, to, va) s pa sp hkn hI c hc ht) [0, 1, 2, 5] rfl rfl (fun v w1 hf => ?_)).weaken (fun v w' hf => ?_), Nat.le_of_ble_eq_true rfl, Nat.le_of_ble_eq_true rfl, rfl, rfl⟩
  · obtain ⟨rfl, rfl⟩ := hf; rfl
  · obtain ⟨w1, ⟨rfl, rfl⟩, rfl⟩ := hf; exact ⟨rfl, s, rd, nx, pl, it, to, va, rfl⟩

set_option maxHeartbeats 4000000 in
set_option maxRecDepth 100000 in
theorem L5_switches_bad (D : DX) (M : Nat → Nat) (s sg : SS) (n : Nat) (h : Nat → SS) (nw kn : Nat) (tk wh : SS) (m : Nat) (kp : SS) (g : Nat → SS) (pa kt : SS) (v : Int32) (hb : inR v (nI 0) (nI 3) = false) : ∀ wM, ME D M (s, sg, n, h, nw, kn, tk, wh, m, kp, g, pa, kt) wM → ∃ rm, Ct D yX5_switches cX5_switches 3 (some .int) rm [.ref (M 0), .int v] wM (fun v_ u_ => v_ = some (.int (-1)) ∧ ME D M (s, sg, n, h, nw, kn, tk, wh, m, kp, g, pa, kt) u_) ∧ RB rm := by
  intro wM hC
  obtain ⟨sp, rd, nx, pl, it, to, va, rfl⟩ := hC
  refine ⟨_, (Ct.frame (c_X5_switches_bad M (kn, m, n, nx, pl, it, to, va) v hb) [0] rfl rfl (fun v w1 hf => ?_)).weaken (fun v w' hf => ?_), Nat.le_of_ble_eq_true rfl, Nat.le_of_ble_eq_true rfl, rfl, rfl⟩
  · obtain ⟨rfl, rfl⟩ := hf; rfl
  · obtain ⟨w1, ⟨rfl, rfl⟩, rfl⟩ := hf; exact ⟨rfl, sp, rd, nx, pl, it, to, va, rfl⟩

set_option maxHeartbeats 4000000 in
set_option maxRecDepth 100000 in
theorem L5_switches_ok (D : DX) (M : Nat → Nat) (s sg : SS) (n : Nat) (h : Nat → SS) (nw kn : Nat) (tk wh : SS) (m : Nat) (kp : SS) (g : Nat → SS) (pa kt : SS) (hI : Inv s) (hkn : kn ≤ 6) (c : Nat) (hc : c < 4) : ∀ wM, ME D M (s, sg, n, h, nw, kn, tk, wh, m, kp, g, pa, kt) wM → ∃ rm, Ct D yX5_switches cX5_switches 3 (some .int) rm [.ref (M 0), .int (nI c)] wM (fun v_ u_ => v_ = some (.int (nI 1 - gC s c 0)) ∧ ME D M (upd s (64 + 7 * c + 0) (nI 1 - gC s c 0), sg, n, hup h ((nw + 1) % 6) s, (nw + 1) % 6, min (kn + 1) 6, tk, wh, m, kp, g, rmF pa kn s, kt) u_) ∧ RB rm := by
  intro wM hC
  obtain ⟨sp, rd, nx, pl, it, to, va, rfl⟩ := hC
  refine ⟨_, (Ct.frame (c_X5_switches_ok M kn (m, n, nx, pl, it, to, va) s pa sp hkn hI c hc) [0, 1, 2, 5] rfl rfl (fun v w1 hf => ?_)).weaken (fun v w' hf => ?_), Nat.le_of_ble_eq_true rfl, Nat.le_of_ble_eq_true rfl, rfl, rfl⟩
  · obtain ⟨rfl, rfl⟩ := hf; rfl
  · obtain ⟨w1, ⟨rfl, rfl⟩, rfl⟩ := hf; exact ⟨rfl, s, rd, nx, pl, it, to, va, rfl⟩

set_option maxHeartbeats 4000000 in
set_option maxRecDepth 100000 in
theorem L5_tunes_bad (D : DX) (M : Nat → Nat) (s sg : SS) (n : Nat) (h : Nat → SS) (nw kn : Nat) (tk wh : SS) (m : Nat) (kp : SS) (g : Nat → SS) (pa kt : SS) (v w z : Int32) (hb : ¬ (inR v (nI 0) (nI 3) = true ∧ inR w (nI 0) (nI 3) = true ∧ inR z (nI 1) (nI 8) = true)) : ∀ wM, ME D M (s, sg, n, h, nw, kn, tk, wh, m, kp, g, pa, kt) wM → ∃ rm, Ct D yX5_tunes cX5_tunes 5 (some .int) rm [.ref (M 0), .int v, .int w, .int z] wM (fun v_ u_ => v_ = some (.int (-1)) ∧ ME D M (s, sg, n, h, nw, kn, tk, wh, m, kp, g, pa, kt) u_) ∧ RB rm := by
  intro wM hC
  obtain ⟨sp, rd, nx, pl, it, to, va, rfl⟩ := hC
  refine ⟨_, (Ct.frame (c_X5_tunes_bad M (kn, m, n, nx, pl, it, to, va) v w z hb) [0] rfl rfl (fun v w1 hf => ?_)).weaken (fun v w' hf => ?_), Nat.le_of_ble_eq_true rfl, Nat.le_of_ble_eq_true rfl, rfl, rfl⟩
  · obtain ⟨rfl, rfl⟩ := hf; rfl
  · obtain ⟨w1, ⟨rfl, rfl⟩, rfl⟩ := hf; exact ⟨rfl, sp, rd, nx, pl, it, to, va, rfl⟩

set_option maxHeartbeats 4000000 in
set_option maxRecDepth 100000 in
theorem L5_tunes_same (D : DX) (M : Nat → Nat) (s sg : SS) (n : Nat) (h : Nat → SS) (nw kn : Nat) (tk wh : SS) (m : Nat) (kp : SS) (g : Nat → SS) (pa kt : SS) (c r b : Nat) (hc : c < 4) (hr : r < 4) (hb : 1 ≤ b ∧ b ≤ 8) (h1 : gC s c 1 = nI r) (h2 : gC s c 2 = nI b) : ∀ wM, ME D M (s, sg, n, h, nw, kn, tk, wh, m, kp, g, pa, kt) wM → ∃ rm, Ct D yX5_tunes cX5_tunes 5 (some .int) rm [.ref (M 0), .int (nI c), .int (nI r), .int (nI b)] wM (fun v_ u_ => v_ = some (.int (-2)) ∧ ME D M (s, sg, n, h, nw, kn, tk, wh, m, kp, g, pa, kt) u_) ∧ RB rm := by
  intro wM hC
  obtain ⟨sp, rd, nx, pl, it, to, va, rfl⟩ := hC
  refine ⟨_, (Ct.frame (c_X5_tunes_same M (kn, m, n, nx, pl, it, to, va) s c r b hc hr hb h1 h2) [0, 1] rfl rfl (fun v w1 hf => ?_)).weaken (fun v w' hf => ?_), Nat.le_of_ble_eq_true rfl, Nat.le_of_ble_eq_true rfl, rfl, rfl⟩
  · obtain ⟨rfl, rfl⟩ := hf; rfl
  · obtain ⟨w1, ⟨rfl, rfl⟩, rfl⟩ := hf; exact ⟨rfl, sp, rd, nx, pl, it, to, va, rfl⟩

set_option maxHeartbeats 4000000 in
set_option maxRecDepth 100000 in
theorem L5_tunes_ok (D : DX) (M : Nat → Nat) (s sg : SS) (n : Nat) (h : Nat → SS) (nw kn : Nat) (tk wh : SS) (m : Nat) (kp : SS) (g : Nat → SS) (pa kt : SS) (hI : Inv s) (hkn : kn ≤ 6) (c r b : Nat) (hc : c < 4) (hr : r < 4) (hb : 1 ≤ b ∧ b ≤ 8) (hd : ¬ (gC s c 1 = nI r ∧ gC s c 2 = nI b)) : ∀ wM, ME D M (s, sg, n, h, nw, kn, tk, wh, m, kp, g, pa, kt) wM → ∃ rm, Ct D yX5_tunes cX5_tunes 5 (some .int) rm [.ref (M 0), .int (nI c), .int (nI r), .int (nI b)] wM (fun v_ u_ => v_ = some (.int (nI 1)) ∧ ME D M (upd (upd s (64 + 7 * c + 1) (nI r)) (64 + 7 * c + 2) (nI b), sg, n, hup h ((nw + 1) % 6) s, (nw + 1) % 6, min (kn + 1) 6, tk, wh, m, kp, g, rmF pa kn s, kt) u_) ∧ RB rm := by
  intro wM hC
  obtain ⟨sp, rd, nx, pl, it, to, va, rfl⟩ := hC
  refine ⟨_, (Ct.frame (c_X5_tunes_ok M kn (m, n, nx, pl, it, to, va) s pa sp hkn hI c r b hc hr hb hd) [0, 1, 2, 5] rfl rfl (fun v w1 hf => ?_)).weaken (fun v w' hf => ?_), Nat.le_of_ble_eq_true rfl, Nat.le_of_ble_eq_true rfl, rfl, rfl⟩
  · obtain ⟨rfl, rfl⟩ := hf; rfl
  · obtain ⟨w1, ⟨rfl, rfl⟩, rfl⟩ := hf; exact ⟨rfl, s, rd, nx, pl, it, to, va, rfl⟩

set_option maxHeartbeats 4000000 in
set_option maxRecDepth 100000 in
theorem L5_undo_none (D : DX) (M : Nat → Nat) (s sg : SS) (n : Nat) (h : Nat → SS) (nw kn : Nat) (tk wh : SS) (m : Nat) (kp : SS) (g : Nat → SS) (pa kt : SS) (hk : kn = 0) : ∀ wM, ME D M (s, sg, n, h, nw, kn, tk, wh, m, kp, g, pa, kt) wM → ∃ rm, Ct D yX5_undo cX5_undo 2 (some .int) rm [.ref (M 0)] wM (fun v_ u_ => v_ = some (.int (-2)) ∧ ME D M (s, sg, n, h, nw, kn, tk, wh, m, kp, g, pa, kt) u_) ∧ RB rm := by
  intro wM hC
  obtain ⟨sp, rd, nx, pl, it, to, va, rfl⟩ := hC
  subst hk
  refine ⟨_, (Ct.frame (c_X5_undo_none M (m, n, nx, pl, it, to, va)) [0] rfl rfl (fun v w1 hf => ?_)).weaken (fun v w' hf => ?_), Nat.le_of_ble_eq_true rfl, Nat.le_of_ble_eq_true rfl, rfl, rfl⟩
  · obtain ⟨rfl, rfl⟩ := hf; rfl
  · obtain ⟨w1, ⟨rfl, rfl⟩, rfl⟩ := hf; exact ⟨rfl, sp, rd, nx, pl, it, to, va, rfl⟩

set_option maxHeartbeats 4000000 in
set_option maxRecDepth 100000 in
theorem L5_undo_ok (D : DX) (M : Nat → Nat) (s sg : SS) (n : Nat) (h : Nat → SS) (nw kn : Nat) (tk wh : SS) (m : Nat) (kp : SS) (g : Nat → SS) (pa kt : SS) (hkn : 1 ≤ kn ∧ kn ≤ 6) (hg : ∀ j, j < 455 → pa (455 * (kn - 1) + j) = h nw j) : ∀ wM, ME D M (s, sg, n, h, nw, kn, tk, wh, m, kp, g, pa, kt) wM → ∃ rm, Ct D yX5_undo cX5_undo 2 (some .int) rm [.ref (M 0)] wM (fun v_ u_ => v_ = some (.int (nI (kn - 1))) ∧ ME D M (h nw, sg, n, h, (nw + 5) % 6, kn - 1, tk, wh, m, kp, g, pa, kt) u_) ∧ RB rm := by
  intro wM hC
  obtain ⟨sp, rd, nx, pl, it, to, va, rfl⟩ := hC
  obtain ⟨u_, rfl⟩ : ∃ u, kn = u + 1 := ⟨kn - 1, by omega⟩
  refine ⟨_, (Ct.frame (c_X5_undo_ok M u_ (m, n, nx, pl, it, to, va) s pa (h nw) (by omega) hg) [0, 1, 2] rfl rfl (fun v w1 hf => ?_)).weaken (fun v w' hf => ?_), Nat.le_of_ble_eq_true rfl, Nat.le_of_ble_eq_true rfl, rfl, rfl⟩
  · obtain ⟨rfl, rfl⟩ := hf; rfl
  · obtain ⟨w1, ⟨rfl, rfl⟩, rfl⟩ := hf; exact ⟨rfl, sp, rd, nx, pl, it, to, va, rfl⟩

set_option maxHeartbeats 4000000 in
set_option maxRecDepth 100000 in
theorem L5_over (D : DX) (M : Nat → Nat) (s sg : SS) (n : Nat) (h : Nat → SS) (nw kn : Nat) (tk wh : SS) (m : Nat) (kp : SS) (g : Nat → SS) (pa kt : SS) (hI : Inv s) (v : Int32) : ∀ wM, ME D M (s, sg, n, h, nw, kn, tk, wh, m, kp, g, pa, kt) wM → ∃ rm, Ct D yX5_over cX5_over 3 (some .int) rm [.ref (M 0), .int v] wM (fun v_ u_ => v_ = some (.int (ovA s v)) ∧ ME D M (s, sg, n, h, nw, kn, tk, wh, m, kp, g, pa, kt) u_) ∧ RB rm := by
  intro wM hC
  obtain ⟨sp, rd, nx, pl, it, to, va, rfl⟩ := hC
  refine ⟨_, (Ct.frame (c_X5_over M (kn, m, n, nx, pl, it, to, va) s sp hI v) [0, 1, 5] rfl rfl (fun v w1 hf => ?_)).weaken (fun v w' hf => ?_), Nat.le_of_ble_eq_true rfl, Nat.le_of_ble_eq_true rfl, rfl, rfl⟩
  · obtain ⟨rfl, t1, rfl⟩ := hf; rfl
  · obtain ⟨w1, ⟨rfl, t1, rfl⟩, rfl⟩ := hf; exact ⟨rfl, t1, rd, nx, pl, it, to, va, rfl⟩

set_option maxHeartbeats 4000000 in
set_option maxRecDepth 100000 in
theorem L5_enough (D : DX) (M : Nat → Nat) (s sg : SS) (n : Nat) (h : Nat → SS) (nw kn : Nat) (tk wh : SS) (m : Nat) (kp : SS) (g : Nat → SS) (pa kt : SS) (hI : Inv s) (v w : Int32) : ∀ wM, ME D M (s, sg, n, h, nw, kn, tk, wh, m, kp, g, pa, kt) wM → ∃ rm, Ct D yX5_enough cX5_enough 6 (some .int) rm [.ref (M 0), .int v, .int w] wM (fun v_ u_ => v_ = some (.int (enA s v w)) ∧ ME D M (s, sg, n, h, nw, kn, tk, wh, m, kp, g, pa, kt) u_) ∧ RB rm := by
  intro wM hC
  obtain ⟨sp, rd, nx, pl, it, to, va, rfl⟩ := hC
  refine ⟨_, (Ct.frame (c_X5_enough M (kn, m, n, nx, pl, it, to, va) s sp hI v w) [0, 1, 5] rfl rfl (fun v w1 hf => ?_)).weaken (fun v w' hf => ?_), Nat.le_of_ble_eq_true rfl, Nat.le_of_ble_eq_true rfl, rfl, rfl⟩
  · obtain ⟨rfl, t1, rfl⟩ := hf; rfl
  · obtain ⟨w1, ⟨rfl, t1, rfl⟩, rfl⟩ := hf; exact ⟨rfl, t1, rd, nx, pl, it, to, va, rfl⟩

set_option maxHeartbeats 4000000 in
set_option maxRecDepth 100000 in
theorem L5_granted (D : DX) (M : Nat → Nat) (s sg : SS) (n : Nat) (h : Nat → SS) (nw kn : Nat) (tk wh : SS) (m : Nat) (kp : SS) (g : Nat → SS) (pa kt : SS) (hI : Inv s) (v : Int32) : ∀ wM, ME D M (s, sg, n, h, nw, kn, tk, wh, m, kp, g, pa, kt) wM → ∃ rm, Ct D yX5_granted cX5_granted 4 (some .int) rm [.ref (M 0), .int v] wM (fun v_ u_ => v_ = some (.int (gnA s v)) ∧ ME D M (s, sg, n, h, nw, kn, tk, wh, m, kp, g, pa, kt) u_) ∧ RB rm := by
  intro wM hC
  obtain ⟨sp, rd, nx, pl, it, to, va, rfl⟩ := hC
  refine ⟨_, (Ct.frame (c_X5_granted M (kn, m, n, nx, pl, it, to, va) s sp hI v) [0, 1, 5] rfl rfl (fun v w1 hf => ?_)).weaken (fun v w' hf => ?_), Nat.le_of_ble_eq_true rfl, Nat.le_of_ble_eq_true rfl, rfl, rfl⟩
  · obtain ⟨rfl, t1, rfl⟩ := hf; rfl
  · obtain ⟨w1, ⟨rfl, t1, rfl⟩, rfl⟩ := hf; exact ⟨rfl, t1, rd, nx, pl, it, to, va, rfl⟩

set_option maxHeartbeats 4000000 in
set_option maxRecDepth 100000 in
theorem L5_ranks (D : DX) (M : Nat → Nat) (s sg : SS) (n : Nat) (h : Nat → SS) (nw kn : Nat) (tk wh : SS) (m : Nat) (kp : SS) (g : Nat → SS) (pa kt : SS) (hI : Inv s) (hs : SeOk tk wh m) (v : Int32) : ∀ wM, ME D M (s, sg, n, h, nw, kn, tk, wh, m, kp, g, pa, kt) wM → ∃ rm, Ct D yX5_ranks cX5_ranks 4 (some .int) rm [.ref (M 0), .int v] wM (fun v_ u_ => v_ = some (.int (rkA s tk wh m v)) ∧ ME D M (s, sg, n, h, nw, kn, tk, wh, m, kp, g, pa, kt) u_) ∧ RB rm := by
  intro wM hC
  obtain ⟨sp, rd, nx, pl, it, to, va, rfl⟩ := hC
  refine ⟨_, (Ct.frame (c_X5_ranks M kn m (n, nx, pl, it, to, va) s sp hI tk wh hs.1 v) [0, 1, 5, 6, 7] rfl rfl (fun v w1 hf => ?_)).weaken (fun v w' hf => ?_), Nat.le_of_ble_eq_true rfl, Nat.le_of_ble_eq_true rfl, rfl, rfl⟩
  · obtain ⟨rfl, t1, rfl⟩ := hf; rfl
  · obtain ⟨w1, ⟨rfl, t1, rfl⟩, rfl⟩ := hf; exact ⟨rfl, t1, rd, nx, pl, it, to, va, rfl⟩

set_option maxHeartbeats 4000000 in
set_option maxRecDepth 100000 in
theorem L5_sees_bad (D : DX) (M : Nat → Nat) (s sg : SS) (n : Nat) (h : Nat → SS) (nw kn : Nat) (tk wh : SS) (m : Nat) (kp : SS) (g : Nat → SS) (pa kt : SS) (v w : Int32) (hb : ¬ (inR v (nI 1) (nI 40) = true ∧ (inR w (nI 0) (nI 3) = true ∨ w = -9))) : ∀ wM, ME D M (s, sg, n, h, nw, kn, tk, wh, m, kp, g, pa, kt) wM → ∃ rm, Ct D yX5_sees cX5_sees 3 (some .int) rm [.ref (M 0), .int v, .int w] wM (fun v_ u_ => v_ = some (.int (-1)) ∧ ME D M (s, sg, n, h, nw, kn, tk, wh, m, kp, g, pa, kt) u_) ∧ RB rm := by
  intro wM hC
  obtain ⟨sp, rd, nx, pl, it, to, va, rfl⟩ := hC
  refine ⟨_, (Ct.frame (c_X5_sees_bad M (kn, m, n, nx, pl, it, to, va) v w hb) [0] rfl rfl (fun v w1 hf => ?_)).weaken (fun v w' hf => ?_), Nat.le_of_ble_eq_true rfl, Nat.le_of_ble_eq_true rfl, rfl, rfl⟩
  · obtain ⟨rfl, rfl⟩ := hf; rfl
  · obtain ⟨w1, ⟨rfl, rfl⟩, rfl⟩ := hf; exact ⟨rfl, sp, rd, nx, pl, it, to, va, rfl⟩

set_option maxHeartbeats 4000000 in
set_option maxRecDepth 100000 in
theorem L5_sees_full (D : DX) (M : Nat → Nat) (s sg : SS) (n : Nat) (h : Nat → SS) (nw kn : Nat) (tk wh : SS) (m : Nat) (kp : SS) (g : Nat → SS) (pa kt : SS) (v w : Int32) (hb : (inR v (nI 1) (nI 40) = true ∧ (inR w (nI 0) (nI 3) = true ∨ w = -9))) (hm : m = 6) : ∀ wM, ME D M (s, sg, n, h, nw, kn, tk, wh, m, kp, g, pa, kt) wM → ∃ rm, Ct D yX5_sees cX5_sees 3 (some .int) rm [.ref (M 0), .int v, .int w] wM (fun v_ u_ => v_ = some (.int (-3)) ∧ ME D M (s, sg, n, h, nw, kn, tk, wh, m, kp, g, pa, kt) u_) ∧ RB rm := by
  intro wM hC
  obtain ⟨sp, rd, nx, pl, it, to, va, rfl⟩ := hC
  refine ⟨_, (Ct.frame (c_X5_sees_full M kn m (n, nx, pl, it, to, va) tk wh v w hb hm) [0, 6, 7] rfl rfl (fun v w1 hf => ?_)).weaken (fun v w' hf => ?_), Nat.le_of_ble_eq_true rfl, Nat.le_of_ble_eq_true rfl, rfl, rfl⟩
  · obtain ⟨rfl, rfl⟩ := hf; rfl
  · obtain ⟨w1, ⟨rfl, rfl⟩, rfl⟩ := hf; exact ⟨rfl, sp, rd, nx, pl, it, to, va, rfl⟩

set_option maxHeartbeats 4000000 in
set_option maxRecDepth 100000 in
theorem L5_sees_ok (D : DX) (M : Nat → Nat) (s sg : SS) (n : Nat) (h : Nat → SS) (nw kn : Nat) (tk wh : SS) (m : Nat) (kp : SS) (g : Nat → SS) (pa kt : SS) (v w : Int32) (hb : (inR v (nI 1) (nI 40) = true ∧ (inR w (nI 0) (nI 3) = true ∨ w = -9))) (hm : m < 6) : ∀ wM, ME D M (s, sg, n, h, nw, kn, tk, wh, m, kp, g, pa, kt) wM → ∃ rm, Ct D yX5_sees cX5_sees 3 (some .int) rm [.ref (M 0), .int v, .int w] wM (fun v_ u_ => v_ = some (.int (nI (m + 1))) ∧ ME D M (s, sg, n, h, nw, kn, upd tk m v, upd wh m w, m + 1, kp, g, pa, kt) u_) ∧ RB rm := by
  intro wM hC
  obtain ⟨sp, rd, nx, pl, it, to, va, rfl⟩ := hC
  refine ⟨_, (Ct.frame (c_X5_sees_ok M kn m (n, nx, pl, it, to, va) tk wh v w hb hm) [0, 6, 7] rfl rfl (fun v w1 hf => ?_)).weaken (fun v w' hf => ?_), Nat.le_of_ble_eq_true rfl, Nat.le_of_ble_eq_true rfl, rfl, rfl⟩
  · obtain ⟨rfl, rfl⟩ := hf; rfl
  · obtain ⟨w1, ⟨rfl, rfl⟩, rfl⟩ := hf; exact ⟨rfl, sp, rd, nx, pl, it, to, va, rfl⟩

set_option maxHeartbeats 4000000 in
set_option maxRecDepth 100000 in
theorem L5_forget (D : DX) (M : Nat → Nat) (s sg : SS) (n : Nat) (h : Nat → SS) (nw kn : Nat) (tk wh : SS) (m : Nat) (kp : SS) (g : Nat → SS) (pa kt : SS)  : ∀ wM, ME D M (s, sg, n, h, nw, kn, tk, wh, m, kp, g, pa, kt) wM → ∃ rm, Ct D yX5_forget cX5_forget 2 (some .int) rm [.ref (M 0)] wM (fun v_ u_ => v_ = some (.int (nI m)) ∧ ME D M (s, sg, n, h, nw, kn, tk, wh, 0, kp, g, pa, kt) u_) ∧ RB rm := by
  intro wM hC
  obtain ⟨sp, rd, nx, pl, it, to, va, rfl⟩ := hC
  refine ⟨_, (Ct.frame (c_X5_forget M kn m (n, nx, pl, it, to, va)) [0] rfl rfl (fun v w1 hf => ?_)).weaken (fun v w' hf => ?_), Nat.le_of_ble_eq_true rfl, Nat.le_of_ble_eq_true rfl, rfl, rfl⟩
  · obtain ⟨rfl, rfl⟩ := hf; rfl
  · obtain ⟨w1, ⟨rfl, rfl⟩, rfl⟩ := hf; exact ⟨rfl, sp, rd, nx, pl, it, to, va, rfl⟩

set_option maxHeartbeats 4000000 in
set_option maxRecDepth 100000 in
theorem L5_keep_bad (D : DX) (M : Nat → Nat) (s sg : SS) (n : Nat) (h : Nat → SS) (nw kn : Nat) (tk wh : SS) (m : Nat) (kp : SS) (g : Nat → SS) (pa kt : SS) (v : Int32) (hb : inR v (nI 0) (nI 1) = false) : ∀ wM, ME D M (s, sg, n, h, nw, kn, tk, wh, m, kp, g, pa, kt) wM → ∃ rm, Ct D yX5_keep cX5_keep 3 (some .int) rm [.ref (M 0), .int v] wM (fun v_ u_ => v_ = some (.int (-1)) ∧ ME D M (s, sg, n, h, nw, kn, tk, wh, m, kp, g, pa, kt) u_) ∧ RB rm := by
  intro wM hC
  obtain ⟨sp, rd, nx, pl, it, to, va, rfl⟩ := hC
  refine ⟨_, (Ct.frame (c_X5_keep_bad M (kn, m, n, nx, pl, it, to, va) v hb) [0] rfl rfl (fun v w1 hf => ?_)).weaken (fun v w' hf => ?_), Nat.le_of_ble_eq_true rfl, Nat.le_of_ble_eq_true rfl, rfl, rfl⟩
  · obtain ⟨rfl, rfl⟩ := hf; rfl
  · obtain ⟨w1, ⟨rfl, rfl⟩, rfl⟩ := hf; exact ⟨rfl, sp, rd, nx, pl, it, to, va, rfl⟩

set_option maxHeartbeats 4000000 in
set_option maxRecDepth 100000 in
theorem L5_keep_ok (D : DX) (M : Nat → Nat) (s sg : SS) (n : Nat) (h : Nat → SS) (nw kn : Nat) (tk wh : SS) (m : Nat) (kp : SS) (g : Nat → SS) (pa kt : SS) (hI : Inv s) (e : Nat) (he : e < 2) : ∀ wM, ME D M (s, sg, n, h, nw, kn, tk, wh, m, kp, g, pa, kt) wM → ∃ rm, Ct D yX5_keep cX5_keep 3 (some .int) rm [.ref (M 0), .int (nI e)] wM (fun v_ u_ => v_ = some (.int (nI (els s 4))) ∧ ME D M (s, sg, n, h, nw, kn, tk, wh, m, upd kp e 1, hup g e s, pa, inN kt e s 455) u_) ∧ RB rm := by
  intro wM hC
  obtain ⟨sp, rd, nx, pl, it, to, va, rfl⟩ := hC
  refine ⟨_, (Ct.frame (c_X5_keep_ok M (kn, m, n, nx, pl, it, to, va) s kp kt hI e he) [0, 1, 3, 4] rfl rfl (fun v w1 hf => ?_)).weaken (fun v w' hf => ?_), Nat.le_of_ble_eq_true rfl, Nat.le_of_ble_eq_true rfl, rfl, rfl⟩
  · obtain ⟨rfl, rfl⟩ := hf; rfl
  · obtain ⟨w1, ⟨rfl, rfl⟩, rfl⟩ := hf; exact ⟨rfl, sp, rd, nx, pl, it, to, va, rfl⟩

set_option maxHeartbeats 4000000 in
set_option maxRecDepth 100000 in
theorem L5_back_bad (D : DX) (M : Nat → Nat) (s sg : SS) (n : Nat) (h : Nat → SS) (nw kn : Nat) (tk wh : SS) (m : Nat) (kp : SS) (g : Nat → SS) (pa kt : SS) (v : Int32) (hb : inR v (nI 0) (nI 1) = false) : ∀ wM, ME D M (s, sg, n, h, nw, kn, tk, wh, m, kp, g, pa, kt) wM → ∃ rm, Ct D yX5_back cX5_back 3 (some .int) rm [.ref (M 0), .int v] wM (fun v_ u_ => v_ = some (.int (-1)) ∧ ME D M (s, sg, n, h, nw, kn, tk, wh, m, kp, g, pa, kt) u_) ∧ RB rm := by
  intro wM hC
  obtain ⟨sp, rd, nx, pl, it, to, va, rfl⟩ := hC
  refine ⟨_, (Ct.frame (c_X5_back_bad M (kn, m, n, nx, pl, it, to, va) v hb) [0] rfl rfl (fun v w1 hf => ?_)).weaken (fun v w' hf => ?_), Nat.le_of_ble_eq_true rfl, Nat.le_of_ble_eq_true rfl, rfl, rfl⟩
  · obtain ⟨rfl, rfl⟩ := hf; rfl
  · obtain ⟨w1, ⟨rfl, rfl⟩, rfl⟩ := hf; exact ⟨rfl, sp, rd, nx, pl, it, to, va, rfl⟩

set_option maxHeartbeats 4000000 in
set_option maxRecDepth 100000 in
theorem L5_back_none (D : DX) (M : Nat → Nat) (s sg : SS) (n : Nat) (h : Nat → SS) (nw kn : Nat) (tk wh : SS) (m : Nat) (kp : SS) (g : Nat → SS) (pa kt : SS) (e : Nat) (he : e < 2) (hk : kp e = 0) : ∀ wM, ME D M (s, sg, n, h, nw, kn, tk, wh, m, kp, g, pa, kt) wM → ∃ rm, Ct D yX5_back cX5_back 3 (some .int) rm [.ref (M 0), .int (nI e)] wM (fun v_ u_ => v_ = some (.int (-2)) ∧ ME D M (s, sg, n, h, nw, kn, tk, wh, m, kp, g, pa, kt) u_) ∧ RB rm := by
  intro wM hC
  obtain ⟨sp, rd, nx, pl, it, to, va, rfl⟩ := hC
  refine ⟨_, (Ct.frame (c_X5_back_none M (kn, m, n, nx, pl, it, to, va) kp e he hk) [0, 3] rfl rfl (fun v w1 hf => ?_)).weaken (fun v w' hf => ?_), Nat.le_of_ble_eq_true rfl, Nat.le_of_ble_eq_true rfl, rfl, rfl⟩
  · obtain ⟨rfl, rfl⟩ := hf; rfl
  · obtain ⟨w1, ⟨rfl, rfl⟩, rfl⟩ := hf; exact ⟨rfl, sp, rd, nx, pl, it, to, va, rfl⟩

set_option maxHeartbeats 4000000 in
set_option maxRecDepth 100000 in
theorem L5_back_ok (D : DX) (M : Nat → Nat) (s sg : SS) (n : Nat) (h : Nat → SS) (nw kn : Nat) (tk wh : SS) (m : Nat) (kp : SS) (g : Nat → SS) (pa kt : SS) (e : Nat) (he : e < 2) (hk : kp e = 1) (hI : Inv (g e)) (hg : ∀ j, j < 455 → kt (455 * e + j) = g e j) : ∀ wM, ME D M (s, sg, n, h, nw, kn, tk, wh, m, kp, g, pa, kt) wM → ∃ rm, Ct D yX5_back cX5_back 3 (some .int) rm [.ref (M 0), .int (nI e)] wM (fun v_ u_ => v_ = some (.int (nI (els (g e) 4))) ∧ ME D M (g e, sg, n, h, nw, 0, tk, wh, m, kp, g, pa, kt) u_) ∧ RB rm := by
  intro wM hC
  obtain ⟨sp, rd, nx, pl, it, to, va, rfl⟩ := hC
  refine ⟨_, (Ct.frame (c_X5_back_ok M kn (m, n, nx, pl, it, to, va) s kp kt (g e) hI e he hk hg) [0, 1, 3, 4] rfl rfl (fun v w1 hf => ?_)).weaken (fun v w' hf => ?_), Nat.le_of_ble_eq_true rfl, Nat.le_of_ble_eq_true rfl, rfl, rfl⟩
  · obtain ⟨rfl, rfl⟩ := hf; rfl
  · obtain ⟨w1, ⟨rfl, rfl⟩, rfl⟩ := hf; exact ⟨rfl, sp, rd, nx, pl, it, to, va, rfl⟩

set_option maxHeartbeats 4000000 in
set_option maxRecDepth 100000 in
theorem L5_count (D : DX) (M : Nat → Nat) (s sg : SS) (n : Nat) (h : Nat → SS) (nw kn : Nat) (tk wh : SS) (m : Nat) (kp : SS) (g : Nat → SS) (pa kt : SS) (hI : Inv s) (w : Int32) : ∀ wM, ME D M (s, sg, n, h, nw, kn, tk, wh, m, kp, g, pa, kt) wM → ∃ rm, Ct D yX5_count cX5_count 2 (some .int) rm [.ref (M 0), .int w] wM (fun v_ u_ => v_ = some (.int (coF s m n kn w)) ∧ ME D M (s, sg, n, h, nw, kn, tk, wh, m, kp, g, pa, kt) u_) ∧ RB rm := by
  intro wM hC
  obtain ⟨sp, rd, nx, pl, it, to, va, rfl⟩ := hC
  refine ⟨_, (Ct.frame (c_X5_count M (kn, m, n, nx, pl, it, to, va) s hI w) [0, 1] rfl rfl (fun v w1 hf => ?_)).weaken (fun v w' hf => ?_), Nat.le_of_ble_eq_true rfl, Nat.le_of_ble_eq_true rfl, rfl, rfl⟩
  · obtain ⟨rfl, rfl⟩ := hf; rfl
  · obtain ⟨w1, ⟨rfl, rfl⟩, rfl⟩ := hf; exact ⟨rfl, sp, rd, nx, pl, it, to, va, rfl⟩

