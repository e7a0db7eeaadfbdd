set_option maxHeartbeats 4000000 in
set_option maxRecDepth 100000 in
theorem L4_posts_ok (D : DX) (O : Nat) (X E F Y Z V : Nat → Nat) (P G : Nat → Nat → Nat) (s sg : SS) (n : Nat) (h : Nat → SS) (nw kn : Nat) (tk wh : SS) (m : Nat) (kp : SS) (g : Nat → SS) (pa kt : SS) (a : Nat → Nat) (hz : zT D a) (hn : n ≤ 120) (hI : Inv s) (hp : (prA sg n).1 = none) (hA : okA sg n s (prA sg n).2 = true) (hnw : nw < 6) (hkn : kn ≤ 6) : ∀ wC, CE D O X E F Y Z V P G (s, sg, n, h, nw, kn, tk, wh, m, kp, g, pa, kt) wC → ∃ rm, Ct D yX4_posts cX4_posts 3 (some .int) rm [.ref O] wC (fun v_ u_ => v_ = some (.int (nI (prA sg n).2)) ∧ CE D O X E F Y Z V P G (doN sg n s (prA sg n).2, sg, 0, hup h ((nw + 1) % 6) s, (nw + 1) % 6, min (kn + 1) 6, tk, wh, m, kp, g, rmF pa kn s, kt) u_) ∧ RB rm := by
  intro wC hC
  obtain ⟨t, kd, nu, k, ic, rfl⟩ := hC
  rcases (show nw = 0 ∨ nw = 1 ∨ nw = 2 ∨ nw = 3 ∨ nw = 4 ∨ nw = 5 by omega) with rfl | rfl | rfl | rfl | rfl | rfl
  · rw [CW_l]
    have hc_ := c_X4_posts_ok O X E F Y Z V sg kd nu k n ic a hz hn s t hI hp P 0 kn 1 (h 1) rfl (by decide) hkn hA
    clear hA hp
    generalize doN sg n s (prA sg n).2 = d_ at hc_ ⊢
    generalize (prA sg n).2 = N_ at hc_ ⊢
    refine ⟨_, (Ct.frame (hc_) [0, 1, 2, 3, 4, 5, 6, 7, 8, 9, 10, 11, 12, 13, 14, 15, 16, 22, 23, 24, 25, 26] rfl rfl (fun v w1 hf => ?_)).weaken (fun v w' hf => ?_), Nat.le_of_ble_eq_true rfl, Nat.le_of_ble_eq_true rfl, rfl, rfl⟩
    · obtain ⟨rfl, kd1, nu1, k1, rfl⟩ := hf; exact Eq.trans (b := [O, X 0, X 1, X 2, X 3, E 0, E 1, E 2, E 3, E 4, F 0, F 1, F 2, F 3, F 4, Y 0, Y 1, P 1 0, P 1 1, P 1 2, P 1 3, P 1 4]) rfl rfl
    · obtain ⟨w1, ⟨h1_, kd1, nu1, k1, h2_⟩, h3_⟩ := hf
      refine ⟨h1_, d_, kd1, nu1, k1, N_, ?_⟩
      rw [CW_l, h3_, h2_]
      simp only [TR, TW, EW, HO, List.cons_append, List.nil_append, List.append_assoc, updw, List.set_cons_succ, List.set_cons_zero]
      rfl
  · rw [CW_l]
    have hc_ := c_X4_posts_ok O X E F Y Z V sg kd nu k n ic a hz hn s t hI hp P 1 kn 2 (h 2) rfl (by decide) hkn hA
    clear hA hp
    generalize doN sg n s (prA sg n).2 = d_ at hc_ ⊢
    generalize (prA sg n).2 = N_ at hc_ ⊢
    refine ⟨_, (Ct.frame (hc_) [0, 1, 2, 3, 4, 5, 6, 7, 8, 9, 10, 11, 12, 13, 14, 15, 16, 27, 28, 29, 30, 31] rfl rfl (fun v w1 hf => ?_)).weaken (fun v w' hf => ?_), Nat.le_of_ble_eq_true rfl, Nat.le_of_ble_eq_true rfl, rfl, rfl⟩
    · obtain ⟨rfl, kd1, nu1, k1, rfl⟩ := hf; exact Eq.trans (b := [O, X 0, X 1, X 2, X 3, E 0, E 1, E 2, E 3, E 4, F 0, F 1, F 2, F 3, F 4, Y 0, Y 1, P 2 0, P 2 1, P 2 2, P 2 3, P 2 4]) rfl rfl
    · obtain ⟨w1, ⟨h1_, kd1, nu1, k1, h2_⟩, h3_⟩ := hf
      refine ⟨h1_, d_, kd1, nu1, k1, N_, ?_⟩
      rw [CW_l, h3_, h2_]
      simp only [TR, TW, EW, HO, List.cons_append, List.nil_append, List.append_assoc, updw, List.set_cons_succ, List.set_cons_zero]
      rfl
  · rw [CW_l]
    have hc_ := c_X4_posts_ok O X E F Y Z V sg kd nu k n ic a hz hn s t hI hp P 2 kn 3 (h 3) rfl (by decide) hkn hA
    clear hA hp
    generalize doN sg n s (prA sg n).2 = d_ at hc_ ⊢
    generalize (prA sg n).2 = N_ at hc_ ⊢
    refine ⟨_, (Ct.frame (hc_) [0, 1, 2, 3, 4, 5, 6, 7, 8, 9, 10, 11, 12, 13, 14, 15, 16, 32, 33, 34, 35, 36] rfl rfl (fun v w1 hf => ?_)).weaken (fun v w' hf => ?_), Nat.le_of_ble_eq_true rfl, Nat.le_of_ble_eq_true rfl, rfl, rfl⟩
    · obtain ⟨rfl, kd1, nu1, k1, rfl⟩ := hf; exact Eq.trans (b := [O, X 0, X 1, X 2, X 3, E 0, E 1, E 2, E 3, E 4, F 0, F 1, F 2, F 3, F 4, Y 0, Y 1, P 3 0, P 3 1, P 3 2, P 3 3, P 3 4]) rfl rfl
    · obtain ⟨w1, ⟨h1_, kd1, nu1, k1, h2_⟩, h3_⟩ := hf
      refine ⟨h1_, d_, kd1, nu1, k1, N_, ?_⟩
      rw [CW_l, h3_, h2_]
      simp only [TR, TW, EW, HO, List.cons_append, List.nil_append, List.append_assoc, updw, List.set_cons_succ, List.set_cons_zero]
      rfl
  · rw [CW_l]
    have hc_ := c_X4_posts_ok O X E F Y Z V sg kd nu k n ic a hz hn s t hI hp P 3 kn 4 (h 4) rfl (by decide) hkn hA
    clear hA hp
    generalize doN sg n s (prA sg n).2 = d_ at hc_ ⊢
    generalize (prA sg n).2 = N_ at hc_ ⊢
    refine ⟨_, (Ct.frame (hc_) [0, 1, 2, 3, 4, 5, 6, 7, 8, 9, 10, 11, 12, 13, 14, 15, 16, 37, 38, 39, 40, 41] rfl rfl (fun v w1 hf => ?_)).weaken (fun v w' hf => ?_), Nat.le_of_ble_eq_true rfl, Nat.le_of_ble_eq_true rfl, rfl, rfl⟩
    · obtain ⟨rfl, kd1, nu1, k1, rfl⟩ := hf; exact Eq.trans (b := [O, X 0, X 1, X 2, X 3, E 0, E 1, E 2, E 3, E 4, F 0, F 1, F 2, F 3, F 4, Y 0, Y 1, P 4 0, P 4 1, P 4 2, P 4 3, P 4 4]) rfl rfl
    · obtain ⟨w1, ⟨h1_, kd1, nu1, k1, h2_⟩, h3_⟩ := hf
      refine ⟨h1_, d_, kd1, nu1, k1, N_, ?_⟩
      rw [CW_l, h3_, h2_]
      simp only [TR, TW, EW, HO, List.cons_append, List.nil_append, List.append_assoc, updw, List.set_cons_succ, List.set_cons_zero]
      rfl
  · rw [CW_l]
    have hc_ := c_X4_posts_ok O X E F Y Z V sg kd nu k n ic a hz hn s t hI hp P 4 kn 5 (h 5) rfl (by decide) hkn hA
    clear hA hp
    generalize doN sg n s (prA sg n).2 = d_ at hc_ ⊢
    generalize (prA sg n).2 = N_ at hc_ ⊢
    refine ⟨_, (Ct.frame (hc_) [0, 1, 2, 3, 4, 5, 6, 7, 8, 9, 10, 11, 12, 13, 14, 15, 16, 42, 43, 44, 45, 46] rfl rfl (fun v w1 hf => ?_)).weaken (fun v w' hf => ?_), Nat.le_of_ble_eq_true rfl, Nat.le_of_ble_eq_true rfl, rfl, rfl⟩
    · obtain ⟨rfl, kd1, nu1, k1, rfl⟩ := hf; exact Eq.trans (b := [O, X 0, X 1, X 2, X 3, E 0, E 1, E 2, E 3, E 4, F 0, F 1, F 2, F 3, F 4, Y 0, Y 1, P 5 0, P 5 1, P 5 2, P 5 3, P 5 4]) rfl rfl
    · obtain ⟨w1, ⟨h1_, kd1, nu1, k1, h2_⟩, h3_⟩ := hf
      refine ⟨h1_, d_, kd1, nu1, k1, N_, ?_⟩
      rw [CW_l, h3_, h2_]
      simp only [TR, TW, EW, HO, List.cons_append, List.nil_append, List.append_assoc, updw, List.set_cons_succ, List.set_cons_zero]
      rfl
  · rw [CW_l]
    have hc_ := c_X4_posts_ok O X E F Y Z V sg kd nu k n ic a hz hn s t hI hp P 5 kn 0 (h 0) rfl (by decide) hkn hA
    clear hA hp
    generalize doN sg n s (prA sg n).2 = d_ at hc_ ⊢
    generalize (prA sg n).2 = N_ at hc_ ⊢
    refine ⟨_, (Ct.frame (hc_) [0, 1, 2, 3, 4, 5, 6, 7, 8, 9, 10, 11, 12, 13, 14, 15, 16, 17, 18, 19, 20, 21] rfl rfl (fun v w1 hf => ?_)).weaken (fun v w' hf => ?_), Nat.le_of_ble_eq_true rfl, Nat.le_of_ble_eq_true rfl, rfl, rfl⟩
    · obtain ⟨rfl, kd1, nu1, k1, rfl⟩ := hf; exact Eq.trans (b := [O, X 0, X 1, X 2, X 3, E 0, E 1, E 2, E 3, E 4, F 0, F 1, F 2, F 3, F 4, Y 0, Y 1, P 0 0, P 0 1, P 0 2, P 0 3, P 0 4]) rfl rfl
    · obtain ⟨w1, ⟨h1_, kd1, nu1, k1, h2_⟩, h3_⟩ := hf
      refine ⟨h1_, d_, kd1, nu1, k1, N_, ?_⟩
      rw [CW_l, h3_, h2_]
      simp only [TR, TW, EW, HO, List.cons_append, List.nil_append, List.append_assoc, updw, List.set_cons_succ, List.set_cons_zero]
      rfl

set_option maxHeartbeats 4000000 in
set_option maxRecDepth 100000 in
theorem L4_ticks_ok (D : DX) (O : Nat) (X E F Y Z V : Nat → Nat) (P G : Nat → Nat → Nat) (s sg : SS) (n : Nat) (h : Nat → SS) (nw kn : Nat) (tk wh : SS) (m : Nat) (kp : SS) (g : Nat → SS) (pa kt : SS) (hI : Inv s) (hnw : nw < 6) (hkn : kn ≤ 6) (q : Nat) (hq : 1 ≤ q ∧ q ≤ 40) : ∀ wC, CE D O X E F Y Z V P G (s, sg, n, h, nw, kn, tk, wh, m, kp, g, pa, kt) wC → ∃ rm, Ct D yX4_ticks cX4_ticks 4 (some .int) rm [.ref O, .int (nI q)] wC (fun v_ u_ => v_ = some (.int (nI (gcn s q))) ∧ CE D O X E F Y Z V P G (itk true s q, sg, n, hup h ((nw + 1) % 6) s, (nw + 1) % 6, min (kn + 1) 6, tk, wh, m, kp, g, rmF pa kn s, kt) u_) ∧ RB rm := by
  intro wC hC
  obtain ⟨t, kd, nu, k, ic, rfl⟩ := hC
  rcases (show nw = 0 ∨ nw = 1 ∨ nw = 2 ∨ nw = 3 ∨ nw = 4 ∨ nw = 5 by omega) with rfl | rfl | rfl | rfl | rfl | rfl
  · rw [CW_l]
    refine ⟨_, (Ct.frame (c_X4_ticks_ok O X E F Y Z V P 0 kn 1 (h 1) s rfl (by decide) hkn hI q hq) [0, 5, 6, 7, 8, 9, 15, 16, 22, 23, 24, 25, 26] rfl rfl (fun v w1 hf => ?_)).weaken (fun v w' hf => ?_), Nat.le_of_ble_eq_true rfl, Nat.le_of_ble_eq_true rfl, rfl, rfl⟩
    · obtain ⟨rfl, rfl⟩ := hf; rfl
    · obtain ⟨w1, ⟨rfl, rfl⟩, rfl⟩ := hf; exact ⟨rfl, t, kd, nu, k, ic, by rw [CW_l]; rfl⟩
  · rw [CW_l]
    refine ⟨_, (Ct.frame (c_X4_ticks_ok O X E F Y Z V P 1 kn 2 (h 2) s rfl (by decide) hkn hI q hq) [0, 5, 6, 7, 8, 9, 15, 16, 27, 28, 29, 30, 31] rfl rfl (fun v w1 hf => ?_)).weaken (fun v w' hf => ?_), Nat.le_of_ble_eq_true rfl, Nat.le_of_ble_eq_true rfl, rfl, rfl⟩
    · obtain ⟨rfl, rfl⟩ := hf; rfl
    · obtain ⟨w1, ⟨rfl, rfl⟩, rfl⟩ := hf; exact ⟨rfl, t, kd, nu, k, ic, by rw [CW_l]; rfl⟩
  · rw [CW_l]
    refine ⟨_, (Ct.frame (c_X4_ticks_ok O X E F Y Z V P 2 kn 3 (h 3) s rfl (by decide) hkn hI q hq) [0, 5, 6, 7, 8, 9, 15, 16, 32, 33, 34, 35, 36] rfl rfl (fun v w1 hf => ?_)).weaken (fun v w' hf => ?_), Nat.le_of_ble_eq_true rfl, Nat.le_of_ble_eq_true rfl, rfl, rfl⟩
    · obtain ⟨rfl, rfl⟩ := hf; rfl
    · obtain ⟨w1, ⟨rfl, rfl⟩, rfl⟩ := hf; exact ⟨rfl, t, kd, nu, k, ic, by rw [CW_l]; rfl⟩
  · rw [CW_l]
    refine ⟨_, (Ct.frame (c_X4_ticks_ok O X E F Y Z V P 3 kn 4 (h 4) s rfl (by decide) hkn hI q hq) [0, 5, 6, 7, 8, 9, 15, 16, 37, 38, 39, 40, 41] rfl rfl (fun v w1 hf => ?_)).weaken (fun v w' hf => ?_), Nat.le_of_ble_eq_true rfl, Nat.le_of_ble_eq_true rfl, rfl, rfl⟩
    · obtain ⟨rfl, rfl⟩ := hf; rfl
    · obtain ⟨w1, ⟨rfl, rfl⟩, rfl⟩ := hf; exact ⟨rfl, t, kd, nu, k, ic, by rw [CW_l]; rfl⟩
  · rw [CW_l]
    refine ⟨_, (Ct.frame (c_X4_ticks_ok O X E F Y Z V P 4 kn 5 (h 5) s rfl (by decide) hkn hI q hq) [0, 5, 6, 7, 8, 9, 15, 16, 42, 43, 44, 45, 46] rfl rfl (fun v w1 hf => ?_)).weaken (fun v w' hf => ?_), Nat.le_of_ble_eq_true rfl, Nat.le_of_ble_eq_true rfl, rfl, rfl⟩
    · obtain ⟨rfl, rfl⟩ := hf; rfl
    · obtain ⟨w1, ⟨rfl, rfl⟩, rfl⟩ := hf; exact ⟨rfl, t, kd, nu, k, ic, by rw [CW_l]; rfl⟩
  · rw [CW_l]
    refine ⟨_, (Ct.frame (c_X4_ticks_ok O X E F Y Z V P 5 kn 0 (h 0) s rfl (by decide) hkn hI q hq) [0, 5, 6, 7, 8, 9, 15, 16, 17, 18, 19, 20, 21] rfl rfl (fun v w1 hf => ?_)).weaken (fun v w' hf => ?_), Nat.le_of_ble_eq_true rfl, Nat.le_of_ble_eq_true rfl, rfl, rfl⟩
    · obtain ⟨rfl, rfl⟩ := hf; rfl
    · obtain ⟨w1, ⟨rfl, rfl⟩, rfl⟩ := hf; exact ⟨rfl, t, kd, nu, k, ic, by rw [CW_l]; rfl⟩

set_option maxHeartbeats 4000000 in
set_option maxRecDepth 100000 in
theorem L4_cancels_ok (D : DX) (O : Nat) (X E F Y Z V : Nat → Nat) (P G : Nat → Nat → Nat) (s sg : SS) (n : Nat) (h : Nat → SS) (nw kn : Nat) (tk wh : SS) (m : Nat) (kp : SS) (g : Nat → SS) (pa kt : SS) (hI : Inv s) (hnw : nw < 6) (hkn : kn ≤ 6) (c : Nat) (hc : c < 4) (ht : tc s (pl s c) = true) : ∀ wC, CE D O X E F Y Z V P G (s, sg, n, h, nw, kn, tk, wh, m, kp, g, pa, kt) wC → ∃ rm, Ct D yX4_cancels cX4_cancels 2 (some .int) rm [.ref O, .int (nI c)] wC (fun v_ u_ => v_ = some (.int (cnA s c)) ∧ CE D O X E F Y Z V P G (cnF s c, sg, n, hup h ((nw + 1) % 6) s, (nw + 1) % 6, min (kn + 1) 6, tk, wh, m, kp, g, rmF pa kn s, kt) u_) ∧ RB rm := by
  intro wC hC
  obtain ⟨t, kd, nu, k, ic, rfl⟩ := hC
  rcases (show nw = 0 ∨ nw = 1 ∨ nw = 2 ∨ nw = 3 ∨ nw = 4 ∨ nw = 5 by omega) with rfl | rfl | rfl | rfl | rfl | rfl
  · rw [CW_l]
    refine ⟨_, (Ct.frame (c_X4_cancels_ok O X E F Y Z V P 0 kn 1 (h 1) s rfl (by decide) hkn hI c hc ht) [0, 5, 6, 7, 8, 9, 15, 16, 22, 23, 24, 25, 26] rfl rfl (fun v w1 hf => ?_)).weaken (fun v w' hf => ?_), Nat.le_of_ble_eq_true rfl, Nat.le_of_ble_eq_true rfl, rfl, rfl⟩
    · obtain ⟨rfl, rfl⟩ := hf; rfl
    · obtain ⟨w1, ⟨rfl, rfl⟩, rfl⟩ := hf; exact ⟨rfl, t, kd, nu, k, ic, by rw [CW_l]; rfl⟩
  · rw [CW_l]
    refine ⟨_, (Ct.frame (c_X4_cancels_ok O X E F Y Z V P 1 kn 2 (h 2) s rfl (by decide) hkn hI c hc ht) [0, 5, 6, 7, 8, 9, 15, 16, 27, 28, 29, 30, 31] rfl rfl (fun v w1 hf => ?_)).weaken (fun v w' hf => ?_), Nat.le_of_ble_eq_true rfl, Nat.le_of_ble_eq_true rfl, rfl, rfl⟩
    · obtain ⟨rfl, rfl⟩ := hf; rfl
    · obtain ⟨w1, ⟨rfl, rfl⟩, rfl⟩ := hf; exact ⟨rfl, t, kd, nu, k, ic, by rw [CW_l]; rfl⟩
  · rw [CW_l]
    refine ⟨_, (Ct.frame (c_X4_cancels_ok O X E F Y Z V P 2 kn 3 (h 3) s rfl (by decide) hkn hI c hc ht) [0, 5, 6, 7, 8, 9, 15, 16, 32, 33, 34, 35, 36] rfl rfl (fun v w1 hf => ?_)).weaken (fun v w' hf => ?_), Nat.le_of_ble_eq_true rfl, Nat.le_of_ble_eq_true rfl, rfl, rfl⟩
    · obtain ⟨rfl, rfl⟩ := hf; rfl
    · obtain ⟨w1, ⟨rfl, rfl⟩, rfl⟩ := hf; exact ⟨rfl, t, kd, nu, k, ic, by rw [CW_l]; rfl⟩
  · rw [CW_l]
    refine ⟨_, (Ct.frame (c_X4_cancels_ok O X E F Y Z V P 3 kn 4 (h 4) s rfl (by decide) hkn hI c hc ht) [0, 5, 6, 7, 8, 9, 15, 16, 37, 38, 39, 40, 41] rfl rfl (fun v w1 hf => ?_)).weaken (fun v w' hf => ?_), Nat.le_of_ble_eq_true rfl, Nat.le_of_ble_eq_true rfl, rfl, rfl⟩
    · obtain ⟨rfl, rfl⟩ := hf; rfl
    · obtain ⟨w1, ⟨rfl, rfl⟩, rfl⟩ := hf; exact ⟨rfl, t, kd, nu, k, ic, by rw [CW_l]; rfl⟩
  · rw [CW_l]
    refine ⟨_, (Ct.frame (c_X4_cancels_ok O X E F Y Z V P 4 kn 5 (h 5) s rfl (by decide) hkn hI c hc ht) [0, 5, 6, 7, 8, 9, 15, 16, 42, 43, 44, 45, 46] rfl rfl (fun v w1 hf => ?_)).weaken (fun v w' hf => ?_), Nat.le_of_ble_eq_true rfl, Nat.le_of_ble_eq_true rfl, rfl, rfl⟩
    · obtain ⟨rfl, rfl⟩ := hf; rfl
    · obtain ⟨w1, ⟨rfl, rfl⟩, rfl⟩ := hf; exact ⟨rfl, t, kd, nu, k, ic, by rw [CW_l]; rfl⟩
  · rw [CW_l]
    refine ⟨_, (Ct.frame (c_X4_cancels_ok O X E F Y Z V P 5 kn 0 (h 0) s rfl (by decide) hkn hI c hc ht) [0, 5, 6, 7, 8, 9, 15, 16, 17, 18, 19, 20, 21] rfl rfl (fun v w1 hf => ?_)).weaken (fun v w' hf => ?_), Nat.le_of_ble_eq_true rfl, Nat.le_of_ble_eq_true rfl, rfl, rfl⟩
    · obtain ⟨rfl, rfl⟩ := hf; rfl
    · obtain ⟨w1, ⟨rfl, rfl⟩, rfl⟩ := hf; exact ⟨rfl, t, kd, nu, k, ic, by rw [CW_l]; rfl⟩

set_option maxHeartbeats 4000000 in
set_option maxRecDepth 100000 in
theorem L4_switches_ok (D : DX) (O : Nat) (X E F Y Z V : Nat → Nat) (P G : Nat → Nat → Nat) (s sg : SS) (n : Nat) (h : Nat → SS) (nw kn : Nat) (tk wh : SS) (m : Nat) (kp : SS) (g : Nat → SS) (pa kt : SS) (hI : Inv s) (hnw : nw < 6) (hkn : kn ≤ 6) (c : Nat) (hc : c < 4) : ∀ wC, CE D O X E F Y Z V P G (s, sg, n, h, nw, kn, tk, wh, m, kp, g, pa, kt) wC → ∃ rm, Ct D yX4_switches cX4_switches 3 (some .int) rm [.ref O, .int (nI c)] wC (fun v_ u_ => v_ = some (.int (nI 1 - gC s c 0)) ∧ CE D O X E F Y Z V P G (upd s (64 + 7 * c + 0) (nI 1 - gC s c 0), sg, n, hup h ((nw + 1) % 6) s, (nw + 1) % 6, min (kn + 1) 6, tk, wh, m, kp, g, rmF pa kn s, kt) u_) ∧ RB rm := by
  intro wC hC
  obtain ⟨t, kd, nu, k, ic, rfl⟩ := hC
  rcases (show nw = 0 ∨ nw = 1 ∨ nw = 2 ∨ nw = 3 ∨ nw = 4 ∨ nw = 5 by omega) with rfl | rfl | rfl | rfl | rfl | rfl
  · rw [CW_l]
    refine ⟨_, (Ct.frame (c_X4_switches_ok O X E F Y Z V P 0 kn 1 (h 1) s rfl (by decide) hkn hI c hc) [0, 5, 6, 7, 8, 9, 15, 16, 22, 23, 24, 25, 26] rfl rfl (fun v w1 hf => ?_)).weaken (fun v w' hf => ?_), Nat.le_of_ble_eq_true rfl, Nat.le_of_ble_eq_true rfl, rfl, rfl⟩
    · obtain ⟨rfl, rfl⟩ := hf; rfl
    · obtain ⟨w1, ⟨rfl, rfl⟩, rfl⟩ := hf; exact ⟨rfl, t, kd, nu, k, ic, by rw [CW_l]; rfl⟩
  · rw [CW_l]
    refine ⟨_, (Ct.frame (c_X4_switches_ok O X E F Y Z V P 1 kn 2 (h 2) s rfl (by decide) hkn hI c hc) [0, 5, 6, 7, 8, 9, 15, 16, 27, 28, 29, 30, 31] rfl rfl (fun v w1 hf => ?_)).weaken (fun v w' hf => ?_), Nat.le_of_ble_eq_true rfl, Nat.le_of_ble_eq_true rfl, rfl, rfl⟩
    · obtain ⟨rfl, rfl⟩ := hf; rfl
    · obtain ⟨w1, ⟨rfl, rfl⟩, rfl⟩ := hf; exact ⟨rfl, t, kd, nu, k, ic, by rw [CW_l]; rfl⟩
  · rw [CW_l]
    refine ⟨_, (Ct.frame (c_X4_switches_ok O X E F Y Z V P 2 kn 3 (h 3) s rfl (by decide) hkn hI c hc) [0, 5, 6, 7, 8, 9, 15, 16, 32, 33, 34, 35, 36] rfl rfl (fun v w1 hf => ?_)).weaken (fun v w' hf => ?_), Nat.le_of_ble_eq_true rfl, Nat.le_of_ble_eq_true rfl, rfl, rfl⟩
    · obtain ⟨rfl, rfl⟩ := hf; rfl
    · obtain ⟨w1, ⟨rfl, rfl⟩, rfl⟩ := hf; exact ⟨rfl, t, kd, nu, k, ic, by rw [CW_l]; rfl⟩
  · rw [CW_l]
    refine ⟨_, (Ct.frame (c_X4_switches_ok O X E F Y Z V P 3 kn 4 (h 4) s rfl (by decide) hkn hI c hc) [0, 5, 6, 7, 8, 9, 15, 16, 37, 38, 39, 40, 41] rfl rfl (fun v w1 hf => ?_)).weaken (fun v w' hf => ?_), Nat.le_of_ble_eq_true rfl, Nat.le_of_ble_eq_true rfl, rfl, rfl⟩
    · obtain ⟨rfl, rfl⟩ := hf; rfl
    · obtain ⟨w1, ⟨rfl, rfl⟩, rfl⟩ := hf; exact ⟨rfl, t, kd, nu, k, ic, by rw [CW_l]; rfl⟩
  · rw [CW_l]
    refine ⟨_, (Ct.frame (c_X4_switches_ok O X E F Y Z V P 4 kn 5 (h 5) s rfl (by decide) hkn hI c hc) [0, 5, 6, 7, 8, 9, 15, 16, 42, 43, 44, 45, 46] rfl rfl (fun v w1 hf => ?_)).weaken (fun v w' hf => ?_), Nat.le_of_ble_eq_true rfl, Nat.le_of_ble_eq_true rfl, rfl, rfl⟩
    · obtain ⟨rfl, rfl⟩ := hf; rfl
    · obtain ⟨w1, ⟨rfl, rfl⟩, rfl⟩ := hf; exact ⟨rfl, t, kd, nu, k, ic, by rw [CW_l]; rfl⟩
  · rw [CW_l]
    refine ⟨_, (Ct.frame (c_X4_switches_ok O X E F Y Z V P 5 kn 0 (h 0) s rfl (by decide) hkn hI c hc) [0, 5, 6, 7, 8, 9, 15, 16, 17, 18, 19, 20, 21] rfl rfl (fun v w1 hf => ?_)).weaken (fun v w' hf => ?_), Nat.le_of_ble_eq_true rfl, Nat.le_of_ble_eq_true rfl, rfl, rfl⟩
    · obtain ⟨rfl, rfl⟩ := hf; rfl
    · obtain ⟨w1, ⟨rfl, rfl⟩, rfl⟩ := hf; exact ⟨rfl, t, kd, nu, k, ic, by rw [CW_l]; rfl⟩

set_option maxHeartbeats 4000000 in
set_option maxRecDepth 100000 in
theorem L4_tunes_ok (D : DX) (O : Nat) (X E F Y Z V : Nat → Nat) (P G : Nat → Nat → Nat) (s sg : SS) (n : Nat) (h : Nat → SS) (nw kn : Nat) (tk wh : SS) (m : Nat) (kp : SS) (g : Nat → SS) (pa kt : SS) (hI : Inv s) (hnw : nw < 6) (hkn : kn ≤ 6) (c r b : Nat) (hc : c < 4) (hr : r < 4) (hb : 1 ≤ b ∧ b ≤ 8) (hd : ¬ (gC s c 1 = nI r ∧ gC s c 2 = nI b)) : ∀ wC, CE D O X E F Y Z V P G (s, sg, n, h, nw, kn, tk, wh, m, kp, g, pa, kt) wC → ∃ rm, Ct D yX4_tunes cX4_tunes 4 (some .int) rm [.ref O, .int (nI c), .int (nI r), .int (nI b)] wC (fun v_ u_ => v_ = some (.int (nI 1)) ∧ CE D O X E F Y Z V P G (upd (upd s (64 + 7 * c + 1) (nI r)) (64 + 7 * c + 2) (nI b), sg, n, hup h ((nw + 1) % 6) s, (nw + 1) % 6, min (kn + 1) 6, tk, wh, m, kp, g, rmF pa kn s, kt) u_) ∧ RB rm := by
  intro wC hC
  obtain ⟨t, kd, nu, k, ic, rfl⟩ := hC
  rcases (show nw = 0 ∨ nw = 1 ∨ nw = 2 ∨ nw = 3 ∨ nw = 4 ∨ nw = 5 by omega) with rfl | rfl | rfl | rfl | rfl | rfl
  · rw [CW_l]
    refine ⟨_, (Ct.frame (c_X4_tunes_ok O X E F Y Z V P 0 kn 1 (h 1) s rfl (by decide) hkn hI c r b hc hr hb hd) [0, 5, 6, 7, 8, 9, 15, 16, 22, 23, 24, 25, 26] rfl rfl (fun v w1 hf => ?_)).weaken (fun v w' hf => ?_), Nat.le_of_ble_eq_true rfl, Nat.le_of_ble_eq_true rfl, rfl, rfl⟩
    · obtain ⟨rfl, rfl⟩ := hf; rfl
    · obtain ⟨w1, ⟨rfl, rfl⟩, rfl⟩ := hf; exact ⟨rfl, t, kd, nu, k, ic, by rw [CW_l]; rfl⟩
  · rw [CW_l]
    refine ⟨_, (Ct.frame (c_X4_tunes_ok O X E F Y Z V P 1 kn 2 (h 2) s rfl (by decide) hkn hI c r b hc hr hb hd) [0, 5, 6, 7, 8, 9, 15, 16, 27, 28, 29, 30, 31] rfl rfl (fun v w1 hf => ?_)).weaken (fun v w' hf => ?_), Nat.le_of_ble_eq_true rfl, Nat.le_of_ble_eq_true rfl, rfl, rfl⟩
    · obtain ⟨rfl, rfl⟩ := hf; rfl
    · obtain ⟨w1, ⟨rfl, rfl⟩, rfl⟩ := hf; exact ⟨rfl, t, kd, nu, k, ic, by rw [CW_l]; rfl⟩
  · rw [CW_l]
    refine ⟨_, (Ct.frame (c_X4_tunes_ok O X E F Y Z V P 2 kn 3 (h 3) s rfl (by decide) hkn hI c r b hc hr hb hd) [0, 5, 6, 7, 8, 9, 15, 16, 32, 33, 34, 35, 36] rfl rfl (fun v w1 hf => ?_)).weaken (fun v w' hf => ?_), Nat.le_of_ble_eq_true rfl, Nat.le_of_ble_eq_true rfl, rfl, rfl⟩
    · obtain ⟨rfl, rfl⟩ := hf; rfl
    · obtain ⟨w1, ⟨rfl, rfl⟩, rfl⟩ := hf; exact ⟨rfl, t, kd, nu, k, ic, by rw [CW_l]; rfl⟩
  · rw [CW_l]
    refine ⟨_, (Ct.frame (c_X4_tunes_ok O X E F Y Z V P 3 kn 4 (h 4) s rfl (by decide) hkn hI c r b hc hr hb hd) [0, 5, 6, 7, 8, 9, 15, 16, 37, 38, 39, 40, 41] rfl rfl (fun v w1 hf => ?_)).weaken (fun v w' hf => ?_), Nat.le_of_ble_eq_true rfl, Nat.le_of_ble_eq_true rfl, rfl, rfl⟩
    · obtain ⟨rfl, rfl⟩ := hf; rfl
    · obtain ⟨w1, ⟨rfl, rfl⟩, rfl⟩ := hf; exact ⟨rfl, t, kd, nu, k, ic, by rw [CW_l]; rfl⟩
  · rw [CW_l]
    refine ⟨_, (Ct.frame (c_X4_tunes_ok O X E F Y Z V P 4 kn 5 (h 5) s rfl (by decide) hkn hI c r b hc hr hb hd) [0, 5, 6, 7, 8, 9, 15, 16, 42, 43, 44, 45, 46] rfl rfl (fun v w1 hf => ?_)).weaken (fun v w' hf => ?_), Nat.le_of_ble_eq_true rfl, Nat.le_of_ble_eq_true rfl, rfl, rfl⟩
    · obtain ⟨rfl, rfl⟩ := hf; rfl
    · obtain ⟨w1, ⟨rfl, rfl⟩, rfl⟩ := hf; exact ⟨rfl, t, kd, nu, k, ic, by rw [CW_l]; rfl⟩
  · rw [CW_l]
    refine ⟨_, (Ct.frame (c_X4_tunes_ok O X E F Y Z V P 5 kn 0 (h 0) s rfl (by decide) hkn hI c r b hc hr hb hd) [0, 5, 6, 7, 8, 9, 15, 16, 17, 18, 19, 20, 21] rfl rfl (fun v w1 hf => ?_)).weaken (fun v w' hf => ?_), Nat.le_of_ble_eq_true rfl, Nat.le_of_ble_eq_true rfl, rfl, rfl⟩
    · obtain ⟨rfl, rfl⟩ := hf; rfl
    · obtain ⟨w1, ⟨rfl, rfl⟩, rfl⟩ := hf; exact ⟨rfl, t, kd, nu, k, ic, by rw [CW_l]; rfl⟩

set_option maxHeartbeats 4000000 in
set_option maxRecDepth 100000 in
theorem L4_undo_ok (D : DX) (O : Nat) (X E F Y Z V : Nat → Nat) (P G : Nat → Nat → Nat) (s sg : SS) (n : Nat) (h : Nat → SS) (nw kn : Nat) (tk wh : SS) (m : Nat) (kp : SS) (g : Nat → SS) (pa kt : SS) (hnw : nw < 6) (hkn : 1 ≤ kn ∧ kn ≤ 6) : ∀ wC, CE D O X E F Y Z V P G (s, sg, n, h, nw, kn, tk, wh, m, kp, g, pa, kt) wC → ∃ rm, Ct D yX4_undo cX4_undo 1 (some .int) rm [.ref O] wC (fun v_ u_ => v_ = some (.int (nI (kn - 1))) ∧ CE D O X E F Y Z V P G (h nw, sg, n, h, (nw + 5) % 6, kn - 1, tk, wh, m, kp, g, pa, kt) u_) ∧ RB rm := by
  intro wC hC
  obtain ⟨t, kd, nu, k, ic, rfl⟩ := hC
  rcases (show nw = 0 ∨ nw = 1 ∨ nw = 2 ∨ nw = 3 ∨ nw = 4 ∨ nw = 5 by omega) with rfl | rfl | rfl | rfl | rfl | rfl
  · rw [CW_l]
    refine ⟨_, (Ct.frame (c_X4_undo_ok O X E F Y Z V P 0 kn 5 (h 0) s rfl (by decide) hkn) [0, 5, 6, 7, 8, 9, 15, 16, 17, 18, 19, 20, 21] rfl rfl (fun v w1 hf => ?_)).weaken (fun v w' hf => ?_), Nat.le_of_ble_eq_true rfl, Nat.le_of_ble_eq_true rfl, rfl, rfl⟩
    · obtain ⟨rfl, rfl⟩ := hf; rfl
    · obtain ⟨w1, ⟨rfl, rfl⟩, rfl⟩ := hf; exact ⟨rfl, t, kd, nu, k, ic, by rw [CW_l]; rfl⟩
  · rw [CW_l]
    refine ⟨_, (Ct.frame (c_X4_undo_ok O X E F Y Z V P 1 kn 0 (h 1) s rfl (by decide) hkn) [0, 5, 6, 7, 8, 9, 15, 16, 22, 23, 24, 25, 26] rfl rfl (fun v w1 hf => ?_)).weaken (fun v w' hf => ?_), Nat.le_of_ble_eq_true rfl, Nat.le_of_ble_eq_true rfl, rfl, rfl⟩
    · obtain ⟨rfl, rfl⟩ := hf; rfl
    · obtain ⟨w1, ⟨rfl, rfl⟩, rfl⟩ := hf; exact ⟨rfl, t, kd, nu, k, ic, by rw [CW_l]; rfl⟩
  · rw [CW_l]
    refine ⟨_, (Ct.frame (c_X4_undo_ok O X E F Y Z V P 2 kn 1 (h 2) s rfl (by decide) hkn) [0, 5, 6, 7, 8, 9, 15, 16, 27, 28, 29, 30, 31] rfl rfl (fun v w1 hf => ?_)).weaken (fun v w' hf => ?_), Nat.le_of_ble_eq_true rfl, Nat.le_of_ble_eq_true rfl, rfl, rfl⟩
    · obtain ⟨rfl, rfl⟩ := hf; rfl
    · obtain ⟨w1, ⟨rfl, rfl⟩, rfl⟩ := hf; exact ⟨rfl, t, kd, nu, k, ic, by rw [CW_l]; rfl⟩
  · rw [CW_l]
    refine ⟨_, (Ct.frame (c_X4_undo_ok O X E F Y Z V P 3 kn 2 (h 3) s rfl (by decide) hkn) [0, 5, 6, 7, 8, 9, 15, 16, 32, 33, 34, 35, 36] rfl rfl (fun v w1 hf => ?_)).weaken (fun v w' hf => ?_), Nat.le_of_ble_eq_true rfl, Nat.le_of_ble_eq_true rfl, rfl, rfl⟩
    · obtain ⟨rfl, rfl⟩ := hf; rfl
    · obtain ⟨w1, ⟨rfl, rfl⟩, rfl⟩ := hf; exact ⟨rfl, t, kd, nu, k, ic, by rw [CW_l]; rfl⟩
  · rw [CW_l]
    refine ⟨_, (Ct.frame (c_X4_undo_ok O X E F Y Z V P 4 kn 3 (h 4) s rfl (by decide) hkn) [0, 5, 6, 7, 8, 9, 15, 16, 37, 38, 39, 40, 41] rfl rfl (fun v w1 hf => ?_)).weaken (fun v w' hf => ?_), Nat.le_of_ble_eq_true rfl, Nat.le_of_ble_eq_true rfl, rfl, rfl⟩
    · obtain ⟨rfl, rfl⟩ := hf; rfl
    · obtain ⟨w1, ⟨rfl, rfl⟩, rfl⟩ := hf; exact ⟨rfl, t, kd, nu, k, ic, by rw [CW_l]; rfl⟩
  · rw [CW_l]
    refine ⟨_, (Ct.frame (c_X4_undo_ok O X E F Y Z V P 5 kn 4 (h 5) s rfl (by decide) hkn) [0, 5, 6, 7, 8, 9, 15, 16, 42, 43, 44, 45, 46] rfl rfl (fun v w1 hf => ?_)).weaken (fun v w' hf => ?_), Nat.le_of_ble_eq_true rfl, Nat.le_of_ble_eq_true rfl, rfl, rfl⟩
    · obtain ⟨rfl, rfl⟩ := hf; rfl
    · obtain ⟨w1, ⟨rfl, rfl⟩, rfl⟩ := hf; exact ⟨rfl, t, kd, nu, k, ic, by rw [CW_l]; rfl⟩

set_option maxHeartbeats 4000000 in
set_option maxRecDepth 100000 in
theorem L4_keep_ok (D : DX) (O : Nat) (X E F Y Z V : Nat → Nat) (P G : Nat → Nat → Nat) (s sg : SS) (n : Nat) (h : Nat → SS) (nw kn : Nat) (tk wh : SS) (m : Nat) (kp : SS) (g : Nat → SS) (pa kt : SS) (e : Nat) (he : e < 2) : ∀ wC, CE D O X E F Y Z V P G (s, sg, n, h, nw, kn, tk, wh, m, kp, g, pa, kt) wC → ∃ rm, Ct D yX4_keep cX4_keep 2 (some .int) rm [.ref O, .int (nI e)] wC (fun v_ u_ => v_ = some (.int (nI (els s 4))) ∧ CE D O X E F Y Z V P G (s, sg, n, h, nw, kn, tk, wh, m, upd kp e 1, hup g e s, pa, inN kt e s 455) u_) ∧ RB rm := by
  intro wC hC
  obtain ⟨t, kd, nu, k, ic, rfl⟩ := hC
  rcases (show e = 0 ∨ e = 1 by omega) with rfl | rfl
  · rw [CW_l]
    refine ⟨_, (Ct.frame (c_X4_keep_ok O X E F Y Z V G kp s (g 0) 0 (by decide)) [0, 5, 6, 7, 8, 9, 50, 61, 51, 52, 53, 54, 55] rfl rfl (fun v w1 hf => ?_)).weaken (fun v w' hf => ?_), Nat.le_of_ble_eq_true rfl, Nat.le_of_ble_eq_true rfl, rfl, rfl⟩
    · obtain ⟨rfl, rfl⟩ := hf; rfl
    · obtain ⟨w1, ⟨rfl, rfl⟩, rfl⟩ := hf; exact ⟨rfl, t, kd, nu, k, ic, by rw [CW_l]; rfl⟩
  · rw [CW_l]
    refine ⟨_, (Ct.frame (c_X4_keep_ok O X E F Y Z V G kp s (g 1) 1 (by decide)) [0, 5, 6, 7, 8, 9, 50, 61, 56, 57, 58, 59, 60] rfl rfl (fun v w1 hf => ?_)).weaken (fun v w' hf => ?_), Nat.le_of_ble_eq_true rfl, Nat.le_of_ble_eq_true rfl, rfl, rfl⟩
    · obtain ⟨rfl, rfl⟩ := hf; rfl
    · obtain ⟨w1, ⟨rfl, rfl⟩, rfl⟩ := hf; exact ⟨rfl, t, kd, nu, k, ic, by rw [CW_l]; rfl⟩

set_option maxHeartbeats 4000000 in
set_option maxRecDepth 100000 in
theorem L4_back_ok (D : DX) (O : Nat) (X E F Y Z V : Nat → Nat) (P G : Nat → Nat → Nat) (s sg : SS) (n : Nat) (h : Nat → SS) (nw kn : Nat) (tk wh : SS) (m : Nat) (kp : SS) (g : Nat → SS) (pa kt : SS) (e : Nat) (he : e < 2) (hk : kp e = 1) : ∀ wC, CE D O X E F Y Z V P G (s, sg, n, h, nw, kn, tk, wh, m, kp, g, pa, kt) wC → ∃ rm, Ct D yX4_back cX4_back 2 (some .int) rm [.ref O, .int (nI e)] wC (fun v_ u_ => v_ = some (.int (nI (els (g e) 4))) ∧ CE D O X E F Y Z V P G (g e, sg, n, h, nw, 0, tk, wh, m, kp, g, pa, kt) u_) ∧ RB rm := by
  intro wC hC
  obtain ⟨t, kd, nu, k, ic, rfl⟩ := hC
  rcases (show e = 0 ∨ e = 1 by omega) with rfl | rfl
  · rw [CW_l]
    refine ⟨_, (Ct.frame (c_X4_back_ok O X E F Y Z V G kp s (g 0) P nw kn 0 (by decide) hk) [0, 5, 6, 7, 8, 9, 50, 61, 51, 52, 53, 54, 55, 15, 16] rfl rfl (fun v w1 hf => ?_)).weaken (fun v w' hf => ?_), Nat.le_of_ble_eq_true rfl, Nat.le_of_ble_eq_true rfl, rfl, rfl⟩
    · obtain ⟨rfl, rfl⟩ := hf; rfl
    · obtain ⟨w1, ⟨rfl, rfl⟩, rfl⟩ := hf; exact ⟨rfl, t, kd, nu, k, ic, by rw [CW_l]; rfl⟩
  · rw [CW_l]
    refine ⟨_, (Ct.frame (c_X4_back_ok O X E F Y Z V G kp s (g 1) P nw kn 1 (by decide) hk) [0, 5, 6, 7, 8, 9, 50, 61, 56, 57, 58, 59, 60, 15, 16] rfl rfl (fun v w1 hf => ?_)).weaken (fun v w' hf => ?_), Nat.le_of_ble_eq_true rfl, Nat.le_of_ble_eq_true rfl, rfl, rfl⟩
    · obtain ⟨rfl, rfl⟩ := hf; rfl
    · obtain ⟨w1, ⟨rfl, rfl⟩, rfl⟩ := hf; exact ⟨rfl, t, kd, nu, k, ic, by rw [CW_l]; rfl⟩

