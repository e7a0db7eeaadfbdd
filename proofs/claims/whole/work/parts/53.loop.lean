section LW3
variable {D : DX} {p : Program} {e : Env} {s : State} {m : MethodId} {below : List Frame} {meth : Method} {c : Code} {b L : Nat} {xs : Nat → Int32}
set_option maxHeartbeats 4000000 in
theorem law_loop {O : Nat} {X E F Y Z V : Nat → Nat} {P G : Nat → Nat → Nat} {M : Nat → Nat} {a : Nat → Nat} (hz : zT D a) (hX : va_X b L xs s s.heap) (hbl : b < s.heap.size) (hL : L ≤ 2560) : ∀ (f i : Nat), i ≤ L → L - i < f → ∀ (K : KT) (wC wM : va_W), RelP K → CE D O X E F Y Z V P G K wC → ME D M K wM → J D (GL p e s m b below meth c) (yLw meth) code 4 ret room_1 (lw_Z below #[Value.ref b] s) 72 9486 (wC ++ wM) 18 (lvL b O (M 0) i) []
  | 0, i, hi, hf => absurd hf (Nat.not_lt_zero _)
  | f + 1, i, hi, hf => by
    intro K wC wM R hC hM
    have ih := law_loop (O := O) (X := X) (E := E) (F := F) (Y := Y) (Z := Z) (V := V) (P := P) (G := G) (M := M) hz hX hbl hL f (i + 5)
    refine j_iload_n dL_law_18 3 rfl ?_
    refine j_aload_n dL_law_19 0 rfl ?_
    refine jl_len hX hbl dL_law_20 ?_
    refine j_iconst (v := 5) dL_law_21 rfl ?_
    refine j_isub dL_law_22 rfl ?_
    refine j_icmp_gt (tgt := 792) dL_law_23 (by decide) (fun _ => ?_) (fun q => ?_)
    · refine j_iconst (v := 1) dL_law_792 rfl ?_
      exact jl_end (Nat.le_of_ble_eq_true rfl) (Nat.le_of_ble_eq_true rfl) dL_law_793
    · have h5 : i + 5 ≤ L := lw_lim hi hL q
      have nx : ∀ (K' : KT) (wC' wM' : va_W), RelP K' → CE D O X E F Y Z V P G K' wC' → ME D M K' wM' → J D (GL p e s m b below meth c) (yLw meth) code 4 ret room_1 (lw_Z below #[Value.ref b] s) 72 9486 (wC' ++ wM') 786 (lvL b O (M 0) i) [] := by
        intro K' wC' wM' R' hC' hM'
        refine j_iinc (v := nI (i + 5)) (lv2 := lvL b O (M 0) (i + 5)) dL_law_786 3 rfl (nI_add i 5) (by decide) [1, 2, 3, 0] rfl ?_
        refine j_goto (tgt := 18) dL_law_789 (by decide) ?_
        exact ih h5 (by omega) K' wC' wM' R' hC' hM'
      refine j_aload_n dL_law_26 0 rfl ?_
      refine j_iload_n dL_law_27 3 rfl ?_
      refine jl_ld hX hbl rfl (by omega) (by omega) dL_law_28 ?_
      refine j_bipush (v := 31) dL_law_29 rfl ?_
      obtain ⟨j, hj, ej⟩ := and31 (xs i)
      refine j_iand dL_law_31 ej ?_
      obtain ⟨s1, sg, n1, h, nw, kn, tk, wh, m1, kp, g, pa, kt⟩ := K
      rcases (show j = 0 ∨ j = 1 ∨ j = 2 ∨ j = 3 ∨ j = 4 ∨ j = 5 ∨ j = 6 ∨ j = 7 ∨ j = 8 ∨ j = 9 ∨ j = 10 ∨ j = 11 ∨ j = 12 ∨ j = 13 ∨ j = 14 ∨ j = 15 ∨ j = 16 ∨ j = 17 ∨ j = 18 ∨ j = 19 ∨ j = 20 ∨ j = 21 ∨ j = 22 ∨ j = 23 ∨ 24 ≤ j by omega) with rfl | rfl | rfl | rfl | rfl | rfl | rfl | rfl | rfl | rfl | rfl | rfl | rfl | rfl | rfl | rfl | rfl | rfl | rfl | rfl | rfl | rfl | rfl | rfl | hj2
      · exact j_tableIn (off := 112) (tgt := 144) dL_law_32 (by rw [nI_toInt (n := 0) (by decide)]; decide) (by rw [nI_toInt (n := 0) (by decide)]; decide) (by rw [nI_toInt (n := 0) (by decide)]; rfl) (by decide) (lc_type hX hbl hL h5 (S_type D O X E F Y Z V P G M s1 sg n1 h nw kn tk wh m1 kp g pa kt R (xs (i + 1))) hC hM nx)
      · exact j_tableIn (off := 135) (tgt := 167) dL_law_32 (by rw [nI_toInt (n := 1) (by decide)]; decide) (by rw [nI_toInt (n := 1) (by decide)]; decide) (by rw [nI_toInt (n := 1) (by decide)]; rfl) (by decide) (lc_clear hX hbl hL h5 (S_clear D O X E F Y Z V P G M s1 sg n1 h nw kn tk wh m1 kp g pa kt R) hC hM nx)
      · exact j_tableIn (off := 148) (tgt := 180) dL_law_32 (by rw [nI_toInt (n := 2) (by decide)]; decide) (by rw [nI_toInt (n := 2) (by decide)]; decide) (by rw [nI_toInt (n := 2) (by decide)]; rfl) (by decide) (lc_posts hX hbl hL h5 (S_posts D O X E F Y Z V P G M s1 sg n1 h nw kn tk wh m1 kp g pa kt R a hz) hC hM nx)
      · exact j_tableIn (off := 161) (tgt := 193) dL_law_32 (by rw [nI_toInt (n := 3) (by decide)]; decide) (by rw [nI_toInt (n := 3) (by decide)]; decide) (by rw [nI_toInt (n := 3) (by decide)]; rfl) (by decide) (lc_ticks hX hbl hL h5 (S_ticks D O X E F Y Z V P G M s1 sg n1 h nw kn tk wh m1 kp g pa kt R (xs (i + 1))) hC hM nx)
      · exact j_tableIn (off := 184) (tgt := 216) dL_law_32 (by rw [nI_toInt (n := 4) (by decide)]; decide) (by rw [nI_toInt (n := 4) (by decide)]; decide) (by rw [nI_toInt (n := 4) (by decide)]; rfl) (by decide) (lc_cancels hX hbl hL h5 (S_cancels D O X E F Y Z V P G M s1 sg n1 h nw kn tk wh m1 kp g pa kt R (xs (i + 1))) hC hM nx)
      · exact j_tableIn (off := 207) (tgt := 239) dL_law_32 (by rw [nI_toInt (n := 5) (by decide)]; decide) (by rw [nI_toInt (n := 5) (by decide)]; decide) (by rw [nI_toInt (n := 5) (by decide)]; rfl) (by decide) (lc_switches hX hbl hL h5 (S_switches D O X E F Y Z V P G M s1 sg n1 h nw kn tk wh m1 kp g pa kt R (xs (i + 1))) hC hM nx)
      · exact j_tableIn (off := 230) (tgt := 262) dL_law_32 (by rw [nI_toInt (n := 6) (by decide)]; decide) (by rw [nI_toInt (n := 6) (by decide)]; decide) (by rw [nI_toInt (n := 6) (by decide)]; rfl) (by decide) (lc_tunes hX hbl hL h5 (S_tunes D O X E F Y Z V P G M s1 sg n1 h nw kn tk wh m1 kp g pa kt R (xs (i + 1)) (xs (i + 2)) (xs (i + 3))) hC hM nx)
      · exact j_tableIn (off := 273) (tgt := 305) dL_law_32 (by rw [nI_toInt (n := 7) (by decide)]; decide) (by rw [nI_toInt (n := 7) (by decide)]; decide) (by rw [nI_toInt (n := 7) (by decide)]; rfl) (by decide) (lc_undo hX hbl hL h5 (S_undo D O X E F Y Z V P G M s1 sg n1 h nw kn tk wh m1 kp g pa kt R) hC hM nx)
      · exact j_tableIn (off := 286) (tgt := 318) dL_law_32 (by rw [nI_toInt (n := 8) (by decide)]; decide) (by rw [nI_toInt (n := 8) (by decide)]; decide) (by rw [nI_toInt (n := 8) (by decide)]; rfl) (by decide) (lc_at hX hbl hL h5 (S_at D O X E F Y Z V P G M s1 sg n1 h nw kn tk wh m1 kp g pa kt R (xs (i + 1))) hC hM nx)
      · exact j_tableIn (off := 309) (tgt := 341) dL_law_32 (by rw [nI_toInt (n := 9) (by decide)]; decide) (by rw [nI_toInt (n := 9) (by decide)]; decide) (by rw [nI_toInt (n := 9) (by decide)]; rfl) (by decide) (lc_channel hX hbl hL h5 (S_channel D O X E F Y Z V P G M s1 sg n1 h nw kn tk wh m1 kp g pa kt R (xs (i + 1)) (xs (i + 2))) hC hM nx)
      · exact j_tableIn (off := 342) (tgt := 374) dL_law_32 (by rw [nI_toInt (n := 10) (by decide)]; decide) (by rw [nI_toInt (n := 10) (by decide)]; decide) (by rw [nI_toInt (n := 10) (by decide)]; rfl) (by decide) (lc_slot hX hbl hL h5 (S_slot D O X E F Y Z V P G M s1 sg n1 h nw kn tk wh m1 kp g pa kt R (xs (i + 1)) (xs (i + 2)) (xs (i + 3))) hC hM nx)
      · exact j_tableIn (off := 385) (tgt := 417) dL_law_32 (by rw [nI_toInt (n := 11) (by decide)]; decide) (by rw [nI_toInt (n := 11) (by decide)]; decide) (by rw [nI_toInt (n := 11) (by decide)]; rfl) (by decide) (lc_unit hX hbl hL h5 (S_unit D O X E F Y Z V P G M s1 sg n1 h nw kn tk wh m1 kp g pa kt R (xs (i + 1)) (xs (i + 2)) (xs (i + 3)) (xs (i + 4))) hC hM nx)
      · exact j_tableIn (off := 438) (tgt := 470) dL_law_32 (by rw [nI_toInt (n := 12) (by decide)]; decide) (by rw [nI_toInt (n := 12) (by decide)]; decide) (by rw [nI_toInt (n := 12) (by decide)]; rfl) (by decide) (lc_waiting hX hbl hL h5 (S_waiting D O X E F Y Z V P G M s1 sg n1 h nw kn tk wh m1 kp g pa kt R (xs (i + 1))) hC hM nx)
      · exact j_tableIn (off := 461) (tgt := 493) dL_law_32 (by rw [nI_toInt (n := 13) (by decide)]; decide) (by rw [nI_toInt (n := 13) (by decide)]; decide) (by rw [nI_toInt (n := 13) (by decide)]; rfl) (by decide) (lc_both hX hbl hL h5 (S_both D O X E F Y Z V P G M s1 sg n1 h nw kn tk wh m1 kp g pa kt R (xs (i + 1)) (xs (i + 2)) (xs (i + 3)) (xs (i + 4))) hC hM nx)
      · exact j_tableIn (off := 514) (tgt := 546) dL_law_32 (by rw [nI_toInt (n := 14) (by decide)]; decide) (by rw [nI_toInt (n := 14) (by decide)]; decide) (by rw [nI_toInt (n := 14) (by decide)]; rfl) (by decide) (lc_over hX hbl hL h5 (S_over D O X E F Y Z V P G M s1 sg n1 h nw kn tk wh m1 kp g pa kt R (xs (i + 1))) hC hM nx)
      · exact j_tableIn (off := 537) (tgt := 569) dL_law_32 (by rw [nI_toInt (n := 15) (by decide)]; decide) (by rw [nI_toInt (n := 15) (by decide)]; decide) (by rw [nI_toInt (n := 15) (by decide)]; rfl) (by decide) (lc_lands hX hbl hL h5 (S_lands D O X E F Y Z V P G M s1 sg n1 h nw kn tk wh m1 kp g pa kt R (xs (i + 1))) hC hM nx)
      · exact j_tableIn (off := 560) (tgt := 592) dL_law_32 (by rw [nI_toInt (n := 16) (by decide)]; decide) (by rw [nI_toInt (n := 16) (by decide)]; decide) (by rw [nI_toInt (n := 16) (by decide)]; rfl) (by decide) (lc_enough hX hbl hL h5 (S_enough D O X E F Y Z V P G M s1 sg n1 h nw kn tk wh m1 kp g pa kt R (xs (i + 1)) (xs (i + 2))) hC hM nx)
      · exact j_tableIn (off := 593) (tgt := 625) dL_law_32 (by rw [nI_toInt (n := 17) (by decide)]; decide) (by rw [nI_toInt (n := 17) (by decide)]; decide) (by rw [nI_toInt (n := 17) (by decide)]; rfl) (by decide) (lc_granted hX hbl hL h5 (S_granted D O X E F Y Z V P G M s1 sg n1 h nw kn tk wh m1 kp g pa kt R (xs (i + 1))) hC hM nx)
      · exact j_tableIn (off := 616) (tgt := 648) dL_law_32 (by rw [nI_toInt (n := 18) (by decide)]; decide) (by rw [nI_toInt (n := 18) (by decide)]; decide) (by rw [nI_toInt (n := 18) (by decide)]; rfl) (by decide) (lc_sees hX hbl hL h5 (S_sees D O X E F Y Z V P G M s1 sg n1 h nw kn tk wh m1 kp g pa kt R (xs (i + 1)) (xs (i + 2))) hC hM nx)
      · exact j_tableIn (off := 649) (tgt := 681) dL_law_32 (by rw [nI_toInt (n := 19) (by decide)]; decide) (by rw [nI_toInt (n := 19) (by decide)]; decide) (by rw [nI_toInt (n := 19) (by decide)]; rfl) (by decide) (lc_forget hX hbl hL h5 (S_forget D O X E F Y Z V P G M s1 sg n1 h nw kn tk wh m1 kp g pa kt R) hC hM nx)
      · exact j_tableIn (off := 662) (tgt := 694) dL_law_32 (by rw [nI_toInt (n := 20) (by decide)]; decide) (by rw [nI_toInt (n := 20) (by decide)]; decide) (by rw [nI_toInt (n := 20) (by decide)]; rfl) (by decide) (lc_ranks hX hbl hL h5 (S_ranks D O X E F Y Z V P G M s1 sg n1 h nw kn tk wh m1 kp g pa kt R (xs (i + 1))) hC hM nx)
      · exact j_tableIn (off := 685) (tgt := 717) dL_law_32 (by rw [nI_toInt (n := 21) (by decide)]; decide) (by rw [nI_toInt (n := 21) (by decide)]; decide) (by rw [nI_toInt (n := 21) (by decide)]; rfl) (by decide) (lc_keep hX hbl hL h5 (S_keep D O X E F Y Z V P G M s1 sg n1 h nw kn tk wh m1 kp g pa kt R (xs (i + 1))) hC hM nx)
      · exact j_tableIn (off := 708) (tgt := 740) dL_law_32 (by rw [nI_toInt (n := 22) (by decide)]; decide) (by rw [nI_toInt (n := 22) (by decide)]; decide) (by rw [nI_toInt (n := 22) (by decide)]; rfl) (by decide) (lc_back hX hbl hL h5 (S_back D O X E F Y Z V P G M s1 sg n1 h nw kn tk wh m1 kp g pa kt R (xs (i + 1))) hC hM nx)
      · exact j_tableIn (off := 731) (tgt := 763) dL_law_32 (by rw [nI_toInt (n := 23) (by decide)]; decide) (by rw [nI_toInt (n := 23) (by decide)]; decide) (by rw [nI_toInt (n := 23) (by decide)]; rfl) (by decide) (lc_count hX hbl hL h5 (S_count D O X E F Y Z V P G M s1 sg n1 h nw kn tk wh m1 kp g pa kt R (xs (i + 1))) hC hM nx)
      · exact j_tableOut (tgt := 786) dL_law_32 (Or.inr (by rw [nI_toInt (by omega)]; omega)) (by decide) (nx _ wC wM R hC hM)
end LW3
