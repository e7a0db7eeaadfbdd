theorem ca1_ne {s : SS} {p k : Nat} (h : k ≠ 93 + 14 * p + 9 ∧ k ≠ 93 + 14 * p + 10) : ca1 s p k = s k := by unfold ca1; rw [up_ne h.2, up_ne h.1]
theorem Inv_c1 {s : SS} {p : Nat} (h : Inv s) (hp : p < 24) (hh : s (92 + 14 * p) ≠ 0) : Inv (ca1 s p) := by
  have h1 : Inv (upd s (93 + 14 * p + 9) 0) := Inv_L h hp (by decide) (LeOk_ow (h.2.1 p hp) hh)
  exact Inv_free h1 (fr_le hp (by decide) (by decide))
theorem ca1_M {t : SS} {c h : Nat} {x y : Int32} (hc : c < 4) (hh : h < 6) : upd (upd (upd (upd t (64 + 7 * c + 4) x) (93 + 14 * (c * 6 + h) + 9) 0) (93 + 14 * (c * 6 + h) + 10) 2) (64 + 7 * c + 4) y = upd (ca1 t (c * 6 + h)) (64 + 7 * c + 4) y := by
  unfold ca1
  rw [upd_cm (f := t) (by omega), upd_cm (k := 64 + 7 * c + 4) (i := 93 + 14 * (c * 6 + h) + 10) (by omega), upd_uu]
theorem wbF_has {s : SS} {p q : Nat} (hp : p < 24) (hq : q < 24) : wbF s p (92 + 14 * q) = s (92 + 14 * q) := by
  unfold wbF
  rw [up_ne (by omega), wb2_ne ⟨by omega, by omega, by omega, by omega⟩]
theorem waF_has {s : SS} {c q : Nat} (h : Inv s) (hq : q < 24) : waF s c (92 + 14 * q) = s (92 + 14 * q) := by
  unfold waF
  split
  · rfl
  · rename_i z
    split
    · exact wbF_has (h.qu_ z).2.2 hq
    · rfl
theorem waF_ph {s : SS} {c : Nat} (h : Inv s) (hc : c < 4) : hd (waF s c) c = hd s c := by
  unfold waF
  split
  · rfl
  · rename_i z
    have := (h.qu_ z).2.2
    split
    · unfold wbF hd gC
      rw [up_ne (by omega), wb2_ne ⟨by omega, by omega, by omega, by omega⟩]
    · rfl
theorem waF_hd {s : SS} {c : Nat} (h : Inv s) (hc : c < 4) (ht : tc s (pl s c) = true) : waF s c (92 + 14 * (c * 6 + hd (waF s c) c)) ≠ 0 := by
  rw [waF_ph h hc, show c * 6 + hd s c = pl s c from rfl, waF_has h (h.pl_ hc)]
  exact h.tc_ (h.pl_ hc) ht
/-- the letters from here back to where it began are the host's: f more to go -/
def caQ (t : SS) (c h f : Nat) : Prop := f ≤ 5 ∧ ∀ j, f < j → j ≤ 5 → eng t (c * 6 + (h + j) % 6) = false
theorem caQ_0 {t : SS} {c h : Nat} : caQ t c h 5 := ⟨Nat.le_refl _, fun j h1 h2 => absurd h1 (by omega)⟩
theorem ca1_eng {t : SS} {p q : Nat} (h : eng t q = false ∨ q = p) (hp : p < 24) (hq : q < 24) : eng (ca1 t p) q = false := by
  by_cases e : q = p
  · subst e
    unfold eng gL ca1
    rw [up_ne (by omega), up_eq]; rfl
  · rcases h with h | h
    · unfold eng gL at *
      rw [ca1_ne ⟨by omega, by omega⟩]; exact h
    · exact absurd h e
theorem caQ_s {t : SS} {c h f : Nat} (hQ : caQ t c h f) (hh : h < 6) (he : eng (ca1 t (c * 6 + h)) (c * 6 + (h + 1) % 6) = true) (hc : c < 4 := by omega) : ∃ f1, f = f1 + 1 ∧ caQ (ca1 t (c * 6 + h)) c ((h + 1) % 6) f1 := by
  have hm : (h + 1) % 6 < 6 := Nat.mod_lt _ (by decide)
  rcases f with _ | f1
  · have := ca1_eng (p := c * 6 + h) (Or.inl (hQ.2 1 (by omega) (by omega))) (by omega) (by omega)
    rw [this] at he; cases he
  · refine ⟨f1, rfl, by have := hQ.1; omega, fun j h1 h2 => ?_⟩
    have hm2 : ((h + 1) % 6 + j) % 6 < 6 := Nat.mod_lt _ (by decide)
    by_cases e5 : j = 5
    · refine ca1_eng (Or.inr ?_) (by omega) (by omega)
      subst e5; omega
    · refine ca1_eng (Or.inl ?_) (by omega) (by omega)
      have := hQ.2 (j + 1) (by omega) (by omega)
      rw [show ((h + 1) % 6 + j) % 6 = (h + (j + 1)) % 6 by omega]
      exact this
theorem Inv_cN {c : Nat} (hc : c < 4) : ∀ (f : Nat) (t : SS) (h : Nat) (a : Int32), Inv t → h < 6 → t (92 + 14 * (c * 6 + h)) ≠ 0 → Inv (caN f t c h a).1 ∧ (caN f t c h a).2.1 < 6
  | 0, t, h, a, hI, hh, _ => ⟨hI, hh⟩
  | f + 1, t, h, a, hI, hh, hz => by
    have h1 := Inv_c1 hI (show c * 6 + h < 24 by omega) hz
    have hm : (h + 1) % 6 < 6 := Nat.mod_lt _ (by decide)
    unfold caN
    split
    · rename_i q
      exact Inv_cN hc f _ _ _ h1 hm (h1.eng_ (by omega) q.2)
    · exact ⟨h1, hm⟩
theorem Inv_cn {s : SS} {c : Nat} (h : Inv s) (hc : c < 4) (ht : tc s (pl s c) = true) : Inv (cnF s c) := by
  have := Inv_cN hc 6 (waF s c) (hd (waF s c) c) 0 (Inv_wa h) ((Inv_wa h).hd_ hc).2 (waF_hd h hc ht)
  exact Inv_h this.1 hc this.2
def hsE (s : SS) (c i : Nat) : Bool := decide (0 < cnt (fun j => eng s (c * 6 + j)) i)
theorem hsE_1 {s : SS} {c i : Nat} (h : hsE s c i = true) : hsE s c (i + 1) = true := by
  have := of_decide_eq_true h
  refine decide_eq_true ?_
  show 0 < _ + _
  omega
theorem hsE_2 {s : SS} {c i : Nat} (h : hsE s c i = false) (h2 : eng s (c * 6 + i) = false) : hsE s c (i + 1) = false := by
  have := of_decide_eq_false h
  refine decide_eq_false ?_
  rw [cnt_f (f := fun j => eng s (c * 6 + j)) h2]; exact this
theorem hsE_3 {s : SS} {c i : Nat} (h2 : eng s (c * 6 + i) = true) : hsE s c (i + 1) = true := by
  refine decide_eq_true ?_
  rw [cnt_t (f := fun j => eng s (c * 6 + j)) h2]; omega
theorem hsE_p {s : SS} {c j : Nat} (h : hsE (itk true s j) c 6 = true) : ovP true s c j = false := by
  have := of_decide_eq_true h
  refine decide_eq_false ?_
  show ¬ cnt _ 6 = 0
  omega
theorem hsE_n {s : SS} {c j : Nat} (h : hsE (itk true s j) c 6 = false) : ovP true s c j = true := by
  have := of_decide_eq_false h
  refine decide_eq_true ?_
  show cnt _ 6 = 0
  omega
theorem nI_dec {b : Nat} (h : 1 ≤ b) : nI b + (-1) = nI (b - 1) := by
  rw [← pk_sub h, Int32.sub_eq_add_neg]; rfl
theorem fsN_les {f : Nat → Bool} : ∀ (r r2 j : Nat) {d : Nat}, fsN f r2 j = some d → d < j + r → fsN f r j = some d
  | 0, r2, j, d, h, hd => by have := fsN_ge r2 j h; omega
  | r + 1, 0, j, d, h, hd => by cases h
  | r + 1, r2 + 1, j, d, h, hd => by
    unfold fsN at *
    split
    · rename_i q; rw [if_pos q] at h; exact h
    · rename_i q; rw [if_neg q] at h; exact fsN_les r r2 (j + 1) h (by omega)
theorem fsN_nn {f : Nat → Bool} : ∀ (r r2 j : Nat), r ≤ r2 → fsN f r2 j = none → fsN f r j = none
  | 0, r2, j, _, h => rfl
  | r + 1, 0, j, h1, h => absurd h1 (by omega)
  | r + 1, r2 + 1, j, h1, h => by
    unfold fsN at *
    split
    · rename_i q; rw [if_pos q] at h; cases h
    · rename_i q; rw [if_neg q] at h; exact fsN_nn r r2 (j + 1) (by omega) h
theorem fsN_far {f : Nat → Bool} {r r2 j d : Nat} (h : fsN f r2 j = some d) (hd : j + r ≤ d) : fsN f r j = none := by
  rcases e : fsN f r j with _ | d2
  · rfl
  · have h1 := fsN_ge r j e
    have h2 := fsN_ge r2 j h
    have := fsN_les r2 r j e (by omega)
    rw [this] at h; cases h; omega
theorem en_n {s : SS} {c n b : Nat} (hn : n ≤ 200) (h : ovF true (upd s (64 + 7 * c + 2) (nI b)) c 200 = none) : enP s c n b = false := by
  unfold enP
  rw [show ovF true (upd s (64 + 7 * c + 2) (nI b)) c n = none from fsN_nn (n + 1) 201 0 (by omega) h]; rfl
theorem en_g {s : SS} {c n b d : Nat} (h : ovF true (upd s (64 + 7 * c + 2) (nI b)) c 200 = some d) (hd : n < d) : enP s c n b = false := by
  unfold enP
  rw [show ovF true (upd s (64 + 7 * c + 2) (nI b)) c n = none from fsN_far (r := n + 1) (r2 := 201) h (by omega)]; rfl
theorem en_y {s : SS} {c n b d : Nat} (hn : n ≤ 200) (h : ovF true (upd s (64 + 7 * c + 2) (nI b)) c 200 = some d) (hd : ¬ n < d) : enP s c n b = true := by
  unfold enP
  rw [show ovF true (upd s (64 + 7 * c + 2) (nI b)) c n = some d from fsN_les (n + 1) 201 0 h (by omega)]; rfl
theorem en_f {s : SS} {c n b : Nat} (h1 : 1 ≤ b) (h2 : b ≤ 8) (h : enP s c n b = false) : fsN (enP s c n) (8 - (b - 1)) (b - 1 + 1) = fsN (enP s c n) (8 - b) (b + 1) := by
  rw [show b - 1 + 1 = b by omega, show 8 - (b - 1) = (8 - b) + 1 by omega, fsN_f h]
theorem en_t {s : SS} {c n b : Nat} (h1 : 1 ≤ b) (h2 : b ≤ 8) (h : enP s c n b = true) : fsN (enP s c n) (8 - (b - 1)) (b - 1 + 1) = some b := by
  rw [show b - 1 + 1 = b by omega, show 8 - (b - 1) = (8 - b) + 1 by omega, fsN_t h]
section MD5
variable {D : DX}
set_option maxHeartbeats 4000000 in
set_option maxRecDepth 100000 in
theorem c_X5_cancels_ok (M : Nat → Nat) (u : Nat) (r : RT) (s pa sp : SS) (hu : u ≤ 6) (hI : Inv s) (c : Nat) (hc : c < 4) (ht : tc s (pl s c) = true) : Ct D yX5_cancels cX5_cancels 6 (some .int) ({ frames := 3, cells := 0, slots := 0, locals := 66 } : Room) [.ref (M 0), .int (nI c)] ((MO D M (u, r)) ++ (AR D (M 1) 455 s) ++ (AR D (M 2) 2730 pa) ++ (AR D (M 5) 455 sp)) (fun v_ u_ => v_ = some (.int (cnA s c)) ∧ u_ = (MO D M (min (u + 1) 6, r)) ++ (AR D (M 1) 455 (cnF s c)) ++ (AR D (M 2) 2730 (rmF pa u s)) ++ (AR D (M 5) 455 s)) := by
  refine ct_of (by decide) (Nat.le_of_ble_eq_true rfl) (lv0 := [(0, .ref (M 0)), (1, .int (nI c))]) rfl (fun Γ => ?_)
  refine j_iload_n dX5_cancels_0 1 rfl ?_
  refine j_S (w2 := (MO D M (u, r)) ++ (AR D (M 1) 455 s) ++ (AR D (M 2) 2730 pa) ++ (AR D (M 5) 455 sp)) (st2 := [.int (bI (inR (nI c) (nI 0) (nI 3)))]) (c_X5_isChannel (nI c)) rfl cw_X5_141 dX5_cancels_1 [] rfl [] rfl rfl rfl ?_ ⟨rfl, ⟨Nat.le_of_ble_eq_true rfl, Nat.le_of_ble_eq_true rfl⟩, ⟨rfl, rfl⟩, ⟨Nat.le_of_ble_eq_true rfl, Nat.le_of_ble_eq_true rfl⟩, Nat.le_of_ble_eq_true rfl, rfl, rfl⟩
  refine j_if_ne_B (tgt := 9) dX5_cancels_4 (by decide) (fun h4 => ?_) (fun h4 => absurd (inR_in (by omega) (by omega) (by omega)) (nBool h4))
  refine j_aload_n dX5_cancels_9 0 rfl ?_
  refine j_iload_n dX5_cancels_10 1 rfl ?_
  refine j_V (w2 := (MO D M (u, r)) ++ (AR D (M 1) 455 s) ++ (AR D (M 2) 2730 pa) ++ (AR D (M 5) 455 sp)) (st2 := [.int (prM s c)]) (c_X5_present M (u, r) s hI c (by omega)) rfl cw_X5_114 dX5_cancels_11 [] rfl [0, 1] rfl rfl rfl 5 ?_ ⟨rfl, ⟨Nat.le_of_ble_eq_true rfl, Nat.le_of_ble_eq_true rfl⟩, ⟨rfl, rfl⟩, ⟨Nat.le_of_ble_eq_true rfl, Nat.le_of_ble_eq_true rfl⟩, Nat.le_of_ble_eq_true rfl, rfl, rfl⟩ rfl rfl rfl
  refine j_topi (v := nI (92 + 14 * pl s c)) (prM_t ht) ?_
  refine j_bipush (v := (-9)) dX5_cancels_14 (by decide) ?_
  refine j_icmp_ne (tgt := 22) dX5_cancels_16 (by decide) (fun h16 => ?_) (fun h16 => absurd h16 (nI_m9 (by have := hI.pl_ hc; omega)))
  refine j_aload_n dX5_cancels_22 0 rfl ?_
  refine j_V (w2 := (MO D M (u, r)) ++ (AR D (M 1) 455 s) ++ (AR D (M 2) 2730 pa) ++ (AR D (M 5) 455 s)) (st2 := []) (c_X5_keepsSpare M (u, r) s sp) rfl cw_X5_105 dX5_cancels_23 [] rfl [0, 1, 3] rfl rfl rfl 5 ?_ ⟨rfl, ⟨Nat.le_of_ble_eq_true rfl, Nat.le_of_ble_eq_true rfl⟩, ⟨rfl, rfl⟩, ⟨Nat.le_of_ble_eq_true rfl, Nat.le_of_ble_eq_true rfl⟩, Nat.le_of_ble_eq_true rfl, rfl, rfl⟩ rfl rfl rfl
  refine j_aload_n dX5_cancels_26 0 rfl ?_
  refine j_V (w2 := (MO D M (min (u + 1) 6, r)) ++ (AR D (M 1) 455 s) ++ (AR D (M 2) 2730 (rmF pa u s)) ++ (AR D (M 5) 455 s)) (st2 := []) (c_X5_rem M u r pa s (by omega)) rfl cw_X5_111 dX5_cancels_27 [] rfl [0, 2, 3] rfl rfl rfl 5 ?_ ⟨rfl, ⟨Nat.le_of_ble_eq_true rfl, Nat.le_of_ble_eq_true rfl⟩, ⟨rfl, rfl⟩, ⟨Nat.le_of_ble_eq_true rfl, Nat.le_of_ble_eq_true rfl⟩, Nat.le_of_ble_eq_true rfl, rfl, rfl⟩ rfl rfl rfl
  refine j_aload_n dX5_cancels_30 0 rfl ?_
  refine j_iload_n dX5_cancels_31 1 rfl ?_
  refine j_V (w2 := (MO D M (min (u + 1) 6, r)) ++ (AR D (M 1) 455 (waF s c)) ++ (AR D (M 2) 2730 (rmF pa u s)) ++ (AR D (M 5) 455 s)) (st2 := []) (c_X5_writesAll M (min (u + 1) 6, r) s hI c (by omega)) rfl cw_X5_144 dX5_cancels_32 [] rfl [0, 1] rfl rfl rfl 5 ?_ ⟨rfl, ⟨Nat.le_of_ble_eq_true rfl, Nat.le_of_ble_eq_true rfl⟩, ⟨rfl, rfl⟩, ⟨Nat.le_of_ble_eq_true rfl, Nat.le_of_ble_eq_true rfl⟩, Nat.le_of_ble_eq_true rfl, rfl, rfl⟩ rfl rfl rfl
  refine j_iload_n dX5_cancels_35 1 rfl ?_
  refine j_S (w2 := (MO D M (min (u + 1) 6, r)) ++ (AR D (M 1) 455 (waF s c)) ++ (AR D (M 2) 2730 (rmF pa u s)) ++ (AR D (M 5) 455 s)) (st2 := [.int (nI (64 + 7 * c))]) (c_X5_channelAt c) rfl cw_X5_75 dX5_cancels_36 [] rfl [] rfl rfl rfl ?_ ⟨rfl, ⟨Nat.le_of_ble_eq_true rfl, Nat.le_of_ble_eq_true rfl⟩, ⟨rfl, rfl⟩, ⟨Nat.le_of_ble_eq_true rfl, Nat.le_of_ble_eq_true rfl⟩, Nat.le_of_ble_eq_true rfl, rfl, rfl⟩
  refine j_istore_n (lv2 := [(0, .ref (M 0)), (1, .int (nI c)), (2, .int (nI (64 + 7 * c)))]) dX5_cancels_39 (by decide) [1, 2, 0] rfl ?_
  refine j_w (w2 := (MO D M (min (u + 1) 6, r)) ++ (AR D (M 1) 455 (upd (waF s c) (64 + 7 * c + 4) (nI (hd (waF s c) c)))) ++ (AR D (M 2) 2730 (rmF pa u s)) ++ (AR D (M 5) 455 s)) (by rw [upd_id (f := waF s c) ((Inv_wa hI).hd_ hc).1.symm]) ?_
  refine j_iconst (v := nI 0) dX5_cancels_40 (by decide) ?_
  refine j_istore_n (lv2 := [(0, .ref (M 0)), (1, .int (nI c)), (2, .int (nI (64 + 7 * c))), (3, .int (nI 0))]) dX5_cancels_41 (by decide) [1, 2, 3, 0] rfl ?_
  refine j_iconst (v := nI 1) dX5_cancels_42 (by decide) ?_
  refine j_topi (v := bI true) rfl ?_
  refine j_istore (lv2 := [(0, .ref (M 0)), (1, .int (nI c)), (2, .int (nI (64 + 7 * c))), (3, .int (nI 0)), (4, .int (bI true))]) dX5_cancels_43 (by decide) [1, 2, 3, 4, 0] rfl ?_
  have L45 : ∀ (fuel : Nat) (f : Nat) (t : SS) (h : Nat) (a : Int32) (g : Bool), f ≤ 6 → h < 6 → Inv t → cnS s c = (if g = true then caN (f + 1) t c h a else (t, h, a)) → (g = true → t (92 + 14 * (c * 6 + h)) ≠ 0) → (g = true → caQ t c h f) → f + (if g = true then 1 else 0) < fuel → J D Γ yX5_cancels cX5_cancels 6 (some .int) ({ frames := 3, cells := 0, slots := 0, locals := 66 } : Room) (Qf D Γ ({ frames := 3, cells := 0, slots := 0, locals := 66 } : Room) (fun v_ u_ => v_ = some (.int (cnA s c)) ∧ u_ = (MO D M (min (u + 1) 6, r)) ++ (AR D (M 1) 455 (cnF s c)) ++ (AR D (M 2) 2730 (rmF pa u s)) ++ (AR D (M 5) 455 s))) 0 0 ((MO D M (min (u + 1) 6, r)) ++ (AR D (M 1) 455 (upd t (64 + 7 * c + 4) (nI h))) ++ (AR D (M 2) 2730 (rmF pa u s)) ++ (AR D (M 5) 455 s)) 45 [(0, .ref (M 0)), (1, .int (nI c)), (2, .int (nI (64 + 7 * c))), (3, .int a), (4, .int (bI g))] [] := by
    intro fuel
    induction fuel with
    | zero => intro f t h a g hf hh hI2 he hz hQ hm; exact absurd hm (Nat.not_lt_zero _)
    | succ fuel ih =>
      intro f t h a g hf hh hI2 he hz hQ hm
      refine j_iload dX5_cancels_45 4 rfl ?_
      refine j_if_eq_B (tgt := 163) dX5_cancels_47 (by decide) (fun h47 => ?_) (fun h47 => ?_)
      · skip
        refine j_iload_n dX5_cancels_163 3 rfl ?_
        exact j_iret dX5_cancels_164 ⟨rfl, rfl⟩ ⟨by rw [show cnA s c = a from by unfold cnA; rw [he, h47]; rfl], by rw [show cnF s c = upd t (64 + 7 * c + 4) (nI h) from by unfold cnF; rw [he, h47]; rfl]⟩
      · skip
        have hz1 := hz h47
        have hQ1 := hQ h47
        rw [if_pos h47] at he
        have hpq : (c * 6 + h) < 24 := by omega
        have hI3 : Inv (upd (ca1 t (c * 6 + h)) (64 + 7 * c + 4) (nI ((h + 1) % 6))) := Inv_h (Inv_c1 hI2 hpq hz1) hc (Nat.mod_lt _ (by decide))
        rw [h47] at hm
        refine j_iload_n dX5_cancels_50 1 rfl ?_
        refine j_aload_n dX5_cancels_51 0 rfl ?_
        refine g_X5_7 rfl dX5_cancels_52 0 rfl rfl ?_
        refine j_iload_n dX5_cancels_55 2 rfl ?_
        refine j_iconst (v := nI 4) dX5_cancels_56 (by decide) ?_
        refine j_iadd (v := nI (64 + 7 * c + 4)) dX5_cancels_57 (nI_add _ _) ?_
        refine j_iald (v := nI h) dX5_cancels_58 1 (64 + 7 * c + 4) rfl (rfl) (by omega) (Nat.le_of_ble_eq_true rfl) (up_eq) ?_
        refine j_S (w2 := (MO D M (min (u + 1) 6, r)) ++ (AR D (M 1) 455 (upd t (64 + 7 * c + 4) (nI h))) ++ (AR D (M 2) 2730 (rmF pa u s)) ++ (AR D (M 5) 455 s)) (st2 := [.int (nI (92 + 14 * (c * 6 + h)))]) (c_X5_slotAt c h) rfl cw_X5_79 dX5_cancels_59 [] rfl [] rfl rfl rfl ?_ ⟨rfl, ⟨Nat.le_of_ble_eq_true rfl, Nat.le_of_ble_eq_true rfl⟩, ⟨rfl, rfl⟩, ⟨Nat.le_of_ble_eq_true rfl, Nat.le_of_ble_eq_true rfl⟩, Nat.le_of_ble_eq_true rfl, rfl, rfl⟩
        refine j_istore (lv2 := [(0, .ref (M 0)), (1, .int (nI c)), (2, .int (nI (64 + 7 * c))), (3, .int a), (4, .int (bI g)), (5, .int (nI (92 + 14 * (c * 6 + h))))]) dX5_cancels_62 (by decide) [1, 2, 3, 4, 5, 0] rfl ?_
        refine j_aload_n dX5_cancels_64 0 rfl ?_
        refine g_X5_7 rfl dX5_cancels_65 0 rfl rfl ?_
        refine j_iload dX5_cancels_68 5 rfl ?_
        refine j_bipush (v := nI 10) dX5_cancels_70 (by decide) ?_
        refine j_iadd (v := nI ((92 + 14 * (c * 6 + h)) + 10)) dX5_cancels_72 (nI_add _ _) ?_
        refine j_iconst (v := nI 0) dX5_cancels_73 (by decide) ?_
        refine j_iast (w2 := (MO D M (min (u + 1) 6, r)) ++ (AR D (M 1) 455 (upd (upd t (64 + 7 * c + 4) (nI h)) (93 + 14 * (c * 6 + h) + 9) (nI 0))) ++ (AR D (M 2) 2730 (rmF pa u s)) ++ (AR D (M 5) 455 s)) dX5_cancels_74 1 (93 + 14 * (c * 6 + h) + 9) rfl (congrArg nI (by omega)) (by omega) (Nat.le_of_ble_eq_true rfl) (rfl) ?_
        refine j_aload_n dX5_cancels_75 0 rfl ?_
        refine g_X5_7 rfl dX5_cancels_76 0 rfl rfl ?_
        refine j_iload dX5_cancels_79 5 rfl ?_
        refine j_bipush (v := nI 11) dX5_cancels_81 (by decide) ?_
        refine j_iadd (v := nI ((92 + 14 * (c * 6 + h)) + 11)) dX5_cancels_83 (nI_add _ _) ?_
        refine j_iconst (v := nI 2) dX5_cancels_84 (by decide) ?_
        refine j_iast (w2 := (MO D M (min (u + 1) 6, r)) ++ (AR D (M 1) 455 (upd (upd (upd t (64 + 7 * c + 4) (nI h)) (93 + 14 * (c * 6 + h) + 9) (nI 0)) (93 + 14 * (c * 6 + h) + 10) (nI 2))) ++ (AR D (M 2) 2730 (rmF pa u s)) ++ (AR D (M 5) 455 s)) dX5_cancels_85 1 (93 + 14 * (c * 6 + h) + 10) rfl (congrArg nI (by omega)) (by omega) (Nat.le_of_ble_eq_true rfl) (rfl) ?_
        refine j_iload_n dX5_cancels_86 3 rfl ?_
        refine j_aload_n dX5_cancels_87 0 rfl ?_
        refine g_X5_7 rfl dX5_cancels_88 0 rfl rfl ?_
        refine j_iload dX5_cancels_91 5 rfl ?_
        refine j_bipush (v := nI 12) dX5_cancels_93 (by decide) ?_
        refine j_iadd (v := nI ((92 + 14 * (c * 6 + h)) + 12)) dX5_cancels_95 (nI_add _ _) ?_
        refine j_iald (v := gL t (c * 6 + h) 11) dX5_cancels_96 1 ((92 + 14 * (c * 6 + h)) + 12) rfl (rfl) (by omega) (Nat.le_of_ble_eq_true rfl) ((congrArg _ (by omega : 92 + 14 * (c * 6 + h) + 12 = 93 + 14 * (c * 6 + h) + 11)).trans ((up_ne (by omega)).trans ((up_ne (by omega)).trans (up_ne (by omega))))) ?_
        refine j_iadd (v := a + (gL t (c * 6 + h) 11)) dX5_cancels_97 (rfl) ?_
        refine j_istore_n (lv2 := [(0, .ref (M 0)), (1, .int (nI c)), (2, .int (nI (64 + 7 * c))), (3, .int (a + (gL t (c * 6 + h) 11))), (4, .int (bI g)), (5, .int (nI (92 + 14 * (c * 6 + h))))]) dX5_cancels_98 (by decide) [1, 2, 3, 0, 4, 5] rfl ?_
        refine j_aload_n dX5_cancels_99 0 rfl ?_
        refine g_X5_7 rfl dX5_cancels_100 0 rfl rfl ?_
        refine j_iload_n dX5_cancels_103 2 rfl ?_
        refine j_iconst (v := nI 4) dX5_cancels_104 (by decide) ?_
        refine j_iadd (v := nI (64 + 7 * c + 4)) dX5_cancels_105 (nI_add _ _) ?_
        refine j_aload_n dX5_cancels_106 0 rfl ?_
        refine g_X5_7 rfl dX5_cancels_107 0 rfl rfl ?_
        refine j_iload_n dX5_cancels_110 2 rfl ?_
        refine j_iconst (v := nI 4) dX5_cancels_111 (by decide) ?_
        refine j_iadd (v := nI (64 + 7 * c + 4)) dX5_cancels_112 (nI_add _ _) ?_
        refine j_iald (v := nI h) dX5_cancels_113 1 (64 + 7 * c + 4) rfl (rfl) (by omega) (Nat.le_of_ble_eq_true rfl) ((up_ne (by omega)).trans ((up_ne (by omega)).trans up_eq)) ?_
        refine j_iconst (v := nI 1) dX5_cancels_114 (by decide) ?_
        refine j_iadd (v := nI (h + 1)) dX5_cancels_115 (nI_add _ _) ?_
        refine j_bipush (v := nI 6) dX5_cancels_116 (by decide) ?_
        refine j_irem (v := nI ((h + 1) % 6)) dX5_cancels_118 (by decide) (pk_rem (by omega) (by omega) (by omega)) ?_
        refine j_iast (w2 := (MO D M (min (u + 1) 6, r)) ++ (AR D (M 1) 455 (upd (ca1 t (c * 6 + h)) (64 + 7 * c + 4) (nI ((h + 1) % 6)))) ++ (AR D (M 2) 2730 (rmF pa u s)) ++ (AR D (M 5) 455 s)) dX5_cancels_119 1 (64 + 7 * c + 4) rfl (rfl) (by omega) (Nat.le_of_ble_eq_true rfl) (by rw [← ca1_M (t := t) (c := c) (h := h) (x := nI h) (y := nI ((h + 1) % 6)) (by omega) (by omega)]; rfl) ?_
        refine j_aload_n dX5_cancels_120 0 rfl ?_
        refine g_X5_7 rfl dX5_cancels_121 0 rfl rfl ?_
        refine j_iload dX5_cancels_124 5 rfl ?_
        refine j_bipush (v := nI 9) dX5_cancels_126 (by decide) ?_
        refine j_iadd (v := nI ((92 + 14 * (c * 6 + h)) + 9)) dX5_cancels_128 (nI_add _ _) ?_
        refine j_iald (v := gL (ca1 t (c * 6 + h)) (c * 6 + h) 8) dX5_cancels_129 1 ((92 + 14 * (c * 6 + h)) + 9) rfl (rfl) (by omega) (Nat.le_of_ble_eq_true rfl) ((congrArg _ (by omega : 92 + 14 * (c * 6 + h) + 9 = 93 + 14 * (c * 6 + h) + 8)).trans (up_ne (by omega))) ?_
        refine j_iconst (v := nI 1) dX5_cancels_130 (by decide) ?_
        refine j_icmp_ne (tgt := 157) dX5_cancels_131 (by decide) (fun h131 => ?_) (fun h131 => ?_)
        · skip
          refine j_iconst (v := nI 0) dX5_cancels_157 (by decide) ?_
          refine j_topi (v := bI false) rfl ?_
          refine j_istore (lv2 := [(0, .ref (M 0)), (1, .int (nI c)), (2, .int (nI (64 + 7 * c))), (3, .int (a + (gL t (c * 6 + h) 11))), (4, .int (bI false)), (5, .int (nI (92 + 14 * (c * 6 + h))))]) dX5_cancels_158 (by decide) [1, 2, 3, 4, 0, 5] rfl ?_
          refine j_goto (tgt := 45) dX5_cancels_160 (by decide) ?_
          refine j_lv (lv2 := [(0, .ref (M 0)), (1, .int (nI c)), (2, .int (nI (64 + 7 * c))), (3, .int (a + (gL t (c * 6 + h) 11))), (4, .int (bI false))]) [0, 1, 2, 3, 4] rfl ?_
          exact ih f (ca1 t (c * 6 + h)) ((h + 1) % 6) _ false (by omega) (Nat.mod_lt _ (by decide)) (Inv_c1 hI2 hpq hz1) (by rw [he]; exact caN_n (fun q => h131 q.1)) (fun q => absurd q (by decide)) (fun q => absurd q (by decide)) (by have : f + 1 < fuel + 1 := hm; show f + 0 < fuel; omega)
        · skip
          refine j_aload_n dX5_cancels_134 0 rfl ?_
          refine j_iload_n dX5_cancels_135 1 rfl ?_
          refine j_aload_n dX5_cancels_136 0 rfl ?_
          refine g_X5_7 rfl dX5_cancels_137 0 rfl rfl ?_
          refine j_iload_n dX5_cancels_140 2 rfl ?_
          refine j_iconst (v := nI 4) dX5_cancels_141 (by decide) ?_
          refine j_iadd (v := nI (64 + 7 * c + 4)) dX5_cancels_142 (nI_add _ _) ?_
          refine j_iald (v := nI ((h + 1) % 6)) dX5_cancels_143 1 (64 + 7 * c + 4) rfl (rfl) (by omega) (Nat.le_of_ble_eq_true rfl) (up_eq) ?_
          refine j_S (w2 := (MO D M (min (u + 1) 6, r)) ++ (AR D (M 1) 455 (upd (ca1 t (c * 6 + h)) (64 + 7 * c + 4) (nI ((h + 1) % 6)))) ++ (AR D (M 2) 2730 (rmF pa u s)) ++ (AR D (M 5) 455 s)) (st2 := [.int (nI (92 + 14 * (c * 6 + ((h + 1) % 6)))), .ref (M 0)]) (c_X5_slotAt c ((h + 1) % 6)) rfl cw_X5_79 dX5_cancels_144 [.ref (M 0)] rfl [] rfl rfl rfl ?_ ⟨rfl, ⟨Nat.le_of_ble_eq_true rfl, Nat.le_of_ble_eq_true rfl⟩, ⟨rfl, rfl⟩, ⟨Nat.le_of_ble_eq_true rfl, Nat.le_of_ble_eq_true rfl⟩, Nat.le_of_ble_eq_true rfl, rfl, rfl⟩
          refine j_V (w2 := (MO D M (min (u + 1) 6, r)) ++ (AR D (M 1) 455 (upd (ca1 t (c * 6 + h)) (64 + 7 * c + 4) (nI ((h + 1) % 6)))) ++ (AR D (M 2) 2730 (rmF pa u s)) ++ (AR D (M 5) 455 s)) (st2 := [.int (bI (eng (upd (ca1 t (c * 6 + h)) (64 + 7 * c + 4) (nI ((h + 1) % 6))) (c * 6 + ((h + 1) % 6))))]) (c_X5_isEngines M (min (u + 1) 6, r) (upd (ca1 t (c * 6 + h)) (64 + 7 * c + 4) (nI ((h + 1) % 6))) hI3 (c * 6 + ((h + 1) % 6)) (by omega)) rfl cw_X5_83 dX5_cancels_147 [] rfl [0, 1] rfl rfl rfl 5 ?_ ⟨rfl, ⟨Nat.le_of_ble_eq_true rfl, Nat.le_of_ble_eq_true rfl⟩, ⟨rfl, rfl⟩, ⟨Nat.le_of_ble_eq_true rfl, Nat.le_of_ble_eq_true rfl⟩, Nat.le_of_ble_eq_true rfl, rfl, rfl⟩ rfl rfl rfl
          refine j_topi (v := bI (eng (ca1 t (c * 6 + h)) (c * 6 + (h + 1) % 6))) (congrArg bI (eng_up (by omega))) ?_
          refine j_if_eq_B (tgt := 157) dX5_cancels_150 (by decide) (fun h150 => ?_) (fun h150 => ?_)
          · skip
            refine j_iconst (v := nI 0) dX5_cancels_157 (by decide) ?_
            refine j_topi (v := bI false) rfl ?_
            refine j_istore (lv2 := [(0, .ref (M 0)), (1, .int (nI c)), (2, .int (nI (64 + 7 * c))), (3, .int (a + (gL t (c * 6 + h) 11))), (4, .int (bI false)), (5, .int (nI (92 + 14 * (c * 6 + h))))]) dX5_cancels_158 (by decide) [1, 2, 3, 4, 0, 5] rfl ?_
            refine j_goto (tgt := 45) dX5_cancels_160 (by decide) ?_
            refine j_lv (lv2 := [(0, .ref (M 0)), (1, .int (nI c)), (2, .int (nI (64 + 7 * c))), (3, .int (a + (gL t (c * 6 + h) 11))), (4, .int (bI false))]) [0, 1, 2, 3, 4] rfl ?_
            exact ih f (ca1 t (c * 6 + h)) ((h + 1) % 6) _ false (by omega) (Nat.mod_lt _ (by decide)) (Inv_c1 hI2 hpq hz1) (by rw [he]; exact caN_n (fun q => absurd q.2 (by rw [h150]; decide))) (fun q => absurd q (by decide)) (fun q => absurd q (by decide)) (by have : f + 1 < fuel + 1 := hm; show f + 0 < fuel; omega)
          · skip
            obtain ⟨f1, hf1, hQ2⟩ := caQ_s hQ1 hh h150
            subst hf1
            refine j_iconst (v := nI 1) dX5_cancels_153 (by decide) ?_
            refine j_goto (tgt := 158) dX5_cancels_154 (by decide) ?_
            refine j_topi (v := bI true) rfl ?_
            refine j_istore (lv2 := [(0, .ref (M 0)), (1, .int (nI c)), (2, .int (nI (64 + 7 * c))), (3, .int (a + (gL t (c * 6 + h) 11))), (4, .int (bI true)), (5, .int (nI (92 + 14 * (c * 6 + h))))]) dX5_cancels_158 (by decide) [1, 2, 3, 4, 0, 5] rfl ?_
            refine j_goto (tgt := 45) dX5_cancels_160 (by decide) ?_
            refine j_lv (lv2 := [(0, .ref (M 0)), (1, .int (nI c)), (2, .int (nI (64 + 7 * c))), (3, .int (a + (gL t (c * 6 + h) 11))), (4, .int (bI true))]) [0, 1, 2, 3, 4] rfl ?_
            exact ih f1 (ca1 t (c * 6 + h)) ((h + 1) % 6) _ true (by omega) (Nat.mod_lt _ (by decide)) (Inv_c1 hI2 hpq hz1) (by rw [he]; exact caN_y h131 h150) (fun _ => Inv.eng_ (Inv_c1 hI2 hpq hz1) (by have : (h + 1) % 6 < 6 := Nat.mod_lt _ (by decide); omega) h150) (fun _ => hQ2) (by have : f1 + 1 + 1 < fuel + 1 := hm; show f1 + 1 < fuel; omega)
  exact L45 8 5 (waF s c) (hd (waF s c) c) 0 true (by omega) ((Inv_wa hI).hd_ hc).2 (Inv_wa hI) rfl (fun _ => waF_hd hI hc ht) (fun _ => caQ_0) (by decide)

set_option maxHeartbeats 4000000 in
set_option maxRecDepth 100000 in
theorem c_X5_hasEngines (M : Nat → Nat) (q : QT) (s : SS) (hI : Inv s) (c : Nat) (hc : c < 4) : Ct D yX5_hasEngines cX5_hasEngines 4 (some .boolean) ({ frames := 1, cells := 0, slots := 0, locals := 21 } : Room) [.ref (M 0), .int (nI c)] ((MO D M q) ++ (AR D (M 1) 455 s)) (fun v_ u_ => v_ = some (.int (bI (hsE s c 6))) ∧ u_ = (MO D M q) ++ (AR D (M 1) 455 s)) := by
  refine ct_of (by decide) (Nat.le_of_ble_eq_true rfl) (lv0 := [(0, .ref (M 0)), (1, .int (nI c))]) rfl (fun Γ => ?_)
  refine j_iconst (v := nI 0) dX5_hasEngines_0 (by decide) ?_
  refine j_topi (v := bI (hsE s c 0)) rfl ?_
  refine j_istore_n (lv2 := [(0, .ref (M 0)), (1, .int (nI c)), (2, .int (bI (hsE s c 0)))]) dX5_hasEngines_1 (by decide) [1, 2, 0] rfl ?_
  refine j_iconst (v := nI 0) dX5_hasEngines_2 (by decide) ?_
  refine j_istore_n (lv2 := [(0, .ref (M 0)), (1, .int (nI c)), (2, .int (bI (hsE s c 0))), (3, .int (nI 0))]) dX5_hasEngines_3 (by decide) [1, 2, 3, 0] rfl ?_
  have L4 : ∀ (fuel : Nat) (i : Nat), i ≤ 6 → 6 - i < fuel → J D Γ yX5_hasEngines cX5_hasEngines 4 (some .boolean) ({ frames := 1, cells := 0, slots := 0, locals := 21 } : Room) (Qf D Γ ({ frames := 1, cells := 0, slots := 0, locals := 21 } : Room) (fun v_ u_ => v_ = some (.int (bI (hsE s c 6))) ∧ u_ = (MO D M q) ++ (AR D (M 1) 455 s))) 0 0 ((MO D M q) ++ (AR D (M 1) 455 s)) 4 [(0, .ref (M 0)), (1, .int (nI c)), (2, .int (bI (hsE s c i))), (3, .int (nI i))] [] := by
    intro fuel
    induction fuel with
    | zero => intro i hi hm; exact absurd hm (Nat.not_lt_zero _)
    | succ fuel ih =>
      intro i hi hm
      refine j_iload_n dX5_hasEngines_4 3 rfl ?_
      refine j_bipush (v := nI 6) dX5_hasEngines_5 (by decide) ?_
      refine j_icmp_ge_N (tgt := 38) dX5_hasEngines_7 (by decide) ⟨by omega, by omega⟩ (fun h7 => ?_) (fun h7 => ?_)
      · skip
        refine j_iload_n dX5_hasEngines_38 2 rfl ?_
        exact j_zret dX5_hasEngines_39 (nar_b _) ⟨rfl, rfl⟩ ⟨by rw [show i = 6 by omega], rfl⟩
      · skip
        refine j_iload_n dX5_hasEngines_10 2 rfl ?_
        refine j_if_ne_B (tgt := 26) dX5_hasEngines_11 (by decide) (fun h11 => ?_) (fun h11 => ?_)
        · skip
          refine j_iconst (v := nI 1) dX5_hasEngines_26 (by decide) ?_
          refine j_goto (tgt := 31) dX5_hasEngines_27 (by decide) ?_
          refine j_istore_n (lv2 := [(0, .ref (M 0)), (1, .int (nI c)), (2, .int (nI 1)), (3, .int (nI i))]) dX5_hasEngines_31 (by decide) [1, 2, 0, 3] rfl ?_
          refine j_iinc (v := nI (i + 1)) (lv2 := [(0, .ref (M 0)), (1, .int (nI c)), (2, .int (nI 1)), (3, .int (nI (i + 1)))]) dX5_hasEngines_32 3 rfl (nI_1 _) (by decide) [1, 2, 3, 0] rfl ?_
          refine j_goto (tgt := 4) dX5_hasEngines_35 (by decide) ?_
          have hh2 := ih (i + 1) (by omega) (by omega)
          rw [hsE_1 h11] at hh2
          exact hh2
        · skip
          refine j_aload_n dX5_hasEngines_14 0 rfl ?_
          refine j_iload_n dX5_hasEngines_15 1 rfl ?_
          refine j_iload_n dX5_hasEngines_16 3 rfl ?_
          refine j_S (w2 := (MO D M q) ++ (AR D (M 1) 455 s)) (st2 := [.int (nI (92 + 14 * (c * 6 + i))), .ref (M 0)]) (c_X5_slotAt c i) rfl cw_X5_79 dX5_hasEngines_17 [.ref (M 0)] rfl [] rfl rfl rfl ?_ ⟨rfl, ⟨Nat.le_of_ble_eq_true rfl, Nat.le_of_ble_eq_true rfl⟩, ⟨rfl, rfl⟩, ⟨Nat.le_of_ble_eq_true rfl, Nat.le_of_ble_eq_true rfl⟩, Nat.le_of_ble_eq_true rfl, rfl, rfl⟩
          refine j_V (w2 := (MO D M q) ++ (AR D (M 1) 455 s)) (st2 := [.int (bI (eng s (c * 6 + i)))]) (c_X5_isEngines M q s hI (c * 6 + i) (by omega)) rfl cw_X5_83 dX5_hasEngines_20 [] rfl [0, 1] rfl rfl rfl 5 ?_ ⟨rfl, ⟨Nat.le_of_ble_eq_true rfl, Nat.le_of_ble_eq_true rfl⟩, ⟨rfl, rfl⟩, ⟨Nat.le_of_ble_eq_true rfl, Nat.le_of_ble_eq_true rfl⟩, Nat.le_of_ble_eq_true rfl, rfl, rfl⟩ rfl rfl rfl
          refine j_if_eq_B (tgt := 30) dX5_hasEngines_23 (by decide) (fun h23 => ?_) (fun h23 => ?_)
          · skip
            refine j_iconst (v := nI 0) dX5_hasEngines_30 (by decide) ?_
            refine j_istore_n (lv2 := [(0, .ref (M 0)), (1, .int (nI c)), (2, .int (nI 0)), (3, .int (nI i))]) dX5_hasEngines_31 (by decide) [1, 2, 0, 3] rfl ?_
            refine j_iinc (v := nI (i + 1)) (lv2 := [(0, .ref (M 0)), (1, .int (nI c)), (2, .int (nI 0)), (3, .int (nI (i + 1)))]) dX5_hasEngines_32 3 rfl (nI_1 _) (by decide) [1, 2, 3, 0] rfl ?_
            refine j_goto (tgt := 4) dX5_hasEngines_35 (by decide) ?_
            have hh2 := ih (i + 1) (by omega) (by omega)
            rw [hsE_2 h11 h23] at hh2
            exact hh2
          · skip
            refine j_iconst (v := nI 1) dX5_hasEngines_26 (by decide) ?_
            refine j_goto (tgt := 31) dX5_hasEngines_27 (by decide) ?_
            refine j_istore_n (lv2 := [(0, .ref (M 0)), (1, .int (nI c)), (2, .int (nI 1)), (3, .int (nI i))]) dX5_hasEngines_31 (by decide) [1, 2, 0, 3] rfl ?_
            refine j_iinc (v := nI (i + 1)) (lv2 := [(0, .ref (M 0)), (1, .int (nI c)), (2, .int (nI 1)), (3, .int (nI (i + 1)))]) dX5_hasEngines_32 3 rfl (nI_1 _) (by decide) [1, 2, 3, 0] rfl ?_
            refine j_goto (tgt := 4) dX5_hasEngines_35 (by decide) ?_
            have hh2 := ih (i + 1) (by omega) (by omega)
            rw [hsE_3 h23] at hh2
            exact hh2
  exact L4 7 0 (by omega) (by omega)

set_option maxHeartbeats 4000000 in
set_option maxRecDepth 100000 in
theorem c_X5_overOf (M : Nat → Nat) (q : QT) (s : SS) (hI : Inv s) (c : Nat) (hc : c < 4) : Ct D yX5_overOf cX5_overOf 3 (some .int) ({ frames := 4, cells := 0, slots := 0, locals := 96 } : Room) [.ref (M 0), .int (nI c)] ((MO D M q) ++ (AR D (M 1) 455 s)) (fun v_ u_ => v_ = some (.int (oN (ovF true s c 200))) ∧ ∃ t1 : SS, u_ = (MO D M q) ++ (AR D (M 1) 455 t1)) := by
  refine ct_of (by decide) (Nat.le_of_ble_eq_true rfl) (lv0 := [(0, .ref (M 0)), (1, .int (nI c))]) rfl (fun Γ => ?_)
  refine j_iconst (v := nI 0) dX5_overOf_0 (by decide) ?_
  refine j_istore_n (lv2 := [(0, .ref (M 0)), (1, .int (nI c)), (2, .int (nI 0))]) dX5_overOf_1 (by decide) [1, 2, 0] rfl ?_
  have L2 : ∀ (fuel : Nat) (j : Nat), j ≤ 201 → ovF true s c 200 = fsN (ovP true s c) (201 - j) j → 201 - j < fuel → J D Γ yX5_overOf cX5_overOf 3 (some .int) ({ frames := 4, cells := 0, slots := 0, locals := 96 } : Room) (Qf D Γ ({ frames := 4, cells := 0, slots := 0, locals := 96 } : Room) (fun v_ u_ => v_ = some (.int (oN (ovF true s c 200))) ∧ ∃ t1 : SS, u_ = (MO D M q) ++ (AR D (M 1) 455 t1))) 0 0 ((MO D M q) ++ (AR D (M 1) 455 (itk true s j))) 2 [(0, .ref (M 0)), (1, .int (nI c)), (2, .int (nI j))] [] := by
    intro fuel
    induction fuel with
    | zero => intro j hj he hm; exact absurd hm (Nat.not_lt_zero _)
    | succ fuel ih =>
      intro j hj he hm
      refine j_iload_n dX5_overOf_2 2 rfl ?_
      refine j_sipush (v := nI 200) dX5_overOf_3 (by decide) ?_
      refine j_icmp_gt_N (tgt := 28) dX5_overOf_6 (by decide) ⟨by omega, by omega⟩ (fun h6 => ?_) (fun h6 => ?_)
      · skip
        refine j_iload_n dX5_overOf_28 2 rfl ?_
        refine j_sipush (v := nI 200) dX5_overOf_29 (by decide) ?_
        refine j_icmp_le_N (tgt := 40) dX5_overOf_32 (by decide) ⟨by omega, by omega⟩ (fun h32 => absurd h32 (by omega)) (fun h32 => ?_)
        refine j_bipush (v := (-9)) dX5_overOf_35 (by decide) ?_
        refine j_goto (tgt := 41) dX5_overOf_37 (by decide) ?_
        exact j_iret dX5_overOf_41 ⟨rfl, rfl⟩ ⟨by rw [he, show 201 - j = 0 by omega]; rfl, _, rfl⟩
      · skip
        refine j_aload_n dX5_overOf_9 0 rfl ?_
        refine j_iload_n dX5_overOf_10 1 rfl ?_
        refine j_V (w2 := (MO D M q) ++ (AR D (M 1) 455 (itk true s j))) (st2 := [.int (bI (hsE (itk true s j) c 6))]) (c_X5_hasEngines M q (itk true s j) (Inv_it hI j) c (by omega)) rfl cw_X5_155 dX5_overOf_11 [] rfl [0, 1] rfl rfl rfl 5 ?_ ⟨rfl, ⟨Nat.le_of_ble_eq_true rfl, Nat.le_of_ble_eq_true rfl⟩, ⟨rfl, rfl⟩, ⟨Nat.le_of_ble_eq_true rfl, Nat.le_of_ble_eq_true rfl⟩, Nat.le_of_ble_eq_true rfl, rfl, rfl⟩ rfl rfl rfl
        refine j_if_eq_B (tgt := 28) dX5_overOf_14 (by decide) (fun h14 => ?_) (fun h14 => ?_)
        · skip
          refine j_iload_n dX5_overOf_28 2 rfl ?_
          refine j_sipush (v := nI 200) dX5_overOf_29 (by decide) ?_
          refine j_icmp_le_N (tgt := 40) dX5_overOf_32 (by decide) ⟨by omega, by omega⟩ (fun h32 => ?_) (fun h32 => absurd (by omega) h32)
          refine j_iload_n dX5_overOf_40 2 rfl ?_
          exact j_iret dX5_overOf_41 ⟨rfl, rfl⟩ ⟨by rw [he, show 201 - j = (201 - (j + 1)) + 1 by omega, fsN_t (hsE_n h14)]; rfl, _, rfl⟩
        · skip
          refine j_aload_n dX5_overOf_17 0 rfl ?_
          refine j_V (w2 := (MO D M q) ++ (AR D (M 1) 455 (tkF true (itk true s j)))) (st2 := [.int (oN (tkW (itk true s j)))]) (c_X5_ticksOnce M q (itk true s j) (Inv_it hI j)) rfl cw_X5_137 dX5_overOf_18 [] rfl [0, 1] rfl rfl rfl 5 ?_ ⟨rfl, ⟨Nat.le_of_ble_eq_true rfl, Nat.le_of_ble_eq_true rfl⟩, ⟨rfl, rfl⟩, ⟨Nat.le_of_ble_eq_true rfl, Nat.le_of_ble_eq_true rfl⟩, Nat.le_of_ble_eq_true rfl, rfl, rfl⟩ rfl rfl rfl
          refine j_pop dX5_overOf_21 rfl ?_
          refine j_iinc (v := nI (j + 1)) (lv2 := [(0, .ref (M 0)), (1, .int (nI c)), (2, .int (nI (j + 1)))]) dX5_overOf_22 2 rfl (nI_1 _) (by decide) [1, 2, 0] rfl ?_
          refine j_goto (tgt := 2) dX5_overOf_25 (by decide) ?_
          exact ih (j + 1) (by omega) (by rw [he, show 201 - j = (201 - (j + 1)) + 1 by omega, fsN_f (hsE_p h14)]) (by omega)
  exact L2 202 0 (by omega) rfl (by omega)

set_option maxHeartbeats 4000000 in
set_option maxRecDepth 100000 in
theorem c_X5_over (M : Nat → Nat) (q : QT) (s sp : SS) (hI : Inv s) (v : Int32) : Ct D yX5_over cX5_over 3 (some .int) ({ frames := 5, cells := 0, slots := 0, locals := 118 } : Room) [.ref (M 0), .int v] ((MO D M q) ++ (AR D (M 1) 455 s) ++ (AR D (M 5) 455 sp)) (fun v_ u_ => v_ = some (.int (ovA s v)) ∧ ∃ t1 : SS, u_ = (MO D M q) ++ (AR D (M 1) 455 s) ++ (AR D (M 5) 455 t1)) := by
  refine ct_of (by decide) (Nat.le_of_ble_eq_true rfl) (lv0 := [(0, .ref (M 0)), (1, .int v)]) rfl (fun Γ => ?_)
  refine j_iload_n dX5_over_0 1 rfl ?_
  refine j_S (w2 := (MO D M q) ++ (AR D (M 1) 455 s) ++ (AR D (M 5) 455 sp)) (st2 := [.int (bI (inR v (nI 0) (nI 3)))]) (c_X5_isChannel v) rfl cw_X5_141 dX5_over_1 [] rfl [] rfl rfl rfl ?_ ⟨rfl, ⟨Nat.le_of_ble_eq_true rfl, Nat.le_of_ble_eq_true rfl⟩, ⟨rfl, rfl⟩, ⟨Nat.le_of_ble_eq_true rfl, Nat.le_of_ble_eq_true rfl⟩, Nat.le_of_ble_eq_true rfl, rfl, rfl⟩
  refine j_if_ne_B (tgt := 9) dX5_over_4 (by decide) (fun h4 => ?_) (fun h4 => ?_)
  · skip
    obtain ⟨c, hc1, hc2, rfl⟩ := inR_nat (by decide) (by decide) h4
    refine j_aload_n dX5_over_9 0 rfl ?_
    refine j_V (w2 := (MO D M q) ++ (AR D (M 1) 455 s) ++ (AR D (M 5) 455 s)) (st2 := []) (c_X5_keepsSpare M q s sp) rfl cw_X5_105 dX5_over_10 [] rfl [0, 1, 2] rfl rfl rfl 5 ?_ ⟨rfl, ⟨Nat.le_of_ble_eq_true rfl, Nat.le_of_ble_eq_true rfl⟩, ⟨rfl, rfl⟩, ⟨Nat.le_of_ble_eq_true rfl, Nat.le_of_ble_eq_true rfl⟩, Nat.le_of_ble_eq_true rfl, rfl, rfl⟩ rfl rfl rfl
    refine j_aload_n dX5_over_13 0 rfl ?_
    refine j_iload_n dX5_over_14 1 rfl ?_
    refine j_callV (c_X5_overOf M q s hI c (by omega)) rfl cw_X5_158 rfl ⟨Nat.le_of_ble_eq_true rfl, Nat.le_of_ble_eq_true rfl⟩ ⟨rfl, rfl⟩ ⟨Nat.le_of_ble_eq_true rfl, Nat.le_of_ble_eq_true rfl⟩ dX5_over_15 (rest := []) rfl (Nat.le_of_ble_eq_true rfl) [0, 1] rfl rfl 5 0 rfl rfl rfl (fun v_ w_ hf_ => ?_)
    obtain ⟨rfl, t1, rfl⟩ := hf_
    refine ⟨rfl, ?_⟩
    refine j_ws (w2 := (MO D M q) ++ (AR D (M 1) 455 t1) ++ (AR D (M 5) 455 s)) (st2 := [.int (oN (ovF true s c 200))]) rfl rfl ?_
    refine j_istore_n (lv2 := [(0, .ref (M 0)), (1, .int (nI c)), (2, .int (oN (ovF true s c 200)))]) dX5_over_18 (by decide) [1, 2, 0] rfl ?_
    refine j_aload_n dX5_over_19 0 rfl ?_
    refine j_V (w2 := (MO D M q) ++ (AR D (M 1) 455 s) ++ (AR D (M 5) 455 s)) (st2 := []) (c_X5_takesBack M q t1 s) rfl cw_X5_108 dX5_over_20 [] rfl [0, 1, 2] rfl rfl rfl 5 ?_ ⟨rfl, ⟨Nat.le_of_ble_eq_true rfl, Nat.le_of_ble_eq_true rfl⟩, ⟨rfl, rfl⟩, ⟨Nat.le_of_ble_eq_true rfl, Nat.le_of_ble_eq_true rfl⟩, Nat.le_of_ble_eq_true rfl, rfl, rfl⟩ rfl rfl rfl
    refine j_iload_n dX5_over_23 2 rfl ?_
    exact j_iret dX5_over_24 ⟨rfl, rfl⟩ ⟨by unfold ovA; rw [if_pos h4, cl_nI (by omega)], _, rfl⟩
  · skip
    refine j_iconst (v := (-1)) dX5_over_7 (by decide) ?_
    exact j_iret dX5_over_8 ⟨rfl, rfl⟩ ⟨by rw [show ovA s v = -1 from if_neg (nBool h4)], sp, rfl⟩

set_option maxHeartbeats 4000000 in
set_option maxRecDepth 100000 in
theorem c_X5_enough (M : Nat → Nat) (q : QT) (s sp : SS) (hI : Inv s) (v w : Int32) : Ct D yX5_enough cX5_enough 6 (some .int) ({ frames := 5, cells := 0, slots := 0, locals := 118 } : Room) [.ref (M 0), .int v, .int w] ((MO D M q) ++ (AR D (M 1) 455 s) ++ (AR D (M 5) 455 sp)) (fun v_ u_ => v_ = some (.int (enA s v w)) ∧ ∃ t1 : SS, u_ = (MO D M q) ++ (AR D (M 1) 455 s) ++ (AR D (M 5) 455 t1)) := by
  refine ct_of (by decide) (Nat.le_of_ble_eq_true rfl) (lv0 := [(0, .ref (M 0)), (1, .int v), (2, .int w)]) rfl (fun Γ => ?_)
  refine j_iload_n dX5_enough_0 1 rfl ?_
  refine j_S (w2 := (MO D M q) ++ (AR D (M 1) 455 s) ++ (AR D (M 5) 455 sp)) (st2 := [.int (bI (inR v (nI 0) (nI 3)))]) (c_X5_isChannel v) rfl cw_X5_141 dX5_enough_1 [] rfl [] rfl rfl rfl ?_ ⟨rfl, ⟨Nat.le_of_ble_eq_true rfl, Nat.le_of_ble_eq_true rfl⟩, ⟨rfl, rfl⟩, ⟨Nat.le_of_ble_eq_true rfl, Nat.le_of_ble_eq_true rfl⟩, Nat.le_of_ble_eq_true rfl, rfl, rfl⟩
  refine j_if_eq_B (tgt := 18) dX5_enough_4 (by decide) (fun h4 => ?_) (fun h4 => ?_)
  · skip
    refine j_iconst (v := (-1)) dX5_enough_18 (by decide) ?_
    exact j_iret dX5_enough_19 ⟨rfl, rfl⟩ ⟨by rw [show enA s v w = -1 from if_neg (fun q => nBool h4 q.1)], sp, rfl⟩
  · skip
    refine j_iload_n dX5_enough_7 2 rfl ?_
    refine j_iconst (v := nI 0) dX5_enough_8 (by decide) ?_
    refine j_sipush (v := nI 200) dX5_enough_9 (by decide) ?_
    refine j_S (w2 := (MO D M q) ++ (AR D (M 1) 455 s) ++ (AR D (M 5) 455 sp)) (st2 := [.int (bI (inR w (nI 0) (nI 200)))]) (c_X5_in w (nI 0) (nI 200)) rfl cw_X5_38 dX5_enough_12 [] rfl [] rfl rfl rfl ?_ ⟨rfl, ⟨Nat.le_of_ble_eq_true rfl, Nat.le_of_ble_eq_true rfl⟩, ⟨rfl, rfl⟩, ⟨Nat.le_of_ble_eq_true rfl, Nat.le_of_ble_eq_true rfl⟩, Nat.le_of_ble_eq_true rfl, rfl, rfl⟩
    refine j_if_ne_B (tgt := 20) dX5_enough_15 (by decide) (fun h15 => ?_) (fun h15 => ?_)
    · skip
      have hA : enA s v w = oN (fsN (enP s (cl v) (cl w)) 8 1) := if_pos ⟨h4, h15⟩
      obtain ⟨c, hc1, hc2, rfl⟩ := inR_nat (by decide) (by decide) h4
      obtain ⟨n, hn1, hn2, rfl⟩ := inR_nat (by decide) (by decide) h15
      rw [cl_nI (by omega), cl_nI (by omega)] at hA
      have hc2 : c < 4 := by omega
      refine j_aload_n dX5_enough_20 0 rfl ?_
      refine j_V (w2 := (MO D M q) ++ (AR D (M 1) 455 s) ++ (AR D (M 5) 455 s)) (st2 := []) (c_X5_keepsSpare M q s sp) rfl cw_X5_105 dX5_enough_21 [] rfl [0, 1, 2] rfl rfl rfl 5 ?_ ⟨rfl, ⟨Nat.le_of_ble_eq_true rfl, Nat.le_of_ble_eq_true rfl⟩, ⟨rfl, rfl⟩, ⟨Nat.le_of_ble_eq_true rfl, Nat.le_of_ble_eq_true rfl⟩, Nat.le_of_ble_eq_true rfl, rfl, rfl⟩ rfl rfl rfl
      refine j_bipush (v := (-9)) dX5_enough_24 (by decide) ?_
      refine j_topi (v := oN (fsN (enP s c n) 0 (8 + 1))) rfl ?_
      refine j_istore_n (lv2 := [(0, .ref (M 0)), (1, .int (nI c)), (2, .int (nI n)), (3, .int (oN (fsN (enP s c n) 0 (8 + 1))))]) dX5_enough_26 (by decide) [1, 2, 3, 0] rfl ?_
      refine j_bipush (v := nI 8) dX5_enough_27 (by decide) ?_
      refine j_istore (lv2 := [(0, .ref (M 0)), (1, .int (nI c)), (2, .int (nI n)), (3, .int (oN (fsN (enP s c n) 0 (8 + 1)))), (4, .int (nI 8))]) dX5_enough_29 (by decide) [1, 2, 3, 4, 0] rfl ?_
      have L31 : ∀ (fuel : Nat) (b : Nat), b ≤ 8 → b < fuel → J D Γ yX5_enough cX5_enough 6 (some .int) ({ frames := 5, cells := 0, slots := 0, locals := 118 } : Room) (Qf D Γ ({ frames := 5, cells := 0, slots := 0, locals := 118 } : Room) (fun v_ u_ => v_ = some (.int (enA s (nI c) (nI n))) ∧ ∃ t1 : SS, u_ = (MO D M q) ++ (AR D (M 1) 455 s) ++ (AR D (M 5) 455 t1))) 0 0 ((MO D M q) ++ (AR D (M 1) 455 s) ++ (AR D (M 5) 455 s)) 31 [(0, .ref (M 0)), (1, .int (nI c)), (2, .int (nI n)), (3, .int (oN (fsN (enP s c n) (8 - b) (b + 1)))), (4, .int (nI b))] [] := by
        intro fuel
        induction fuel with
        | zero => intro b hb hm; exact absurd hm (Nat.not_lt_zero _)
        | succ fuel ih =>
          intro b hb hm
          refine j_iload dX5_enough_31 4 rfl ?_
          refine j_iconst (v := nI 1) dX5_enough_33 (by decide) ?_
          refine j_icmp_lt_N (tgt := 87) dX5_enough_34 (by decide) ⟨by omega, by omega⟩ (fun h34 => ?_) (fun h34 => ?_)
          · skip
            refine j_iload_n dX5_enough_87 3 rfl ?_
            exact j_iret dX5_enough_88 ⟨rfl, rfl⟩ ⟨by rw [hA, show b = 0 by omega], _, rfl⟩
          · skip
            refine j_aload_n dX5_enough_37 0 rfl ?_
            refine g_X5_7 rfl dX5_enough_38 0 rfl rfl ?_
            refine j_iload_n dX5_enough_41 1 rfl ?_
            refine j_S (w2 := (MO D M q) ++ (AR D (M 1) 455 s) ++ (AR D (M 5) 455 s)) (st2 := [.int (nI (64 + 7 * c)), .ref (M 1)]) (c_X5_channelAt c) rfl cw_X5_75 dX5_enough_42 [.ref (M 1)] rfl [] rfl rfl rfl ?_ ⟨rfl, ⟨Nat.le_of_ble_eq_true rfl, Nat.le_of_ble_eq_true rfl⟩, ⟨rfl, rfl⟩, ⟨Nat.le_of_ble_eq_true rfl, Nat.le_of_ble_eq_true rfl⟩, Nat.le_of_ble_eq_true rfl, rfl, rfl⟩
            refine j_iconst (v := nI 2) dX5_enough_45 (by decide) ?_
            refine j_iadd (v := nI (64 + 7 * c + 2)) dX5_enough_46 (nI_add _ _) ?_
            refine j_iload dX5_enough_47 4 rfl ?_
            refine j_iast (w2 := (MO D M q) ++ (AR D (M 1) 455 (upd s (64 + 7 * c + 2) (nI b))) ++ (AR D (M 5) 455 s)) dX5_enough_49 1 (64 + 7 * c + 2) rfl (rfl) (by omega) (Nat.le_of_ble_eq_true rfl) (rfl) ?_
            refine j_aload_n dX5_enough_50 0 rfl ?_
            refine j_iload_n dX5_enough_51 1 rfl ?_
            refine j_callV (c_X5_overOf M q (upd s (64 + 7 * c + 2) (nI b)) (Inv_bu hI hc2 (by omega) (by omega)) c (by omega)) rfl cw_X5_158 rfl ⟨Nat.le_of_ble_eq_true rfl, Nat.le_of_ble_eq_true rfl⟩ ⟨rfl, rfl⟩ ⟨Nat.le_of_ble_eq_true rfl, Nat.le_of_ble_eq_true rfl⟩ dX5_enough_52 (rest := []) rfl (Nat.le_of_ble_eq_true rfl) [0, 1] rfl rfl 5 0 rfl rfl rfl (fun v_ w_ hf_ => ?_)
            obtain ⟨rfl, t1, rfl⟩ := hf_
            refine ⟨rfl, ?_⟩
            refine j_ws (w2 := (MO D M q) ++ (AR D (M 1) 455 t1) ++ (AR D (M 5) 455 s)) (st2 := [.int (oN (ovF true (upd s (64 + 7 * c + 2) (nI b)) c 200))]) rfl rfl ?_
            rcases hw : ovF true (upd s (64 + 7 * c + 2) (nI b)) c 200 with _ | d
            · skip
              have hp : enP s c n b = false := en_n (by omega) hw
              refine j_istore (lv2 := [(0, .ref (M 0)), (1, .int (nI c)), (2, .int (nI n)), (3, .int (oN (fsN (enP s c n) (8 - b) (b + 1)))), (4, .int (nI b)), (5, .int (-9))]) dX5_enough_55 (by decide) [1, 2, 3, 4, 5, 0] rfl ?_
              refine j_iload dX5_enough_57 5 rfl ?_
              refine j_bipush (v := (-9)) dX5_enough_59 (by decide) ?_
              refine j_icmp_eq (tgt := 75) dX5_enough_61 (by decide) (fun h61 => ?_) (fun h61 => absurd rfl h61)
              refine j_iload_n dX5_enough_75 3 rfl ?_
              refine j_istore_n (lv2 := [(0, .ref (M 0)), (1, .int (nI c)), (2, .int (nI n)), (3, .int (oN (fsN (enP s c n) (8 - b) (b + 1)))), (4, .int (nI b)), (5, .int (-9))]) dX5_enough_76 (by decide) [1, 2, 3, 0, 4, 5] rfl ?_
              refine j_aload_n dX5_enough_77 0 rfl ?_
              refine j_V (w2 := (MO D M q) ++ (AR D (M 1) 455 s) ++ (AR D (M 5) 455 s)) (st2 := []) (c_X5_takesBack M q t1 s) rfl cw_X5_108 dX5_enough_78 [] rfl [0, 1, 2] rfl rfl rfl 5 ?_ ⟨rfl, ⟨Nat.le_of_ble_eq_true rfl, Nat.le_of_ble_eq_true rfl⟩, ⟨rfl, rfl⟩, ⟨Nat.le_of_ble_eq_true rfl, Nat.le_of_ble_eq_true rfl⟩, Nat.le_of_ble_eq_true rfl, rfl, rfl⟩ rfl rfl rfl
              refine j_iinc (v := nI (b - 1)) (lv2 := [(0, .ref (M 0)), (1, .int (nI c)), (2, .int (nI n)), (3, .int (oN (fsN (enP s c n) (8 - b) (b + 1)))), (4, .int (nI (b - 1))), (5, .int (-9))]) dX5_enough_81 4 rfl (nI_dec (by omega)) (by decide) [1, 2, 3, 4, 0, 5] rfl ?_
              refine j_goto (tgt := 31) dX5_enough_84 (by decide) ?_
              refine j_lv (lv2 := [(0, .ref (M 0)), (1, .int (nI c)), (2, .int (nI n)), (3, .int (oN (fsN (enP s c n) (8 - b) (b + 1)))), (4, .int (nI (b - 1)))]) [0, 1, 2, 3, 4] rfl ?_
              have hh := ih (b - 1) (by omega) (by omega)
              rw [en_f (by omega) (by omega) hp] at hh
              exact hh
            · skip
              have hd := ovF_le hw
              refine j_istore (lv2 := [(0, .ref (M 0)), (1, .int (nI c)), (2, .int (nI n)), (3, .int (oN (fsN (enP s c n) (8 - b) (b + 1)))), (4, .int (nI b)), (5, .int (nI d))]) dX5_enough_55 (by decide) [1, 2, 3, 4, 5, 0] rfl ?_
              refine j_iload dX5_enough_57 5 rfl ?_
              refine j_bipush (v := (-9)) dX5_enough_59 (by decide) ?_
              refine j_icmp_eq (tgt := 75) dX5_enough_61 (by decide) (fun h61 => absurd h61 (nI_m9 (by omega))) (fun h61 => ?_)
              refine j_iload dX5_enough_64 5 rfl ?_
              refine j_iload_n dX5_enough_66 2 rfl ?_
              refine j_icmp_gt_N (tgt := 75) dX5_enough_67 (by decide) ⟨by omega, by omega⟩ (fun h67 => ?_) (fun h67 => ?_)
              · skip
                refine j_iload_n dX5_enough_75 3 rfl ?_
                refine j_istore_n (lv2 := [(0, .ref (M 0)), (1, .int (nI c)), (2, .int (nI n)), (3, .int (oN (fsN (enP s c n) (8 - b) (b + 1)))), (4, .int (nI b)), (5, .int (nI d))]) dX5_enough_76 (by decide) [1, 2, 3, 0, 4, 5] rfl ?_
                refine j_aload_n dX5_enough_77 0 rfl ?_
                refine j_V (w2 := (MO D M q) ++ (AR D (M 1) 455 s) ++ (AR D (M 5) 455 s)) (st2 := []) (c_X5_takesBack M q t1 s) rfl cw_X5_108 dX5_enough_78 [] rfl [0, 1, 2] rfl rfl rfl 5 ?_ ⟨rfl, ⟨Nat.le_of_ble_eq_true rfl, Nat.le_of_ble_eq_true rfl⟩, ⟨rfl, rfl⟩, ⟨Nat.le_of_ble_eq_true rfl, Nat.le_of_ble_eq_true rfl⟩, Nat.le_of_ble_eq_true rfl, rfl, rfl⟩ rfl rfl rfl
                refine j_iinc (v := nI (b - 1)) (lv2 := [(0, .ref (M 0)), (1, .int (nI c)), (2, .int (nI n)), (3, .int (oN (fsN (enP s c n) (8 - b) (b + 1)))), (4, .int (nI (b - 1))), (5, .int (nI d))]) dX5_enough_81 4 rfl (nI_dec (by omega)) (by decide) [1, 2, 3, 4, 0, 5] rfl ?_
                refine j_goto (tgt := 31) dX5_enough_84 (by decide) ?_
                refine j_lv (lv2 := [(0, .ref (M 0)), (1, .int (nI c)), (2, .int (nI n)), (3, .int (oN (fsN (enP s c n) (8 - b) (b + 1)))), (4, .int (nI (b - 1)))]) [0, 1, 2, 3, 4] rfl ?_
                have hh := ih (b - 1) (by omega) (by omega)
                rw [en_f (by omega) (by omega) (en_g hw h67)] at hh
                exact hh
              · skip
                refine j_iload dX5_enough_70 4 rfl ?_
                refine j_goto (tgt := 76) dX5_enough_72 (by decide) ?_
                refine j_istore_n (lv2 := [(0, .ref (M 0)), (1, .int (nI c)), (2, .int (nI n)), (3, .int (nI b)), (4, .int (nI b)), (5, .int (nI d))]) dX5_enough_76 (by decide) [1, 2, 3, 0, 4, 5] rfl ?_
                refine j_aload_n dX5_enough_77 0 rfl ?_
                refine j_V (w2 := (MO D M q) ++ (AR D (M 1) 455 s) ++ (AR D (M 5) 455 s)) (st2 := []) (c_X5_takesBack M q t1 s) rfl cw_X5_108 dX5_enough_78 [] rfl [0, 1, 2] rfl rfl rfl 5 ?_ ⟨rfl, ⟨Nat.le_of_ble_eq_true rfl, Nat.le_of_ble_eq_true rfl⟩, ⟨rfl, rfl⟩, ⟨Nat.le_of_ble_eq_true rfl, Nat.le_of_ble_eq_true rfl⟩, Nat.le_of_ble_eq_true rfl, rfl, rfl⟩ rfl rfl rfl
                refine j_iinc (v := nI (b - 1)) (lv2 := [(0, .ref (M 0)), (1, .int (nI c)), (2, .int (nI n)), (3, .int (nI b)), (4, .int (nI (b - 1))), (5, .int (nI d))]) dX5_enough_81 4 rfl (nI_dec (by omega)) (by decide) [1, 2, 3, 4, 0, 5] rfl ?_
                refine j_goto (tgt := 31) dX5_enough_84 (by decide) ?_
                refine j_lv (lv2 := [(0, .ref (M 0)), (1, .int (nI c)), (2, .int (nI n)), (3, .int (nI b)), (4, .int (nI (b - 1)))]) [0, 1, 2, 3, 4] rfl ?_
                have hh := ih (b - 1) (by omega) (by omega)
                rw [en_t (by omega) (by omega) (en_y (by omega) hw h67)] at hh
                exact hh
      exact L31 9 8 (by omega) (by omega)
    · skip
      refine j_iconst (v := (-1)) dX5_enough_18 (by decide) ?_
      exact j_iret dX5_enough_19 ⟨rfl, rfl⟩ ⟨by rw [show enA s v w = -1 from if_neg (fun q => nBool h15 q.2)], sp, rfl⟩

set_option maxHeartbeats 4000000 in
set_option maxRecDepth 100000 in
theorem c_X5_granted (M : Nat → Nat) (q : QT) (s sp : SS) (hI : Inv s) (v : Int32) : Ct D yX5_granted cX5_granted 4 (some .int) ({ frames := 4, cells := 0, slots := 0, locals := 96 } : Room) [.ref (M 0), .int v] ((MO D M q) ++ (AR D (M 1) 455 s) ++ (AR D (M 5) 455 sp)) (fun v_ u_ => v_ = some (.int (gnA s v)) ∧ ∃ t1 : SS, u_ = (MO D M q) ++ (AR D (M 1) 455 s) ++ (AR D (M 5) 455 t1)) := by
  refine ct_of (by decide) (Nat.le_of_ble_eq_true rfl) (lv0 := [(0, .ref (M 0)), (1, .int v)]) rfl (fun Γ => ?_)
  refine j_iload_n dX5_granted_0 1 rfl ?_
  refine j_iconst (v := nI 1) dX5_granted_1 (by decide) ?_
  refine j_bipush (v := nI 40) dX5_granted_2 (by decide) ?_
  refine j_S (w2 := (MO D M q) ++ (AR D (M 1) 455 s) ++ (AR D (M 5) 455 sp)) (st2 := [.int (bI (inR v (nI 1) (nI 40)))]) (c_X5_in v (nI 1) (nI 40)) rfl cw_X5_38 dX5_granted_4 [] rfl [] rfl rfl rfl ?_ ⟨rfl, ⟨Nat.le_of_ble_eq_true rfl, Nat.le_of_ble_eq_true rfl⟩, ⟨rfl, rfl⟩, ⟨Nat.le_of_ble_eq_true rfl, Nat.le_of_ble_eq_true rfl⟩, Nat.le_of_ble_eq_true rfl, rfl, rfl⟩
  refine j_if_ne_B (tgt := 12) dX5_granted_7 (by decide) (fun h7 => ?_) (fun h7 => ?_)
  · skip
    have hA : gnA s v = oN (tkW (itk true s (cl v - 1))) := if_pos h7
    obtain ⟨n, hn1, hn2, rfl⟩ := inR_nat (by decide) (by decide) h7
    rw [cl_nI (by omega)] at hA
    refine j_aload_n dX5_granted_12 0 rfl ?_
    refine j_V (w2 := (MO D M q) ++ (AR D (M 1) 455 s) ++ (AR D (M 5) 455 s)) (st2 := []) (c_X5_keepsSpare M q s sp) rfl cw_X5_105 dX5_granted_13 [] rfl [0, 1, 2] rfl rfl rfl 5 ?_ ⟨rfl, ⟨Nat.le_of_ble_eq_true rfl, Nat.le_of_ble_eq_true rfl⟩, ⟨rfl, rfl⟩, ⟨Nat.le_of_ble_eq_true rfl, Nat.le_of_ble_eq_true rfl⟩, Nat.le_of_ble_eq_true rfl, rfl, rfl⟩ rfl rfl rfl
    refine j_bipush (v := (-9)) dX5_granted_16 (by decide) ?_
    refine j_istore_n (lv2 := [(0, .ref (M 0)), (1, .int (nI n)), (2, .int (-9))]) dX5_granted_18 (by decide) [1, 2, 0] rfl ?_
    refine j_iconst (v := nI 0) dX5_granted_19 (by decide) ?_
    refine j_istore_n (lv2 := [(0, .ref (M 0)), (1, .int (nI n)), (2, .int (-9)), (3, .int (nI 0))]) dX5_granted_20 (by decide) [1, 2, 3, 0] rfl ?_
    have L21 : ∀ (fuel : Nat) (i : Nat) (a : Int32), i ≤ n → (1 ≤ i → a = oN (tkW (itk true s (i - 1)))) → n - i < fuel → J D Γ yX5_granted cX5_granted 4 (some .int) ({ frames := 4, cells := 0, slots := 0, locals := 96 } : Room) (Qf D Γ ({ frames := 4, cells := 0, slots := 0, locals := 96 } : Room) (fun v_ u_ => v_ = some (.int (gnA s (nI n))) ∧ ∃ t1 : SS, u_ = (MO D M q) ++ (AR D (M 1) 455 s) ++ (AR D (M 5) 455 t1))) 0 0 ((MO D M q) ++ (AR D (M 1) 455 (itk true s i)) ++ (AR D (M 5) 455 s)) 21 [(0, .ref (M 0)), (1, .int (nI n)), (2, .int a), (3, .int (nI i))] [] := by
      intro fuel
      induction fuel with
      | zero => intro i a hi ha hm; exact absurd hm (Nat.not_lt_zero _)
      | succ fuel ih =>
        intro i a hi ha hm
        refine j_iload_n dX5_granted_21 3 rfl ?_
        refine j_iload_n dX5_granted_22 1 rfl ?_
        refine j_icmp_ge_N (tgt := 37) dX5_granted_23 (by decide) ⟨by omega, by omega⟩ (fun h23 => ?_) (fun h23 => ?_)
        · skip
          refine j_aload_n dX5_granted_37 0 rfl ?_
          refine j_V (w2 := (MO D M q) ++ (AR D (M 1) 455 s) ++ (AR D (M 5) 455 s)) (st2 := []) (c_X5_takesBack M q (itk true s i) s) rfl cw_X5_108 dX5_granted_38 [] rfl [0, 1, 2] rfl rfl rfl 5 ?_ ⟨rfl, ⟨Nat.le_of_ble_eq_true rfl, Nat.le_of_ble_eq_true rfl⟩, ⟨rfl, rfl⟩, ⟨Nat.le_of_ble_eq_true rfl, Nat.le_of_ble_eq_true rfl⟩, Nat.le_of_ble_eq_true rfl, rfl, rfl⟩ rfl rfl rfl
          refine j_iload_n dX5_granted_41 2 rfl ?_
          exact j_iret dX5_granted_42 ⟨rfl, rfl⟩ ⟨by rw [hA, ha (by omega), show i = n by omega], _, rfl⟩
        · skip
          refine j_aload_n dX5_granted_26 0 rfl ?_
          refine j_V (w2 := (MO D M q) ++ (AR D (M 1) 455 (tkF true (itk true s i))) ++ (AR D (M 5) 455 s)) (st2 := [.int (oN (tkW (itk true s i)))]) (c_X5_ticksOnce M q (itk true s i) (Inv_it hI i)) rfl cw_X5_137 dX5_granted_27 [] rfl [0, 1] rfl rfl rfl 5 ?_ ⟨rfl, ⟨Nat.le_of_ble_eq_true rfl, Nat.le_of_ble_eq_true rfl⟩, ⟨rfl, rfl⟩, ⟨Nat.le_of_ble_eq_true rfl, Nat.le_of_ble_eq_true rfl⟩, Nat.le_of_ble_eq_true rfl, rfl, rfl⟩ rfl rfl rfl
          refine j_istore_n (lv2 := [(0, .ref (M 0)), (1, .int (nI n)), (2, .int (oN (tkW (itk true s i)))), (3, .int (nI i))]) dX5_granted_30 (by decide) [1, 2, 0, 3] rfl ?_
          refine j_iinc (v := nI (i + 1)) (lv2 := [(0, .ref (M 0)), (1, .int (nI n)), (2, .int (oN (tkW (itk true s i)))), (3, .int (nI (i + 1)))]) dX5_granted_31 3 rfl (nI_1 _) (by decide) [1, 2, 3, 0] rfl ?_
          refine j_goto (tgt := 21) dX5_granted_34 (by decide) ?_
          exact ih (i + 1) _ (by omega) (fun _ => rfl) (by omega)
    exact L21 (n + 1) 0 _ (by omega) (fun q => absurd q (by omega)) (by omega)
  · skip
    refine j_iconst (v := (-1)) dX5_granted_10 (by decide) ?_
    exact j_iret dX5_granted_11 ⟨rfl, rfl⟩ ⟨by rw [show gnA s v = -1 from if_neg (nBool h7)], sp, rfl⟩

set_option maxHeartbeats 4000000 in
set_option maxRecDepth 100000 in
theorem c_X5_isSeen (M : Nat → Nat) (u m : Nat) (r : Nat × Nat × Nat × Nat × Int32 × Int32) (s : SS) (hI : Inv s) (tk wh : SS) (hm6 : m ≤ 6) : Ct D yX5_isSeen cX5_isSeen 5 (some .boolean) ({ frames := 4, cells := 0, slots := 0, locals := 96 } : Room) [.ref (M 0)] ((MO D M (u, m, r)) ++ (AR D (M 1) 455 s) ++ (AR D (M 6) 6 tk) ++ (AR D (M 7) 6 wh)) (fun v_ u_ => v_ = some (.int (bI (caT s tk wh m 40))) ∧ ∃ t1 : SS, u_ = (MO D M (u, m, r)) ++ (AR D (M 1) 455 t1) ++ (AR D (M 6) 6 tk) ++ (AR D (M 7) 6 wh)) := by
  refine ct_of (by decide) (Nat.le_of_ble_eq_true rfl) (lv0 := [(0, .ref (M 0))]) rfl (fun Γ => ?_)
  refine j_iconst (v := nI 1) dX5_isSeen_0 (by decide) ?_
  refine j_topi (v := bI (caT s tk wh m 0)) rfl ?_
  refine j_istore_n (lv2 := [(0, .ref (M 0)), (1, .int (bI (caT s tk wh m 0)))]) dX5_isSeen_1 (by decide) [1, 0] rfl ?_
  refine j_iconst (v := nI 1) dX5_isSeen_2 (by decide) ?_
  refine j_istore_n (lv2 := [(0, .ref (M 0)), (1, .int (bI (caT s tk wh m 0))), (2, .int (nI 1))]) dX5_isSeen_3 (by decide) [1, 2, 0] rfl ?_
  have L4 : ∀ (fuel : Nat) (k : Nat), k ≤ 40 → 40 - k < fuel → J D Γ yX5_isSeen cX5_isSeen 5 (some .boolean) ({ frames := 4, cells := 0, slots := 0, locals := 96 } : Room) (Qf D Γ ({ frames := 4, cells := 0, slots := 0, locals := 96 } : Room) (fun v_ u_ => v_ = some (.int (bI (caT s tk wh m 40))) ∧ ∃ t1 : SS, u_ = (MO D M (u, m, r)) ++ (AR D (M 1) 455 t1) ++ (AR D (M 6) 6 tk) ++ (AR D (M 7) 6 wh))) 0 0 ((MO D M (u, m, r)) ++ (AR D (M 1) 455 (itk true s k)) ++ (AR D (M 6) 6 tk) ++ (AR D (M 7) 6 wh)) 4 [(0, .ref (M 0)), (1, .int (bI (caT s tk wh m k))), (2, .int (nI (k + 1)))] [] := by
    intro fuel
    induction fuel with
    | zero => intro k hk hm; exact absurd hm (Nat.not_lt_zero _)
    | succ fuel ih =>
      intro k hk hm
      have ih0 := ih
      refine j_iload_n dX5_isSeen_4 2 rfl ?_
      refine j_bipush (v := nI 40) dX5_isSeen_5 (by decide) ?_
      refine j_icmp_gt_N (tgt := 75) dX5_isSeen_7 (by decide) ⟨by omega, by omega⟩ (fun h7 => ?_) (fun h7 => ?_)
      · skip
        refine j_iload_n dX5_isSeen_75 1 rfl ?_
        exact j_zret dX5_isSeen_76 (nar_b _) ⟨rfl, rfl⟩ ⟨by rw [show k = 40 by omega], _, rfl⟩
      · skip
        refine j_iload_n dX5_isSeen_10 1 rfl ?_
        refine j_if_eq_B (tgt := 75) dX5_isSeen_11 (by decide) (fun h11 => ?_) (fun h11 => ?_)
        · skip
          refine j_iload_n dX5_isSeen_75 1 rfl ?_
          exact j_zret dX5_isSeen_76 (nar_b _) ⟨rfl, rfl⟩ ⟨by rw [show caT s tk wh m 40 = caT s tk wh m k from by rw [h11, show (40 : Nat) = k + (40 - k) by omega]; exact caT_up h11 _], _, rfl⟩
        · skip
          rw [h11]
          refine j_aload_n dX5_isSeen_14 0 rfl ?_
          refine j_V (w2 := (MO D M (u, m, r)) ++ (AR D (M 1) 455 (tkF true (itk true s k))) ++ (AR D (M 6) 6 tk) ++ (AR D (M 7) 6 wh)) (st2 := [.int (oN (tkW (itk true s k)))]) (c_X5_ticksOnce M (u, m, r) (itk true s k) (Inv_it hI k)) rfl cw_X5_137 dX5_isSeen_15 [] rfl [0, 1] rfl rfl rfl 5 ?_ ⟨rfl, ⟨Nat.le_of_ble_eq_true rfl, Nat.le_of_ble_eq_true rfl⟩, ⟨rfl, rfl⟩, ⟨Nat.le_of_ble_eq_true rfl, Nat.le_of_ble_eq_true rfl⟩, Nat.le_of_ble_eq_true rfl, rfl, rfl⟩ rfl rfl rfl
          refine j_istore_n (lv2 := [(0, .ref (M 0)), (1, .int (bI true)), (2, .int (nI (k + 1))), (3, .int (oN (tkW (itk true s k))))]) dX5_isSeen_18 (by decide) [1, 2, 3, 0] rfl ?_
          refine j_iconst (v := nI 0) dX5_isSeen_19 (by decide) ?_
          refine j_istore (lv2 := [(0, .ref (M 0)), (1, .int (bI true)), (2, .int (nI (k + 1))), (3, .int (oN (tkW (itk true s k)))), (4, .int (nI 0))]) dX5_isSeen_20 (by decide) [1, 2, 3, 4, 0] rfl ?_
          have L22 : ∀ (fuel : Nat) (i : Nat), i ≤ m → m - i < fuel → J D Γ yX5_isSeen cX5_isSeen 5 (some .boolean) ({ frames := 4, cells := 0, slots := 0, locals := 96 } : Room) (Qf D Γ ({ frames := 4, cells := 0, slots := 0, locals := 96 } : Room) (fun v_ u_ => v_ = some (.int (bI (caT s tk wh m 40))) ∧ ∃ t1 : SS, u_ = (MO D M (u, m, r)) ++ (AR D (M 1) 455 t1) ++ (AR D (M 6) 6 tk) ++ (AR D (M 7) 6 wh))) 0 0 ((MO D M (u, m, r)) ++ (AR D (M 1) 455 (itk true s (k + 1))) ++ (AR D (M 6) 6 tk) ++ (AR D (M 7) 6 wh)) 22 [(0, .ref (M 0)), (1, .int (bI (swN tk wh (k + 1) (oN (tkW (itk true s k))) i))), (2, .int (nI (k + 1))), (3, .int (oN (tkW (itk true s k)))), (4, .int (nI i))] [] := by
            intro fuel
            induction fuel with
            | zero => intro i hi hm; exact absurd hm (Nat.not_lt_zero _)
            | succ fuel ih =>
              intro i hi hm
              refine j_iload dX5_isSeen_22 4 rfl ?_
              refine j_aload_n dX5_isSeen_24 0 rfl ?_
              refine g_X5_161 rfl dX5_isSeen_25 0 rfl rfl ?_
              refine j_icmp_ge_N (tgt := 69) dX5_isSeen_28 (by decide) ⟨by omega, by show m < 2 ^ 31; omega⟩ (fun h28 => ?_) (fun h28 => ?_)
              · skip
                have hmi : m ≤ i := h28
                refine j_iinc (v := nI (k + 1 + 1)) (lv2 := [(0, .ref (M 0)), (1, .int (bI (swN tk wh (k + 1) (oN (tkW (itk true s k))) i))), (2, .int (nI (k + 1 + 1))), (3, .int (oN (tkW (itk true s k)))), (4, .int (nI i))]) dX5_isSeen_69 2 rfl (nI_1 _) (by decide) [1, 2, 0, 3, 4] rfl ?_
                refine j_goto (tgt := 4) dX5_isSeen_72 (by decide) ?_
                refine j_lv (lv2 := [(0, .ref (M 0)), (1, .int (bI (swN tk wh (k + 1) (oN (tkW (itk true s k))) i))), (2, .int (nI (k + 1 + 1)))]) [0, 1, 2] rfl ?_
                have hh2 := ih0 (k + 1) (by omega) (by omega)
                rw [show caT s tk wh m (k + 1) = swN tk wh (k + 1) (oN (tkW (itk true s k))) i from by show (caT s tk wh m k && swN tk wh (k + 1) (oN (tkW (itk false s k))) m) = _; rw [h11, Bool.true_and, show i = m by omega, eq_tkW (eq_it (b := false) (d := true) (s := s) eqv.rf k)]] at hh2
                exact hh2
              · skip
                have hmi : ¬ m ≤ i := h28
                refine j_iload_n dX5_isSeen_31 1 rfl ?_
                refine j_if_eq_B (tgt := 61) dX5_isSeen_32 (by decide) (fun h32 => ?_) (fun h32 => ?_)
                · skip
                  refine j_iconst (v := nI 0) dX5_isSeen_61 (by decide) ?_
                  refine j_istore_n (lv2 := [(0, .ref (M 0)), (1, .int (nI 0)), (2, .int (nI (k + 1))), (3, .int (oN (tkW (itk true s k)))), (4, .int (nI i))]) dX5_isSeen_62 (by decide) [1, 0, 2, 3, 4] rfl ?_
                  refine j_iinc (v := nI (i + 1)) (lv2 := [(0, .ref (M 0)), (1, .int (nI 0)), (2, .int (nI (k + 1))), (3, .int (oN (tkW (itk true s k)))), (4, .int (nI (i + 1)))]) dX5_isSeen_63 4 rfl (nI_1 _) (by decide) [1, 2, 3, 4, 0] rfl ?_
                  refine j_goto (tgt := 22) dX5_isSeen_66 (by decide) ?_
                  have hh2 := ih (i + 1) (by omega) (by omega)
                  rw [show swN tk wh (k + 1) (oN (tkW (itk true s k))) (i + 1) = false from swN_up h32 1] at hh2
                  exact hh2
                · skip
                  refine j_aload_n dX5_isSeen_35 0 rfl ?_
                  refine g_X5_26 rfl dX5_isSeen_36 0 rfl rfl ?_
                  refine j_iload dX5_isSeen_39 4 rfl ?_
                  refine j_iald (v := tk i) dX5_isSeen_41 2 i rfl (rfl) (by omega) (Nat.le_of_ble_eq_true rfl) (rfl) ?_
                  refine j_iload_n dX5_isSeen_42 2 rfl ?_
                  refine j_icmp_ne (tgt := 57) dX5_isSeen_43 (by decide) (fun h43 => ?_) (fun h43 => ?_)
                  · skip
                    refine j_iconst (v := nI 1) dX5_isSeen_57 (by decide) ?_
                    refine j_goto (tgt := 62) dX5_isSeen_58 (by decide) ?_
                    refine j_istore_n (lv2 := [(0, .ref (M 0)), (1, .int (nI 1)), (2, .int (nI (k + 1))), (3, .int (oN (tkW (itk true s k)))), (4, .int (nI i))]) dX5_isSeen_62 (by decide) [1, 0, 2, 3, 4] rfl ?_
                    refine j_iinc (v := nI (i + 1)) (lv2 := [(0, .ref (M 0)), (1, .int (nI 1)), (2, .int (nI (k + 1))), (3, .int (oN (tkW (itk true s k)))), (4, .int (nI (i + 1)))]) dX5_isSeen_63 4 rfl (nI_1 _) (by decide) [1, 2, 3, 4, 0] rfl ?_
                    refine j_goto (tgt := 22) dX5_isSeen_66 (by decide) ?_
                    have hh2 := ih (i + 1) (by omega) (by omega)
                    rw [(swN_n h43).trans h32] at hh2
                    exact hh2
                  · skip
                    refine j_aload_n dX5_isSeen_46 0 rfl ?_
                    refine g_X5_29 rfl dX5_isSeen_47 0 rfl rfl ?_
                    refine j_iload dX5_isSeen_50 4 rfl ?_
                    refine j_iald (v := wh i) dX5_isSeen_52 3 i rfl (rfl) (by omega) (Nat.le_of_ble_eq_true rfl) (rfl) ?_
                    refine j_iload_n dX5_isSeen_53 3 rfl ?_
                    refine j_icmp_ne (tgt := 61) dX5_isSeen_54 (by decide) (fun h54 => ?_) (fun h54 => ?_)
                    · skip
                      refine j_iconst (v := nI 0) dX5_isSeen_61 (by decide) ?_
                      refine j_istore_n (lv2 := [(0, .ref (M 0)), (1, .int (nI 0)), (2, .int (nI (k + 1))), (3, .int (oN (tkW (itk true s k)))), (4, .int (nI i))]) dX5_isSeen_62 (by decide) [1, 0, 2, 3, 4] rfl ?_
                      refine j_iinc (v := nI (i + 1)) (lv2 := [(0, .ref (M 0)), (1, .int (nI 0)), (2, .int (nI (k + 1))), (3, .int (oN (tkW (itk true s k)))), (4, .int (nI (i + 1)))]) dX5_isSeen_63 4 rfl (nI_1 _) (by decide) [1, 2, 3, 4, 0] rfl ?_
                      refine j_goto (tgt := 22) dX5_isSeen_66 (by decide) ?_
                      have hh2 := ih (i + 1) (by omega) (by omega)
                      rw [swN_f h43 h54] at hh2
                      exact hh2
                    · skip
                      refine j_iconst (v := nI 1) dX5_isSeen_57 (by decide) ?_
                      refine j_goto (tgt := 62) dX5_isSeen_58 (by decide) ?_
                      refine j_istore_n (lv2 := [(0, .ref (M 0)), (1, .int (nI 1)), (2, .int (nI (k + 1))), (3, .int (oN (tkW (itk true s k)))), (4, .int (nI i))]) dX5_isSeen_62 (by decide) [1, 0, 2, 3, 4] rfl ?_
                      refine j_iinc (v := nI (i + 1)) (lv2 := [(0, .ref (M 0)), (1, .int (nI 1)), (2, .int (nI (k + 1))), (3, .int (oN (tkW (itk true s k)))), (4, .int (nI (i + 1)))]) dX5_isSeen_63 4 rfl (nI_1 _) (by decide) [1, 2, 3, 4, 0] rfl ?_
                      refine j_goto (tgt := 22) dX5_isSeen_66 (by decide) ?_
                      have hh2 := ih (i + 1) (by omega) (by omega)
                      rw [(swN_y h54).trans h32] at hh2
                      exact hh2
          exact L22 (m + 1) 0 (by omega) (by omega)
  exact L4 41 0 (by omega) (by omega)

set_option maxHeartbeats 4000000 in
set_option maxRecDepth 100000 in
theorem c_X5_ranks (M : Nat → Nat) (u m : Nat) (r : Nat × Nat × Nat × Nat × Int32 × Int32) (s sp : SS) (hI : Inv s) (tk wh : SS) (hm6 : m ≤ 6) (v : Int32) : Ct D yX5_ranks cX5_ranks 4 (some .int) ({ frames := 5, cells := 0, slots := 0, locals := 120 } : Room) [.ref (M 0), .int v] ((MO D M (u, m, r)) ++ (AR D (M 1) 455 s) ++ (AR D (M 5) 455 sp) ++ (AR D (M 6) 6 tk) ++ (AR D (M 7) 6 wh)) (fun v_ u_ => v_ = some (.int (rkA s tk wh m v)) ∧ ∃ t1 : SS, u_ = (MO D M (u, m, r)) ++ (AR D (M 1) 455 s) ++ (AR D (M 5) 455 t1) ++ (AR D (M 6) 6 tk) ++ (AR D (M 7) 6 wh)) := by
  refine ct_of (by decide) (Nat.le_of_ble_eq_true rfl) (lv0 := [(0, .ref (M 0)), (1, .int v)]) rfl (fun Γ => ?_)
  refine j_iload_n dX5_ranks_0 1 rfl ?_
  refine j_S (w2 := (MO D M (u, m, r)) ++ (AR D (M 1) 455 s) ++ (AR D (M 5) 455 sp) ++ (AR D (M 6) 6 tk) ++ (AR D (M 7) 6 wh)) (st2 := [.int (bI (inR v (nI 0) (nI 3)))]) (c_X5_isChannel v) rfl cw_X5_141 dX5_ranks_1 [] rfl [] rfl rfl rfl ?_ ⟨rfl, ⟨Nat.le_of_ble_eq_true rfl, Nat.le_of_ble_eq_true rfl⟩, ⟨rfl, rfl⟩, ⟨Nat.le_of_ble_eq_true rfl, Nat.le_of_ble_eq_true rfl⟩, Nat.le_of_ble_eq_true rfl, rfl, rfl⟩
  refine j_if_ne_B (tgt := 9) dX5_ranks_4 (by decide) (fun h4 => ?_) (fun h4 => ?_)
  · skip
    have hA : rkA s tk wh m v = rkB s tk wh m (cl v) 4 := if_pos h4
    obtain ⟨c, hc1, hc2, rfl⟩ := inR_nat (by decide) (by decide) h4
    rw [cl_nI (by omega)] at hA
    have hc2 : c < 4 := by omega
    refine j_aload_n dX5_ranks_9 0 rfl ?_
    refine j_V (w2 := (MO D M (u, m, r)) ++ (AR D (M 1) 455 s) ++ (AR D (M 5) 455 s) ++ (AR D (M 6) 6 tk) ++ (AR D (M 7) 6 wh)) (st2 := []) (c_X5_keepsSpare M (u, m, r) s sp) rfl cw_X5_105 dX5_ranks_10 [] rfl [0, 1, 2] rfl rfl rfl 5 ?_ ⟨rfl, ⟨Nat.le_of_ble_eq_true rfl, Nat.le_of_ble_eq_true rfl⟩, ⟨rfl, rfl⟩, ⟨Nat.le_of_ble_eq_true rfl, Nat.le_of_ble_eq_true rfl⟩, Nat.le_of_ble_eq_true rfl, rfl, rfl⟩ rfl rfl rfl
    refine j_iconst (v := nI 0) dX5_ranks_13 (by decide) ?_
    refine j_topi (v := rkB s tk wh m c 0) rfl ?_
    refine j_istore_n (lv2 := [(0, .ref (M 0)), (1, .int (nI c)), (2, .int (rkB s tk wh m c 0))]) dX5_ranks_14 (by decide) [1, 2, 0] rfl ?_
    refine j_iconst (v := nI 0) dX5_ranks_15 (by decide) ?_
    refine j_istore_n (lv2 := [(0, .ref (M 0)), (1, .int (nI c)), (2, .int (rkB s tk wh m c 0)), (3, .int (nI 0))]) dX5_ranks_16 (by decide) [1, 2, 3, 0] rfl ?_
    have L17 : ∀ (fuel : Nat) (z : Nat), z ≤ 4 → 4 - z < fuel → J D Γ yX5_ranks cX5_ranks 4 (some .int) ({ frames := 5, cells := 0, slots := 0, locals := 120 } : Room) (Qf D Γ ({ frames := 5, cells := 0, slots := 0, locals := 120 } : Room) (fun v_ u_ => v_ = some (.int (rkA s tk wh m (nI c))) ∧ ∃ t1 : SS, u_ = (MO D M (u, m, r)) ++ (AR D (M 1) 455 s) ++ (AR D (M 5) 455 t1) ++ (AR D (M 6) 6 tk) ++ (AR D (M 7) 6 wh))) 0 0 ((MO D M (u, m, r)) ++ (AR D (M 1) 455 s) ++ (AR D (M 5) 455 s) ++ (AR D (M 6) 6 tk) ++ (AR D (M 7) 6 wh)) 17 [(0, .ref (M 0)), (1, .int (nI c)), (2, .int (rkB s tk wh m c z)), (3, .int (nI z))] [] := by
      intro fuel
      induction fuel with
      | zero => intro z hz hm; exact absurd hm (Nat.not_lt_zero _)
      | succ fuel ih =>
        intro z hz hm
        refine j_iload_n dX5_ranks_17 3 rfl ?_
        refine j_iconst (v := nI 4) dX5_ranks_18 (by decide) ?_
        refine j_icmp_ge_N (tgt := 61) dX5_ranks_19 (by decide) ⟨by omega, by omega⟩ (fun h19 => ?_) (fun h19 => ?_)
        · skip
          refine j_iload_n dX5_ranks_61 2 rfl ?_
          exact j_iret dX5_ranks_62 ⟨rfl, rfl⟩ ⟨by rw [hA, show z = 4 by omega], _, rfl⟩
        · skip
          refine j_aload_n dX5_ranks_22 0 rfl ?_
          refine g_X5_7 rfl dX5_ranks_23 0 rfl rfl ?_
          refine j_iload_n dX5_ranks_26 1 rfl ?_
          refine j_S (w2 := (MO D M (u, m, r)) ++ (AR D (M 1) 455 s) ++ (AR D (M 5) 455 s) ++ (AR D (M 6) 6 tk) ++ (AR D (M 7) 6 wh)) (st2 := [.int (nI (64 + 7 * c)), .ref (M 1)]) (c_X5_channelAt c) rfl cw_X5_75 dX5_ranks_27 [.ref (M 1)] rfl [] rfl rfl rfl ?_ ⟨rfl, ⟨Nat.le_of_ble_eq_true rfl, Nat.le_of_ble_eq_true rfl⟩, ⟨rfl, rfl⟩, ⟨Nat.le_of_ble_eq_true rfl, Nat.le_of_ble_eq_true rfl⟩, Nat.le_of_ble_eq_true rfl, rfl, rfl⟩
          refine j_iconst (v := nI 1) dX5_ranks_30 (by decide) ?_
          refine j_iadd (v := nI (64 + 7 * c + 1)) dX5_ranks_31 (nI_add _ _) ?_
          refine j_iload_n dX5_ranks_32 3 rfl ?_
          refine j_iast (w2 := (MO D M (u, m, r)) ++ (AR D (M 1) 455 (upd s (64 + 7 * c + 1) (nI z))) ++ (AR D (M 5) 455 s) ++ (AR D (M 6) 6 tk) ++ (AR D (M 7) 6 wh)) dX5_ranks_33 1 (64 + 7 * c + 1) rfl (rfl) (by omega) (Nat.le_of_ble_eq_true rfl) (rfl) ?_
          refine j_iload_n dX5_ranks_34 2 rfl ?_
          refine j_aload_n dX5_ranks_35 0 rfl ?_
          refine j_callV (c_X5_isSeen M u m r (upd s (64 + 7 * c + 1) (nI z)) (Inv_rk hI hc2 (by omega)) tk wh hm6) rfl cw_X5_164 rfl ⟨Nat.le_of_ble_eq_true rfl, Nat.le_of_ble_eq_true rfl⟩ ⟨rfl, rfl⟩ ⟨Nat.le_of_ble_eq_true rfl, Nat.le_of_ble_eq_true rfl⟩ dX5_ranks_36 (rest := [.int (rkB s tk wh m c z)]) rfl (Nat.le_of_ble_eq_true rfl) [0, 1, 3, 4] rfl rfl 5 0 rfl rfl rfl (fun v_ w_ hf_ => ?_)
          obtain ⟨rfl, t1, rfl⟩ := hf_
          refine ⟨rfl, ?_⟩
          refine j_ws (w2 := (MO D M (u, m, r)) ++ (AR D (M 1) 455 t1) ++ (AR D (M 5) 455 s) ++ (AR D (M 6) 6 tk) ++ (AR D (M 7) 6 wh)) (st2 := [.int (bI (caT (upd s (64 + 7 * c + 1) (nI z)) tk wh m 40)), .int (rkB s tk wh m c z)]) rfl rfl ?_
          refine j_if_eq_B (tgt := 48) dX5_ranks_39 (by decide) (fun h39 => ?_) (fun h39 => ?_)
          · skip
            refine j_iconst (v := nI 0) dX5_ranks_48 (by decide) ?_
            refine j_ior (v := rkB s tk wh m c z) dX5_ranks_49 (Int32.or_zero) ?_
            refine j_istore_n (lv2 := [(0, .ref (M 0)), (1, .int (nI c)), (2, .int (rkB s tk wh m c z)), (3, .int (nI z))]) dX5_ranks_50 (by decide) [1, 2, 0, 3] rfl ?_
            refine j_aload_n dX5_ranks_51 0 rfl ?_
            refine j_V (w2 := (MO D M (u, m, r)) ++ (AR D (M 1) 455 s) ++ (AR D (M 5) 455 s) ++ (AR D (M 6) 6 tk) ++ (AR D (M 7) 6 wh)) (st2 := []) (c_X5_takesBack M (u, m, r) t1 s) rfl cw_X5_108 dX5_ranks_52 [] rfl [0, 1, 2] rfl rfl rfl 5 ?_ ⟨rfl, ⟨Nat.le_of_ble_eq_true rfl, Nat.le_of_ble_eq_true rfl⟩, ⟨rfl, rfl⟩, ⟨Nat.le_of_ble_eq_true rfl, Nat.le_of_ble_eq_true rfl⟩, Nat.le_of_ble_eq_true rfl, rfl, rfl⟩ rfl rfl rfl
            refine j_iinc (v := nI (z + 1)) (lv2 := [(0, .ref (M 0)), (1, .int (nI c)), (2, .int (rkB s tk wh m c z)), (3, .int (nI (z + 1)))]) dX5_ranks_55 3 rfl (nI_1 _) (by decide) [1, 2, 3, 0] rfl ?_
            refine j_goto (tgt := 17) dX5_ranks_58 (by decide) ?_
            have hh := ih (z + 1) (by omega) (by omega)
            rw [show rkB s tk wh m c (z + 1) = rkB s tk wh m c z from if_neg (by rw [h39]; decide)] at hh
            exact hh
          · skip
            refine j_iconst (v := nI 1) dX5_ranks_42 (by decide) ?_
            refine j_iload_n dX5_ranks_43 3 rfl ?_
            refine j_ishl (v := (nI 1) <<< ((nI z) &&& 31)) dX5_ranks_44 (rfl) ?_
            refine j_goto (tgt := 49) dX5_ranks_45 (by decide) ?_
            refine j_ior (v := (rkB s tk wh m c z) ||| ((nI 1) <<< ((nI z) &&& 31))) dX5_ranks_49 (rfl) ?_
            refine j_istore_n (lv2 := [(0, .ref (M 0)), (1, .int (nI c)), (2, .int ((rkB s tk wh m c z) ||| ((nI 1) <<< ((nI z) &&& 31)))), (3, .int (nI z))]) dX5_ranks_50 (by decide) [1, 2, 0, 3] rfl ?_
            refine j_aload_n dX5_ranks_51 0 rfl ?_
            refine j_V (w2 := (MO D M (u, m, r)) ++ (AR D (M 1) 455 s) ++ (AR D (M 5) 455 s) ++ (AR D (M 6) 6 tk) ++ (AR D (M 7) 6 wh)) (st2 := []) (c_X5_takesBack M (u, m, r) t1 s) rfl cw_X5_108 dX5_ranks_52 [] rfl [0, 1, 2] rfl rfl rfl 5 ?_ ⟨rfl, ⟨Nat.le_of_ble_eq_true rfl, Nat.le_of_ble_eq_true rfl⟩, ⟨rfl, rfl⟩, ⟨Nat.le_of_ble_eq_true rfl, Nat.le_of_ble_eq_true rfl⟩, Nat.le_of_ble_eq_true rfl, rfl, rfl⟩ rfl rfl rfl
            refine j_iinc (v := nI (z + 1)) (lv2 := [(0, .ref (M 0)), (1, .int (nI c)), (2, .int ((rkB s tk wh m c z) ||| ((nI 1) <<< ((nI z) &&& 31)))), (3, .int (nI (z + 1)))]) dX5_ranks_55 3 rfl (nI_1 _) (by decide) [1, 2, 3, 0] rfl ?_
            refine j_goto (tgt := 17) dX5_ranks_58 (by decide) ?_
            have hh := ih (z + 1) (by omega) (by omega)
            rw [show rkB s tk wh m c (z + 1) = rkB s tk wh m c z ||| ((1 : Int32) <<< (nI z &&& 31)) from if_pos h39] at hh
            exact hh
    exact L17 5 0 (by omega) (by omega)
  · skip
    refine j_iconst (v := (-1)) dX5_ranks_7 (by decide) ?_
    exact j_iret dX5_ranks_8 ⟨rfl, rfl⟩ ⟨by rw [show rkA s tk wh m v = -1 from if_neg (nBool h4)], sp, rfl⟩

end MD5
