abbrev RT : Type := Nat × Nat × Nat × Nat × Nat × Int32 × Int32
def cpN (f g : SS) (i : Nat) : SS := fun j => if j < i then f j else g j
theorem cpN_s {f g : SS} {i : Nat} : upd (cpN f g i) i (f i) = cpN f g (i + 1) := by
  funext j; unfold upd cpN
  by_cases h : j = i
  · subst h; rw [if_pos rfl, if_pos (by omega)]
  · rw [if_neg h]
    by_cases h2 : j < i
    · rw [if_pos h2, if_pos (by omega)]
    · rw [if_neg h2, if_neg (by omega)]
def shN (pa : SS) (i : Nat) : SS := fun j => if j < i then pa (j + 455) else pa j
theorem shN_0 {pa : SS} : shN pa 0 = pa := by funext j; unfold shN; rw [if_neg (by omega)]
theorem shN_s {pa : SS} {i : Nat} : upd (shN pa i) i (shN pa i (i + 455)) = shN pa (i + 1) := by
  funext j; unfold upd shN
  by_cases h : j = i
  · subst h; rw [if_pos rfl, if_neg (by omega), if_pos (by omega)]
  · rw [if_neg h]
    by_cases h2 : j < i
    · rw [if_pos h2, if_pos (by omega)]
    · rw [if_neg h2, if_neg (by omega)]
def inN (pa : SS) (u : Nat) (sp : SS) (i : Nat) : SS := fun j => if 455 * u ≤ j ∧ j < 455 * u + i then sp (j - 455 * u) else pa j
def rmF (pa : SS) (u : Nat) (sp : SS) : SS := if u = 6 then inN (shN pa 2275) 5 sp 455 else inN pa u sp 455
theorem inN_0 {pa sp : SS} {u : Nat} : inN pa u sp 0 = pa := by funext j; unfold inN; rw [if_neg (by omega)]
theorem inN_s {pa sp : SS} {u i : Nat} : upd (inN pa u sp i) (455 * u + i) (sp i) = inN pa u sp (i + 1) := by
  funext j; unfold upd inN
  by_cases h : j = 455 * u + i
  · subst h; rw [if_pos rfl, if_pos (by omega)]; congr 1; omega
  · rw [if_neg h]
    by_cases h2 : 455 * u ≤ j ∧ j < 455 * u + i
    · rw [if_pos h2, if_pos (by omega)]
    · rw [if_neg h2, if_neg (by omega)]
section MD2
variable {D : DX}
set_option maxHeartbeats 4000000 in
set_option maxRecDepth 100000 in
theorem c_X5_keepsSpare (M : Nat → Nat) (q : QT) (s sp : SS) : Ct D yX5_keepsSpare cX5_keepsSpare 2 none ({ frames := 0, cells := 0, slots := 0, locals := 0 } : Room) [.ref (M 0)] ((MO D M q) ++ (AR D (M 1) 455 s) ++ (AR D (M 5) 455 sp)) (fun v_ u_ => v_ = none ∧ u_ = (MO D M q) ++ (AR D (M 1) 455 s) ++ (AR D (M 5) 455 s)) := by
  refine ct_of (by decide) (Nat.le_of_ble_eq_true rfl) (lv0 := [(0, .ref (M 0))]) rfl (fun Γ => ?_)
  refine j_iconst (v := nI 0) dX5_keepsSpare_0 (by decide) ?_
  refine j_istore_n (lv2 := [(0, .ref (M 0)), (1, .int (nI 0))]) dX5_keepsSpare_1 (by decide) [1, 0] rfl ?_
  have L2 : ∀ (fuel : Nat) (i : Nat), i ≤ 455 → 455 - i < fuel → J D Γ yX5_keepsSpare cX5_keepsSpare 2 none ({ frames := 0, cells := 0, slots := 0, locals := 0 } : Room) (Qf D Γ ({ frames := 0, cells := 0, slots := 0, locals := 0 } : Room) (fun v_ u_ => v_ = none ∧ u_ = (MO D M q) ++ (AR D (M 1) 455 s) ++ (AR D (M 5) 455 s))) 0 0 ((MO D M q) ++ (AR D (M 1) 455 s) ++ (AR D (M 5) 455 (cpN s sp i))) 2 [(0, .ref (M 0)), (1, .int (nI i))] [] := by
    intro fuel
    induction fuel with
    | zero => intro i hi hm; exact absurd hm (Nat.not_lt_zero _)
    | succ fuel ih =>
      intro i hi hm
      refine j_iload_n dX5_keepsSpare_2 1 rfl ?_
      refine j_sipush (v := nI 455) dX5_keepsSpare_3 (by decide) ?_
      refine j_icmp_ge_N (tgt := 27) dX5_keepsSpare_6 (by decide) ⟨by omega, by omega⟩ (fun h6 => ?_) (fun h6 => ?_)
      · skip
        obtain rfl : i = 455 := by omega
        refine j_cong (w2 := (MO D M q) ++ (AR D (M 1) 455 s) ++ (AR D (M 5) 455 s)) 2 rfl (fun j hj => if_pos hj) rfl ?_
        exact j_vret dX5_keepsSpare_27 ⟨rfl, rfl⟩ ⟨rfl, rfl⟩
      · skip
        refine j_aload_n dX5_keepsSpare_9 0 rfl ?_
        refine g_X5_23 rfl dX5_keepsSpare_10 0 rfl rfl ?_
        refine j_iload_n dX5_keepsSpare_13 1 rfl ?_
        refine j_aload_n dX5_keepsSpare_14 0 rfl ?_
        refine g_X5_7 rfl dX5_keepsSpare_15 0 rfl rfl ?_
        refine j_iload_n dX5_keepsSpare_18 1 rfl ?_
        refine j_iald (v := s i) dX5_keepsSpare_19 1 i rfl (rfl) (by omega) (Nat.le_of_ble_eq_true rfl) (rfl) ?_
        refine j_iast (w2 := (MO D M q) ++ (AR D (M 1) 455 s) ++ (AR D (M 5) 455 (cpN s sp (i + 1)))) dX5_keepsSpare_20 2 i rfl (rfl) (by omega) (Nat.le_of_ble_eq_true rfl) (by rw [← cpN_s]; rfl) ?_
        refine j_iinc (v := nI (i + 1)) (lv2 := [(0, .ref (M 0)), (1, .int (nI (i + 1)))]) dX5_keepsSpare_21 1 rfl (nI_1 _) (by decide) [1, 0] rfl ?_
        refine j_goto (tgt := 2) dX5_keepsSpare_24 (by decide) ?_
        exact ih (i + 1) (by omega) (by omega)
  exact L2 456 0 (by omega) (by omega)

set_option maxHeartbeats 4000000 in
set_option maxRecDepth 100000 in
theorem c_X5_takesBack (M : Nat → Nat) (q : QT) (s sp : SS) : Ct D yX5_takesBack cX5_takesBack 2 none ({ frames := 0, cells := 0, slots := 0, locals := 0 } : Room) [.ref (M 0)] ((MO D M q) ++ (AR D (M 1) 455 s) ++ (AR D (M 5) 455 sp)) (fun v_ u_ => v_ = none ∧ u_ = (MO D M q) ++ (AR D (M 1) 455 sp) ++ (AR D (M 5) 455 sp)) := by
  refine ct_of (by decide) (Nat.le_of_ble_eq_true rfl) (lv0 := [(0, .ref (M 0))]) rfl (fun Γ => ?_)
  refine j_iconst (v := nI 0) dX5_takesBack_0 (by decide) ?_
  refine j_istore_n (lv2 := [(0, .ref (M 0)), (1, .int (nI 0))]) dX5_takesBack_1 (by decide) [1, 0] rfl ?_
  have L2 : ∀ (fuel : Nat) (i : Nat), i ≤ 455 → 455 - i < fuel → J D Γ yX5_takesBack cX5_takesBack 2 none ({ frames := 0, cells := 0, slots := 0, locals := 0 } : Room) (Qf D Γ ({ frames := 0, cells := 0, slots := 0, locals := 0 } : Room) (fun v_ u_ => v_ = none ∧ u_ = (MO D M q) ++ (AR D (M 1) 455 sp) ++ (AR D (M 5) 455 sp))) 0 0 ((MO D M q) ++ (AR D (M 1) 455 (cpN sp s i)) ++ (AR D (M 5) 455 sp)) 2 [(0, .ref (M 0)), (1, .int (nI i))] [] := by
    intro fuel
    induction fuel with
    | zero => intro i hi hm; exact absurd hm (Nat.not_lt_zero _)
    | succ fuel ih =>
      intro i hi hm
      refine j_iload_n dX5_takesBack_2 1 rfl ?_
      refine j_sipush (v := nI 455) dX5_takesBack_3 (by decide) ?_
      refine j_icmp_ge_N (tgt := 27) dX5_takesBack_6 (by decide) ⟨by omega, by omega⟩ (fun h6 => ?_) (fun h6 => ?_)
      · skip
        obtain rfl : i = 455 := by omega
        refine j_cong (w2 := (MO D M q) ++ (AR D (M 1) 455 sp) ++ (AR D (M 5) 455 sp)) 1 rfl (fun j hj => if_pos hj) rfl ?_
        exact j_vret dX5_takesBack_27 ⟨rfl, rfl⟩ ⟨rfl, rfl⟩
      · skip
        refine j_aload_n dX5_takesBack_9 0 rfl ?_
        refine g_X5_7 rfl dX5_takesBack_10 0 rfl rfl ?_
        refine j_iload_n dX5_takesBack_13 1 rfl ?_
        refine j_aload_n dX5_takesBack_14 0 rfl ?_
        refine g_X5_23 rfl dX5_takesBack_15 0 rfl rfl ?_
        refine j_iload_n dX5_takesBack_18 1 rfl ?_
        refine j_iald (v := sp i) dX5_takesBack_19 2 i rfl (rfl) (by omega) (Nat.le_of_ble_eq_true rfl) (rfl) ?_
        refine j_iast (w2 := (MO D M q) ++ (AR D (M 1) 455 (cpN sp s (i + 1))) ++ (AR D (M 5) 455 sp)) dX5_takesBack_20 1 i rfl (rfl) (by omega) (Nat.le_of_ble_eq_true rfl) (by rw [← cpN_s]; rfl) ?_
        refine j_iinc (v := nI (i + 1)) (lv2 := [(0, .ref (M 0)), (1, .int (nI (i + 1)))]) dX5_takesBack_21 1 rfl (nI_1 _) (by decide) [1, 0] rfl ?_
        refine j_goto (tgt := 2) dX5_takesBack_24 (by decide) ?_
        exact ih (i + 1) (by omega) (by omega)
  exact L2 456 0 (by omega) (by omega)

set_option maxHeartbeats 4000000 in
set_option maxRecDepth 100000 in
theorem c_X5_remembers (M : Nat → Nat) (u : Nat) (r : RT) (pa sp : SS) (hu : u < 6) : Ct D yX5_remembers cX5_remembers 2 none ({ frames := 0, cells := 0, slots := 0, locals := 0 } : Room) [.ref (M 0)] ((MO D M (u, r)) ++ (AR D (M 2) 2730 pa) ++ (AR D (M 5) 455 sp)) (fun v_ u_ => v_ = none ∧ u_ = (MO D M (u + 1, r)) ++ (AR D (M 2) 2730 (inN pa u sp 455)) ++ (AR D (M 5) 455 sp)) := by
  refine ct_of (by decide) (Nat.le_of_ble_eq_true rfl) (lv0 := [(0, .ref (M 0))]) rfl (fun Γ => ?_)
  refine j_aload_n dX5_remembers_0 0 rfl ?_
  refine g_X5_98 rfl dX5_remembers_1 0 rfl rfl ?_
  refine j_bipush (v := nI 6) dX5_remembers_4 (by decide) ?_
  refine j_icmp_ne_N (tgt := 50) dX5_remembers_6 (by decide) ⟨by omega, by omega⟩ (fun h6 => ?_) (fun h6 => absurd h6 (by omega))
  refine j_iconst (v := nI 0) dX5_remembers_50 (by decide) ?_
  refine j_w (w2 := (MO D M (u, r)) ++ (AR D (M 2) 2730 (inN pa u sp 0)) ++ (AR D (M 5) 455 sp)) (by rw [inN_0]) ?_
  refine j_istore_n (lv2 := [(0, .ref (M 0)), (1, .int (nI 0))]) dX5_remembers_51 (by decide) [1, 0] rfl ?_
  have L52 : ∀ (fuel : Nat) (i : Nat), i ≤ 455 → 455 - i < fuel → J D Γ yX5_remembers cX5_remembers 2 none ({ frames := 0, cells := 0, slots := 0, locals := 0 } : Room) (Qf D Γ ({ frames := 0, cells := 0, slots := 0, locals := 0 } : Room) (fun v_ u_ => v_ = none ∧ u_ = (MO D M (u + 1, r)) ++ (AR D (M 2) 2730 (inN pa u sp 455)) ++ (AR D (M 5) 455 sp))) 0 0 ((MO D M (u, r)) ++ (AR D (M 2) 2730 (inN pa u sp i)) ++ (AR D (M 5) 455 sp)) 52 [(0, .ref (M 0)), (1, .int (nI i))] [] := by
    intro fuel
    induction fuel with
    | zero => intro i hi hm; exact absurd hm (Nat.not_lt_zero _)
    | succ fuel ih =>
      intro i hi hm
      refine j_iload_n dX5_remembers_52 1 rfl ?_
      refine j_sipush (v := nI 455) dX5_remembers_53 (by decide) ?_
      refine j_icmp_ge_N (tgt := 86) dX5_remembers_56 (by decide) ⟨by omega, by omega⟩ (fun h56 => ?_) (fun h56 => ?_)
      · skip
        obtain rfl : i = 455 := by omega
        refine j_aload_n dX5_remembers_86 0 rfl ?_
        refine j_dup dX5_remembers_87 rfl ?_
        refine g_X5_98 rfl dX5_remembers_88 0 rfl rfl ?_
        refine j_iconst (v := nI 1) dX5_remembers_91 (by decide) ?_
        refine j_iadd (v := nI (u + 1)) dX5_remembers_92 (nI_add _ _) ?_
        refine p_X5_98 (w2 := (MO D M (u + 1, r)) ++ (AR D (M 2) 2730 (inN pa u sp 455)) ++ (AR D (M 5) 455 sp)) rfl dX5_remembers_93 0 rfl (Nat.le_of_ble_eq_true rfl) (rfl) ?_
        exact j_vret dX5_remembers_96 ⟨rfl, rfl⟩ ⟨rfl, rfl⟩
      · skip
        refine j_aload_n dX5_remembers_59 0 rfl ?_
        refine g_X5_13 rfl dX5_remembers_60 0 rfl rfl ?_
        refine j_sipush (v := nI 455) dX5_remembers_63 (by decide) ?_
        refine j_aload_n dX5_remembers_66 0 rfl ?_
        refine g_X5_98 rfl dX5_remembers_67 0 rfl rfl ?_
        refine j_imul (v := nI (455 * u)) dX5_remembers_70 (pk_mul _ _) ?_
        refine j_iload_n dX5_remembers_71 1 rfl ?_
        refine j_iadd (v := nI (455 * u + i)) dX5_remembers_72 (nI_add _ _) ?_
        refine j_aload_n dX5_remembers_73 0 rfl ?_
        refine g_X5_23 rfl dX5_remembers_74 0 rfl rfl ?_
        refine j_iload_n dX5_remembers_77 1 rfl ?_
        refine j_iald (v := sp i) dX5_remembers_78 2 i rfl (rfl) (by omega) (Nat.le_of_ble_eq_true rfl) (rfl) ?_
        refine j_iast (w2 := (MO D M (u, r)) ++ (AR D (M 2) 2730 (inN pa u sp (i + 1))) ++ (AR D (M 5) 455 sp)) dX5_remembers_79 1 (455 * u + i) rfl (rfl) (by omega) (Nat.le_of_ble_eq_true rfl) (by rw [← inN_s]; rfl) ?_
        refine j_iinc (v := nI (i + 1)) (lv2 := [(0, .ref (M 0)), (1, .int (nI (i + 1)))]) dX5_remembers_80 1 rfl (nI_1 _) (by decide) [1, 0] rfl ?_
        refine j_goto (tgt := 52) dX5_remembers_83 (by decide) ?_
        exact ih (i + 1) (by omega) (by omega)
  exact L52 456 0 (by omega) (by omega)

set_option maxHeartbeats 4000000 in
set_option maxRecDepth 100000 in
theorem c_X5_remembers6 (M : Nat → Nat) (r : RT) (pa sp : SS) : Ct D yX5_remembers cX5_remembers 2 none ({ frames := 0, cells := 0, slots := 0, locals := 0 } : Room) [.ref (M 0)] ((MO D M (6, r)) ++ (AR D (M 2) 2730 pa) ++ (AR D (M 5) 455 sp)) (fun v_ u_ => v_ = none ∧ u_ = (MO D M (5 + 1, r)) ++ (AR D (M 2) 2730 (inN (shN pa 2275) 5 sp 455)) ++ (AR D (M 5) 455 sp)) := by
  refine ct_of (by decide) (Nat.le_of_ble_eq_true rfl) (lv0 := [(0, .ref (M 0))]) rfl (fun Γ => ?_)
  refine j_aload_n dX5_remembers_0 0 rfl ?_
  refine g_X5_98 rfl dX5_remembers_1 0 rfl rfl ?_
  refine j_bipush (v := nI 6) dX5_remembers_4 (by decide) ?_
  refine j_icmp_ne_N (tgt := 50) dX5_remembers_6 (by decide) ⟨by omega, by omega⟩ (fun h6 => absurd rfl h6) (fun h6 => ?_)
  refine j_iconst (v := nI 0) dX5_remembers_9 (by decide) ?_
  refine j_w (w2 := (MO D M (6, r)) ++ (AR D (M 2) 2730 (shN pa 0)) ++ (AR D (M 5) 455 sp)) (by rw [shN_0]) ?_
  refine j_istore_n (lv2 := [(0, .ref (M 0)), (1, .int (nI 0))]) dX5_remembers_10 (by decide) [1, 0] rfl ?_
  have L11 : ∀ (fuel : Nat) (i : Nat), i ≤ 2275 → 2275 - i < fuel → J D Γ yX5_remembers cX5_remembers 2 none ({ frames := 0, cells := 0, slots := 0, locals := 0 } : Room) (Qf D Γ ({ frames := 0, cells := 0, slots := 0, locals := 0 } : Room) (fun v_ u_ => v_ = none ∧ u_ = (MO D M (5 + 1, r)) ++ (AR D (M 2) 2730 (inN (shN pa 2275) 5 sp 455)) ++ (AR D (M 5) 455 sp))) 0 0 ((MO D M (6, r)) ++ (AR D (M 2) 2730 (shN pa i)) ++ (AR D (M 5) 455 sp)) 11 [(0, .ref (M 0)), (1, .int (nI i))] [] := by
    intro fuel
    induction fuel with
    | zero => intro i hi hm; exact absurd hm (Nat.not_lt_zero _)
    | succ fuel ih =>
      intro i hi hm
      refine j_iload_n dX5_remembers_11 1 rfl ?_
      refine j_sipush (v := nI 2275) dX5_remembers_12 (by decide) ?_
      refine j_icmp_ge_N (tgt := 40) dX5_remembers_15 (by decide) ⟨by omega, by omega⟩ (fun h15 => ?_) (fun h15 => ?_)
      · skip
        obtain rfl : i = 2275 := by omega
        refine j_aload_n dX5_remembers_40 0 rfl ?_
        refine j_dup dX5_remembers_41 rfl ?_
        refine g_X5_98 rfl dX5_remembers_42 0 rfl rfl ?_
        refine j_iconst (v := nI 1) dX5_remembers_45 (by decide) ?_
        refine j_isub (v := nI 5) dX5_remembers_46 (pk_sub (show 1 ≤ 6 by decide)) ?_
        refine p_X5_98 (w2 := (MO D M (5, r)) ++ (AR D (M 2) 2730 (shN pa 2275)) ++ (AR D (M 5) 455 sp)) rfl dX5_remembers_47 0 rfl (Nat.le_of_ble_eq_true rfl) (rfl) ?_
        refine j_iconst (v := nI 0) dX5_remembers_50 (by decide) ?_
        refine j_w (w2 := (MO D M (5, r)) ++ (AR D (M 2) 2730 (inN (shN pa 2275) 5 sp 0)) ++ (AR D (M 5) 455 sp)) (by rw [inN_0]) ?_
        refine j_istore_n (lv2 := [(0, .ref (M 0)), (1, .int (nI 0))]) dX5_remembers_51 (by decide) [1, 0] rfl ?_
        have L52 : ∀ (fuel : Nat) (i : Nat), i ≤ 455 → 455 - i < fuel → J D Γ yX5_remembers cX5_remembers 2 none ({ frames := 0, cells := 0, slots := 0, locals := 0 } : Room) (Qf D Γ ({ frames := 0, cells := 0, slots := 0, locals := 0 } : Room) (fun v_ u_ => v_ = none ∧ u_ = (MO D M (5 + 1, r)) ++ (AR D (M 2) 2730 (inN (shN pa 2275) 5 sp 455)) ++ (AR D (M 5) 455 sp))) 0 0 ((MO D M (5, r)) ++ (AR D (M 2) 2730 (inN (shN pa 2275) 5 sp i)) ++ (AR D (M 5) 455 sp)) 52 [(0, .ref (M 0)), (1, .int (nI i))] [] := by
          intro fuel
          induction fuel with
          | zero => intro i hi hm; exact absurd hm (Nat.not_lt_zero _)
          | succ fuel ih =>
            intro i hi hm
            refine j_iload_n dX5_remembers_52 1 rfl ?_
            refine j_sipush (v := nI 455) dX5_remembers_53 (by decide) ?_
            refine j_icmp_ge_N (tgt := 86) dX5_remembers_56 (by decide) ⟨by omega, by omega⟩ (fun h56 => ?_) (fun h56 => ?_)
            · skip
              obtain rfl : i = 455 := by omega
              refine j_aload_n dX5_remembers_86 0 rfl ?_
              refine j_dup dX5_remembers_87 rfl ?_
              refine g_X5_98 rfl dX5_remembers_88 0 rfl rfl ?_
              refine j_iconst (v := nI 1) dX5_remembers_91 (by decide) ?_
              refine j_iadd (v := nI (5 + 1)) dX5_remembers_92 (nI_add _ _) ?_
              refine p_X5_98 (w2 := (MO D M (5 + 1, r)) ++ (AR D (M 2) 2730 (inN (shN pa 2275) 5 sp 455)) ++ (AR D (M 5) 455 sp)) rfl dX5_remembers_93 0 rfl (Nat.le_of_ble_eq_true rfl) (rfl) ?_
              exact j_vret dX5_remembers_96 ⟨rfl, rfl⟩ ⟨rfl, rfl⟩
            · skip
              refine j_aload_n dX5_remembers_59 0 rfl ?_
              refine g_X5_13 rfl dX5_remembers_60 0 rfl rfl ?_
              refine j_sipush (v := nI 455) dX5_remembers_63 (by decide) ?_
              refine j_aload_n dX5_remembers_66 0 rfl ?_
              refine g_X5_98 rfl dX5_remembers_67 0 rfl rfl ?_
              refine j_imul (v := nI (455 * 5)) dX5_remembers_70 (pk_mul _ _) ?_
              refine j_iload_n dX5_remembers_71 1 rfl ?_
              refine j_iadd (v := nI (455 * 5 + i)) dX5_remembers_72 (nI_add _ _) ?_
              refine j_aload_n dX5_remembers_73 0 rfl ?_
              refine g_X5_23 rfl dX5_remembers_74 0 rfl rfl ?_
              refine j_iload_n dX5_remembers_77 1 rfl ?_
              refine j_iald (v := sp i) dX5_remembers_78 2 i rfl (rfl) (by omega) (Nat.le_of_ble_eq_true rfl) (rfl) ?_
              refine j_iast (w2 := (MO D M (5, r)) ++ (AR D (M 2) 2730 (inN (shN pa 2275) 5 sp (i + 1))) ++ (AR D (M 5) 455 sp)) dX5_remembers_79 1 (455 * 5 + i) rfl (rfl) (by omega) (Nat.le_of_ble_eq_true rfl) (by rw [← inN_s]; rfl) ?_
              refine j_iinc (v := nI (i + 1)) (lv2 := [(0, .ref (M 0)), (1, .int (nI (i + 1)))]) dX5_remembers_80 1 rfl (nI_1 _) (by decide) [1, 0] rfl ?_
              refine j_goto (tgt := 52) dX5_remembers_83 (by decide) ?_
              exact ih (i + 1) (by omega) (by omega)
        exact L52 456 0 (by omega) (by omega)
      · skip
        refine j_aload_n dX5_remembers_18 0 rfl ?_
        refine g_X5_13 rfl dX5_remembers_19 0 rfl rfl ?_
        refine j_iload_n dX5_remembers_22 1 rfl ?_
        refine j_aload_n dX5_remembers_23 0 rfl ?_
        refine g_X5_13 rfl dX5_remembers_24 0 rfl rfl ?_
        refine j_iload_n dX5_remembers_27 1 rfl ?_
        refine j_sipush (v := nI 455) dX5_remembers_28 (by decide) ?_
        refine j_iadd (v := nI (i + 455)) dX5_remembers_31 (nI_add _ _) ?_
        refine j_iald (v := shN pa i (i + 455)) dX5_remembers_32 1 (i + 455) rfl (rfl) (by omega) (Nat.le_of_ble_eq_true rfl) (rfl) ?_
        refine j_iast (w2 := (MO D M (6, r)) ++ (AR D (M 2) 2730 (shN pa (i + 1))) ++ (AR D (M 5) 455 sp)) dX5_remembers_33 1 i rfl (rfl) (by omega) (Nat.le_of_ble_eq_true rfl) (by rw [← shN_s]; rfl) ?_
        refine j_iinc (v := nI (i + 1)) (lv2 := [(0, .ref (M 0)), (1, .int (nI (i + 1)))]) dX5_remembers_34 1 rfl (nI_1 _) (by decide) [1, 0] rfl ?_
        refine j_goto (tgt := 11) dX5_remembers_37 (by decide) ?_
        exact ih (i + 1) (by omega) (by omega)
  exact L11 2276 0 (by omega) (by omega)

theorem c_X5_rem (M : Nat → Nat) (u : Nat) (r : RT) (pa sp : SS) (hu : u ≤ 6) : Ct D yX5_remembers cX5_remembers 2 none ({ frames := 0, cells := 0, slots := 0, locals := 0 } : Room) [.ref (M 0)] ((MO D M (u, r)) ++ (AR D (M 2) 2730 pa) ++ (AR D (M 5) 455 sp)) (fun v_ u_ => v_ = none ∧ u_ = (MO D M (min (u + 1) 6, r)) ++ (AR D (M 2) 2730 (rmF pa u sp)) ++ (AR D (M 5) 455 sp)) := by
  by_cases h : u = 6
  · subst h
    rw [show min (6 + 1) 6 = 5 + 1 from rfl, show rmF pa 6 sp = inN (shN pa 2275) 5 sp 455 from if_pos rfl]
    exact c_X5_remembers6 M r pa sp
  · rw [show min (u + 1) 6 = u + 1 by omega, show rmF pa u sp = inN pa u sp 455 from if_neg h]
    exact c_X5_remembers M u r pa sp (by omega)

end MD2
