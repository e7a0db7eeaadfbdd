section RU1
variable {D : DX} {Γ : GX} {y : MethodName} {cc : ByteArray} {nL : Nat} {ret : Option FieldType} {R : Room} {Q : State → Prop} {k n : Nat} {w : va_W} {pc : Nat} {lv : List (Nat × Value)} {st : List Value}

theorem j_iconst {z : Int} {v : Int32} (hdg : decode cc pc = .ok (.iconst z, 1)) (hv : Int32.ofInt z = v) (kk : J D Γ y cc nL ret R Q k n w (pc + 1) lv (.int v :: st)) : J D Γ y cc nL ret R Q k n w pc lv st := by
  obtain ⟨p, e, s, m, args, below, meth, c, A⟩ := Γ
  intro h H locs ls hP hD hS hl
  exact lv_iconst h.1 h.2.1 hdg hv (kk h H locs ls hP hD hS hl)
theorem j_bipush {z : Int} {v : Int32} (hdg : decode cc pc = .ok (.bipush z, 2)) (hv : (Int8.ofInt z).toInt32 = v) (kk : J D Γ y cc nL ret R Q k n w (pc + 2) lv (.int v :: st)) : J D Γ y cc nL ret R Q k n w pc lv st := by
  obtain ⟨p, e, s, m, args, below, meth, c, A⟩ := Γ
  intro h H locs ls hP hD hS hl
  exact lv_bipush h.1 h.2.1 hdg hv (kk h H locs ls hP hD hS hl)
theorem j_sipush {z : Int} {v : Int32} (hdg : decode cc pc = .ok (.sipush z, 3)) (hv : (Int16.ofInt z).toInt32 = v) (kk : J D Γ y cc nL ret R Q k n w (pc + 3) lv (.int v :: st)) : J D Γ y cc nL ret R Q k n w pc lv st := by
  obtain ⟨p, e, s, m, args, below, meth, c, A⟩ := Γ
  intro h H locs ls hP hD hS hl
  exact lv_sipush h.1 h.2.1 hdg hv (kk h H locs ls hP hD hS hl)
theorem j_lconst {z : Fin 2} {v : Int64} (hdg : decode cc pc = .ok (.lconst z, 1)) (hv : Int64.ofNat (z : Nat) = v) (kk : J D Γ y cc nL ret R Q k n w (pc + 1) lv (.long v :: st)) : J D Γ y cc nL ret R Q k n w pc lv st := by
  obtain ⟨p, e, s, m, args, below, meth, c, A⟩ := Γ
  intro h H locs ls hP hD hS hl
  exact lv_lconst h.1 h.2.1 hdg hv (kk h H locs ls hP hD hS hl)
theorem j_iload_n {j : Fin 4} {x : Int32} (hdg : decode cc pc = .ok (.iload_n j, 1)) (q : Nat) (hq : lv[q]? = some (j.val, .int x)) (kk : J D Γ y cc nL ret R Q k n w (pc + 1) lv (.int x :: st)) : J D Γ y cc nL ret R Q k n w pc lv st := by
  obtain ⟨p, e, s, m, args, below, meth, c, A⟩ := Γ
  intro h H locs ls hP hD hS hl
  exact lv_iload_n h.1 h.2.1 hdg rfl (lv_at hl q hq) (kk h H locs ls hP hD hS hl)
theorem j_iload {j : Nat} {x : Int32} (hdg : decode cc pc = .ok (.iload j, 2)) (q : Nat) (hq : lv[q]? = some (j, .int x)) (kk : J D Γ y cc nL ret R Q k n w (pc + 2) lv (.int x :: st)) : J D Γ y cc nL ret R Q k n w pc lv st := by
  obtain ⟨p, e, s, m, args, below, meth, c, A⟩ := Γ
  intro h H locs ls hP hD hS hl
  exact lv_iload h.1 h.2.1 hdg (lv_at hl q hq) (kk h H locs ls hP hD hS hl)
theorem j_lload_n {j : Fin 4} {x : Int64} (hdg : decode cc pc = .ok (.lload_n j, 1)) (q : Nat) (hq : lv[q]? = some (j.val, .long x)) (kk : J D Γ y cc nL ret R Q k n w (pc + 1) lv (.long x :: st)) : J D Γ y cc nL ret R Q k n w pc lv st := by
  obtain ⟨p, e, s, m, args, below, meth, c, A⟩ := Γ
  intro h H locs ls hP hD hS hl
  exact lv_lload_n h.1 h.2.1 hdg rfl (lv_at hl q hq) (kk h H locs ls hP hD hS hl)
theorem j_lload {j : Nat} {x : Int64} (hdg : decode cc pc = .ok (.lload j, 2)) (q : Nat) (hq : lv[q]? = some (j, .long x)) (kk : J D Γ y cc nL ret R Q k n w (pc + 2) lv (.long x :: st)) : J D Γ y cc nL ret R Q k n w pc lv st := by
  obtain ⟨p, e, s, m, args, below, meth, c, A⟩ := Γ
  intro h H locs ls hP hD hS hl
  exact lv_lload h.1 h.2.1 hdg (lv_at hl q hq) (kk h H locs ls hP hD hS hl)
theorem j_aload_n {j : Fin 4} {x : Nat} (hdg : decode cc pc = .ok (.aload_n j, 1)) (q : Nat) (hq : lv[q]? = some (j.val, .ref x)) (kk : J D Γ y cc nL ret R Q k n w (pc + 1) lv (.ref x :: st)) : J D Γ y cc nL ret R Q k n w pc lv st := by
  obtain ⟨p, e, s, m, args, below, meth, c, A⟩ := Γ
  intro h H locs ls hP hD hS hl
  exact lv_aload_n h.1 h.2.1 hdg rfl (lv_at hl q hq) (kk h H locs ls hP hD hS hl)
theorem j_aload {j : Nat} {x : Nat} (hdg : decode cc pc = .ok (.aload j, 2)) (q : Nat) (hq : lv[q]? = some (j, .ref x)) (kk : J D Γ y cc nL ret R Q k n w (pc + 2) lv (.ref x :: st)) : J D Γ y cc nL ret R Q k n w pc lv st := by
  obtain ⟨p, e, s, m, args, below, meth, c, A⟩ := Γ
  intro h H locs ls hP hD hS hl
  exact lv_aload h.1 h.2.1 hdg (lv_at hl q hq) (kk h H locs ls hP hD hS hl)
theorem j_istore_n {j : Fin 4} {x : Int32} {lv2 : List (Nat × Value)} (hdg : decode cc pc = .ok (.istore_n j, 1)) (hn : j.val < nL) (ks : List Nat) (hk : lv_pick ((j.val, .int x) :: lv.filter (fun q => !(q.1 == j.val) && !(q.1 + 1 == j.val && q.2.category == 2))) ks = lv2) (kk : J D Γ y cc nL ret R Q k n w (pc + 1) lv2 st) : J D Γ y cc nL ret R Q k n w pc lv (.int x :: st) := by
  obtain ⟨p, e, s, m, args, below, meth, c, A⟩ := Γ
  intro h H locs ls hP hD hS hl
  exact lv_istore_n h.1 h.2.1 hdg rfl hl hn rfl (fun ls hl => kk h H locs ls hP hD hS (lv_sub hl ks hk))
theorem j_istore {j : Nat} {x : Int32} {lv2 : List (Nat × Value)} (hdg : decode cc pc = .ok (.istore j, 2)) (hn : j < nL) (ks : List Nat) (hk : lv_pick ((j, .int x) :: lv.filter (fun q => !(q.1 == j) && !(q.1 + 1 == j && q.2.category == 2))) ks = lv2) (kk : J D Γ y cc nL ret R Q k n w (pc + 2) lv2 st) : J D Γ y cc nL ret R Q k n w pc lv (.int x :: st) := by
  obtain ⟨p, e, s, m, args, below, meth, c, A⟩ := Γ
  intro h H locs ls hP hD hS hl
  exact lv_istore h.1 h.2.1 hdg hl hn rfl (fun ls hl => kk h H locs ls hP hD hS (lv_sub hl ks hk))
theorem j_lstore_n {j : Fin 4} {x : Int64} {lv2 : List (Nat × Value)} (hdg : decode cc pc = .ok (.lstore_n j, 1)) (hn : j.val + 1 < nL) (ks : List Nat) (hk : lv_pick ((j.val, .long x) :: lv.filter (fun q => !(q.1 == j.val) && (!(q.1 == j.val + 1) && !(q.1 + 1 == j.val && q.2.category == 2)))) ks = lv2) (kk : J D Γ y cc nL ret R Q k n w (pc + 1) lv2 st) : J D Γ y cc nL ret R Q k n w pc lv (.long x :: st) := by
  obtain ⟨p, e, s, m, args, below, meth, c, A⟩ := Γ
  intro h H locs ls hP hD hS hl
  exact lv_lstore_n h.1 h.2.1 hdg rfl hl hn rfl (fun ls hl => kk h H locs ls hP hD hS (lv_sub hl ks hk))
theorem j_lstore {j : Nat} {x : Int64} {lv2 : List (Nat × Value)} (hdg : decode cc pc = .ok (.lstore j, 2)) (hn : j + 1 < nL) (ks : List Nat) (hk : lv_pick ((j, .long x) :: lv.filter (fun q => !(q.1 == j) && (!(q.1 == j + 1) && !(q.1 + 1 == j && q.2.category == 2)))) ks = lv2) (kk : J D Γ y cc nL ret R Q k n w (pc + 2) lv2 st) : J D Γ y cc nL ret R Q k n w pc lv (.long x :: st) := by
  obtain ⟨p, e, s, m, args, below, meth, c, A⟩ := Γ
  intro h H locs ls hP hD hS hl
  exact lv_lstore h.1 h.2.1 hdg hl hn rfl (fun ls hl => kk h H locs ls hP hD hS (lv_sub hl ks hk))
theorem j_astore_n {j : Fin 4} {x : Nat} {lv2 : List (Nat × Value)} (hdg : decode cc pc = .ok (.astore_n j, 1)) (hn : j.val < nL) (ks : List Nat) (hk : lv_pick ((j.val, .ref x) :: lv.filter (fun q => !(q.1 == j.val) && !(q.1 + 1 == j.val && q.2.category == 2))) ks = lv2) (kk : J D Γ y cc nL ret R Q k n w (pc + 1) lv2 st) : J D Γ y cc nL ret R Q k n w pc lv (.ref x :: st) := by
  obtain ⟨p, e, s, m, args, below, meth, c, A⟩ := Γ
  intro h H locs ls hP hD hS hl
  exact lv_astore_n h.1 h.2.1 hdg rfl hl hn rfl (fun ls hl => kk h H locs ls hP hD hS (lv_sub hl ks hk))
theorem j_astore {j : Nat} {x : Nat} {lv2 : List (Nat × Value)} (hdg : decode cc pc = .ok (.astore j, 2)) (hn : j < nL) (ks : List Nat) (hk : lv_pick ((j, .ref x) :: lv.filter (fun q => !(q.1 == j) && !(q.1 + 1 == j && q.2.category == 2))) ks = lv2) (kk : J D Γ y cc nL ret R Q k n w (pc + 2) lv2 st) : J D Γ y cc nL ret R Q k n w pc lv (.ref x :: st) := by
  obtain ⟨p, e, s, m, args, below, meth, c, A⟩ := Γ
  intro h H locs ls hP hD hS hl
  exact lv_astore h.1 h.2.1 hdg hl hn rfl (fun ls hl => kk h H locs ls hP hD hS (lv_sub hl ks hk))
theorem j_iinc {j : Nat} {z : Int} {x v : Int32} {lv2 : List (Nat × Value)} (hdg : decode cc pc = .ok (.iinc j z, 3)) (q : Nat) (hq : lv[q]? = some (j, .int x)) (hv : x + Int32.ofInt z = v) (hn : j < nL) (ks : List Nat) (hk : lv_pick ((j, .int v) :: lv.filter (fun q => !(q.1 == j) && !(q.1 + 1 == j && q.2.category == 2))) ks = lv2) (kk : J D Γ y cc nL ret R Q k n w (pc + 3) lv2 st) : J D Γ y cc nL ret R Q k n w pc lv st := by
  obtain ⟨p, e, s, m, args, below, meth, c, A⟩ := Γ
  intro h H locs ls hP hD hS hl
  exact lv_iinc h.1 h.2.1 hdg hl hq hv hn rfl (fun ls hl => kk h H locs ls hP hD hS (lv_sub hl ks hk))
theorem j_iadd {x z v : Int32} (hdg : decode cc pc = .ok (.iadd, 1)) (hv : x + z = v) (kk : J D Γ y cc nL ret R Q k n w (pc + 1) lv (.int v :: st)) : J D Γ y cc nL ret R Q k n w pc lv (.int z :: .int x :: st) := by
  obtain ⟨p, e, s, m, args, below, meth, c, A⟩ := Γ
  intro h H locs ls hP hD hS hl
  exact lv_iadd h.1 h.2.1 hdg (by rw [hv]; exact (kk h H locs ls hP hD hS hl))
theorem j_isub {x z v : Int32} (hdg : decode cc pc = .ok (.isub, 1)) (hv : x - z = v) (kk : J D Γ y cc nL ret R Q k n w (pc + 1) lv (.int v :: st)) : J D Γ y cc nL ret R Q k n w pc lv (.int z :: .int x :: st) := by
  obtain ⟨p, e, s, m, args, below, meth, c, A⟩ := Γ
  intro h H locs ls hP hD hS hl
  exact lv_isub h.1 h.2.1 hdg (by rw [hv]; exact (kk h H locs ls hP hD hS hl))
theorem j_imul {x z v : Int32} (hdg : decode cc pc = .ok (.imul, 1)) (hv : x * z = v) (kk : J D Γ y cc nL ret R Q k n w (pc + 1) lv (.int v :: st)) : J D Γ y cc nL ret R Q k n w pc lv (.int z :: .int x :: st) := by
  obtain ⟨p, e, s, m, args, below, meth, c, A⟩ := Γ
  intro h H locs ls hP hD hS hl
  exact lv_imul h.1 h.2.1 hdg (by rw [hv]; exact (kk h H locs ls hP hD hS hl))
theorem j_iand {x z v : Int32} (hdg : decode cc pc = .ok (.iand, 1)) (hv : x &&& z = v) (kk : J D Γ y cc nL ret R Q k n w (pc + 1) lv (.int v :: st)) : J D Γ y cc nL ret R Q k n w pc lv (.int z :: .int x :: st) := by
  obtain ⟨p, e, s, m, args, below, meth, c, A⟩ := Γ
  intro h H locs ls hP hD hS hl
  exact lv_iand h.1 h.2.1 hdg (by rw [hv]; exact (kk h H locs ls hP hD hS hl))
theorem j_ior {x z v : Int32} (hdg : decode cc pc = .ok (.ior, 1)) (hv : x ||| z = v) (kk : J D Γ y cc nL ret R Q k n w (pc + 1) lv (.int v :: st)) : J D Γ y cc nL ret R Q k n w pc lv (.int z :: .int x :: st) := by
  obtain ⟨p, e, s, m, args, below, meth, c, A⟩ := Γ
  intro h H locs ls hP hD hS hl
  exact lv_ior h.1 h.2.1 hdg (by rw [hv]; exact (kk h H locs ls hP hD hS hl))
theorem j_ixor {x z v : Int32} (hdg : decode cc pc = .ok (.ixor, 1)) (hv : x ^^^ z = v) (kk : J D Γ y cc nL ret R Q k n w (pc + 1) lv (.int v :: st)) : J D Γ y cc nL ret R Q k n w pc lv (.int z :: .int x :: st) := by
  obtain ⟨p, e, s, m, args, below, meth, c, A⟩ := Γ
  intro h H locs ls hP hD hS hl
  exact lv_ixor h.1 h.2.1 hdg (by rw [hv]; exact (kk h H locs ls hP hD hS hl))
theorem j_ladd {x z v : Int64} (hdg : decode cc pc = .ok (.ladd, 1)) (hv : x + z = v) (kk : J D Γ y cc nL ret R Q k n w (pc + 1) lv (.long v :: st)) : J D Γ y cc nL ret R Q k n w pc lv (.long z :: .long x :: st) := by
  obtain ⟨p, e, s, m, args, below, meth, c, A⟩ := Γ
  intro h H locs ls hP hD hS hl
  exact lv_ladd h.1 h.2.1 hdg (by rw [hv]; exact (kk h H locs ls hP hD hS hl))
theorem j_lsub {x z v : Int64} (hdg : decode cc pc = .ok (.lsub, 1)) (hv : x - z = v) (kk : J D Γ y cc nL ret R Q k n w (pc + 1) lv (.long v :: st)) : J D Γ y cc nL ret R Q k n w pc lv (.long z :: .long x :: st) := by
  obtain ⟨p, e, s, m, args, below, meth, c, A⟩ := Γ
  intro h H locs ls hP hD hS hl
  exact lv_lsub h.1 h.2.1 hdg (by rw [hv]; exact (kk h H locs ls hP hD hS hl))
theorem j_land {x z v : Int64} (hdg : decode cc pc = .ok (.land, 1)) (hv : x &&& z = v) (kk : J D Γ y cc nL ret R Q k n w (pc + 1) lv (.long v :: st)) : J D Γ y cc nL ret R Q k n w pc lv (.long z :: .long x :: st) := by
  obtain ⟨p, e, s, m, args, below, meth, c, A⟩ := Γ
  intro h H locs ls hP hD hS hl
  exact lv_land h.1 h.2.1 hdg (by rw [hv]; exact (kk h H locs ls hP hD hS hl))
theorem j_lor {x z v : Int64} (hdg : decode cc pc = .ok (.lor, 1)) (hv : x ||| z = v) (kk : J D Γ y cc nL ret R Q k n w (pc + 1) lv (.long v :: st)) : J D Γ y cc nL ret R Q k n w pc lv (.long z :: .long x :: st) := by
  obtain ⟨p, e, s, m, args, below, meth, c, A⟩ := Γ
  intro h H locs ls hP hD hS hl
  exact lv_lor h.1 h.2.1 hdg (by rw [hv]; exact (kk h H locs ls hP hD hS hl))
theorem j_idiv {x z v : Int32} (hdg : decode cc pc = .ok (.idiv, 1)) (hne : ¬ z = 0) (hv : x / z = v) (kk : J D Γ y cc nL ret R Q k n w (pc + 1) lv (.int v :: st)) : J D Γ y cc nL ret R Q k n w pc lv (.int z :: .int x :: st) := by
  obtain ⟨p, e, s, m, args, below, meth, c, A⟩ := Γ
  intro h H locs ls hP hD hS hl
  exact lv_idiv h.1 h.2.1 hdg hne (by rw [hv]; exact (kk h H locs ls hP hD hS hl))
theorem j_irem {x z v : Int32} (hdg : decode cc pc = .ok (.irem, 1)) (hne : ¬ z = 0) (hv : x - x / z * z = v) (kk : J D Γ y cc nL ret R Q k n w (pc + 1) lv (.int v :: st)) : J D Γ y cc nL ret R Q k n w pc lv (.int z :: .int x :: st) := by
  obtain ⟨p, e, s, m, args, below, meth, c, A⟩ := Γ
  intro h H locs ls hP hD hS hl
  exact lv_irem h.1 h.2.1 hdg hne (by rw [hv]; exact (kk h H locs ls hP hD hS hl))
theorem j_ineg {x v : Int32} (hdg : decode cc pc = .ok (.ineg, 1)) (hv : -x = v) (kk : J D Γ y cc nL ret R Q k n w (pc + 1) lv (.int v :: st)) : J D Γ y cc nL ret R Q k n w pc lv (.int x :: st) := by
  obtain ⟨p, e, s, m, args, below, meth, c, A⟩ := Γ
  intro h H locs ls hP hD hS hl
  exact lv_ineg h.1 h.2.1 hdg (by rw [hv]; exact (kk h H locs ls hP hD hS hl))
theorem j_ishl {x z v : Int32} (hdg : decode cc pc = .ok (.ishl, 1)) (hv : x <<< (z &&& 31) = v) (kk : J D Γ y cc nL ret R Q k n w (pc + 1) lv (.int v :: st)) : J D Γ y cc nL ret R Q k n w pc lv (.int z :: .int x :: st) := by
  obtain ⟨p, e, s, m, args, below, meth, c, A⟩ := Γ
  intro h H locs ls hP hD hS hl
  exact lv_ishl h.1 h.2.1 hdg (by rw [hv]; exact (kk h H locs ls hP hD hS hl))
theorem j_lushr {x v : Int64} {z : Int32} (hdg : decode cc pc = .ok (.lushr, 1)) (hv : (x.toUInt64 >>> (z.toInt64.toUInt64 &&& Int64.toUInt64 63)).toInt64 = v) (kk : J D Γ y cc nL ret R Q k n w (pc + 1) lv (.long v :: st)) : J D Γ y cc nL ret R Q k n w pc lv (.int z :: .long x :: st) := by
  obtain ⟨p, e, s, m, args, below, meth, c, A⟩ := Γ
  intro h H locs ls hP hD hS hl
  exact lv_lushr h.1 h.2.1 hdg hv (kk h H locs ls hP hD hS hl)
theorem j_lshl {x v : Int64} {z : Int32} (hdg : decode cc pc = .ok (.lshl, 1)) (hv : x <<< (z.toInt64 &&& 63) = v) (kk : J D Γ y cc nL ret R Q k n w (pc + 1) lv (.long v :: st)) : J D Γ y cc nL ret R Q k n w pc lv (.int z :: .long x :: st) := by
  obtain ⟨p, e, s, m, args, below, meth, c, A⟩ := Γ
  intro h H locs ls hP hD hS hl
  exact lv_lshl h.1 h.2.1 hdg hv (kk h H locs ls hP hD hS hl)
theorem j_lshr {x v : Int64} {z : Int32} (hdg : decode cc pc = .ok (.lshr, 1)) (hv : x >>> (z.toInt64 &&& 63) = v) (kk : J D Γ y cc nL ret R Q k n w (pc + 1) lv (.long v :: st)) : J D Γ y cc nL ret R Q k n w pc lv (.int z :: .long x :: st) := by
  obtain ⟨p, e, s, m, args, below, meth, c, A⟩ := Γ
  intro h H locs ls hP hD hS hl
  exact lv_lshr h.1 h.2.1 hdg hv (kk h H locs ls hP hD hS hl)
theorem j_l2i {x : Int64} {v : Int32} (hdg : decode cc pc = .ok (.l2i, 1)) (hv : x.toInt32 = v) (kk : J D Γ y cc nL ret R Q k n w (pc + 1) lv (.int v :: st)) : J D Γ y cc nL ret R Q k n w pc lv (.long x :: st) := by
  obtain ⟨p, e, s, m, args, below, meth, c, A⟩ := Γ
  intro h H locs ls hP hD hS hl
  exact lv_l2i h.1 h.2.1 hdg hv (kk h H locs ls hP hD hS hl)
theorem j_dup {va : Value} (hdg : decode cc pc = .ok (.dup, 1)) (hva : va.category = 1) (kk : J D Γ y cc nL ret R Q k n w (pc + 1) lv (va :: va :: st)) : J D Γ y cc nL ret R Q k n w pc lv (va :: st) := by
  obtain ⟨p, e, s, m, args, below, meth, c, A⟩ := Γ
  intro h H locs ls hP hD hS hl
  exact lv_dup h.1 h.2.1 hdg hva (kk h H locs ls hP hD hS hl)
theorem j_pop {va : Value} (hdg : decode cc pc = .ok (.pop, 1)) (hva : va.category = 1) (kk : J D Γ y cc nL ret R Q k n w (pc + 1) lv st) : J D Γ y cc nL ret R Q k n w pc lv (va :: st) := by
  obtain ⟨p, e, s, m, args, below, meth, c, A⟩ := Γ
  intro h H locs ls hP hD hS hl
  exact lv_pop h.1 h.2.1 hdg hva (kk h H locs ls hP hD hS hl)
theorem j_dup2 {va vb : Value} (hdg : decode cc pc = .ok (.dup2, 1)) (hva : va.category = 1) (hvb : vb.category = 1) (kk : J D Γ y cc nL ret R Q k n w (pc + 1) lv (va :: vb :: va :: vb :: st)) : J D Γ y cc nL ret R Q k n w pc lv (va :: vb :: st) := by
  obtain ⟨p, e, s, m, args, below, meth, c, A⟩ := Γ
  intro h H locs ls hP hD hS hl
  exact lv_dup2_11 h.1 h.2.1 hdg hva hvb (kk h H locs ls hP hD hS hl)
-- if_eq ::     (kt : x = 0 → W p l e R s m args below meth c H locs cells slots Q (F0 m tgt ls rest)) (kf : ¬ x = 0 → W p l e R s m args below meth c H locs cells slots Q (F0 m (pc + 3) ls rest)) : W p l e R s m args below meth c H locs cells slots Q (F0 m pc ls (.int x 
theorem j_if_eq {x : Int32} {off : Int} {tgt : Nat} (hdg : decode cc pc = .ok (.ifCond .eq off, 3)) (ht : (pc : Int) + off = (tgt : Int)) (k1 : x = 0 → J D Γ y cc nL ret R Q k n w tgt lv st) (k2 : ¬ x = 0 → J D Γ y cc nL ret R Q k n w (pc + 3) lv st) : J D Γ y cc nL ret R Q k n w pc lv (.int x :: st) := by
  obtain ⟨p, e, s, m, args, below, meth, c, A⟩ := Γ
  intro h H locs ls hP hD hS hl
  exact lv_if_eq h.1 h.2.1 hdg ht (fun q => k1 q h H locs ls hP hD hS hl) (fun q => k2 q h H locs ls hP hD hS hl)
-- icmp_eq ::     (kt : x = y → W p l e R s m args below meth c H locs cells slots Q (F0 m tgt ls rest)) (kf : ¬ x = y → W p l e R s m args below meth c H locs cells slots Q (F0 m (pc + 3) ls rest)) : W p l e R s m args below meth c H locs cells slots Q (F0 m pc ls (.int y 
theorem j_icmp_eq {x z : Int32} {off : Int} {tgt : Nat} (hdg : decode cc pc = .ok (.if_icmp .eq off, 3)) (ht : (pc : Int) + off = (tgt : Int)) (k1 : x = z → J D Γ y cc nL ret R Q k n w tgt lv st) (k2 : ¬ x = z → J D Γ y cc nL ret R Q k n w (pc + 3) lv st) : J D Γ y cc nL ret R Q k n w pc lv (.int z :: .int x :: st) := by
  obtain ⟨p, e, s, m, args, below, meth, c, A⟩ := Γ
  intro h H locs ls hP hD hS hl
  exact lv_icmp_eq h.1 h.2.1 hdg ht (fun q => k1 q h H locs ls hP hD hS hl) (fun q => k2 q h H locs ls hP hD hS hl)
-- if_ne ::     (kt : ¬ x = 0 → W p l e R s m args below meth c H locs cells slots Q (F0 m tgt ls rest)) (kf : x = 0 → W p l e R s m args below meth c H locs cells slots Q (F0 m (pc + 3) ls rest)) : W p l e R s m args below meth c H locs cells slots Q (F0 m pc ls (.int x 
theorem j_if_ne {x : Int32} {off : Int} {tgt : Nat} (hdg : decode cc pc = .ok (.ifCond .ne off, 3)) (ht : (pc : Int) + off = (tgt : Int)) (k1 : ¬ x = 0 → J D Γ y cc nL ret R Q k n w tgt lv st) (k2 : x = 0 → J D Γ y cc nL ret R Q k n w (pc + 3) lv st) : J D Γ y cc nL ret R Q k n w pc lv (.int x :: st) := by
  obtain ⟨p, e, s, m, args, below, meth, c, A⟩ := Γ
  intro h H locs ls hP hD hS hl
  exact lv_if_ne h.1 h.2.1 hdg ht (fun q => k1 q h H locs ls hP hD hS hl) (fun q => k2 q h H locs ls hP hD hS hl)
-- icmp_ne ::     (kt : ¬ x = y → W p l e R s m args below meth c H locs cells slots Q (F0 m tgt ls rest)) (kf : x = y → W p l e R s m args below meth c H locs cells slots Q (F0 m (pc + 3) ls rest)) : W p l e R s m args below meth c H locs cells slots Q (F0 m pc ls (.int y 
theorem j_icmp_ne {x z : Int32} {off : Int} {tgt : Nat} (hdg : decode cc pc = .ok (.if_icmp .ne off, 3)) (ht : (pc : Int) + off = (tgt : Int)) (k1 : ¬ x = z → J D Γ y cc nL ret R Q k n w tgt lv st) (k2 : x = z → J D Γ y cc nL ret R Q k n w (pc + 3) lv st) : J D Γ y cc nL ret R Q k n w pc lv (.int z :: .int x :: st) := by
  obtain ⟨p, e, s, m, args, below, meth, c, A⟩ := Γ
  intro h H locs ls hP hD hS hl
  exact lv_icmp_ne h.1 h.2.1 hdg ht (fun q => k1 q h H locs ls hP hD hS hl) (fun q => k2 q h H locs ls hP hD hS hl)
-- if_lt ::     (kt : x < 0 → W p l e R s m args below meth c H locs cells slots Q (F0 m tgt ls rest)) (kf : ¬ x < 0 → W p l e R s m args below meth c H locs cells slots Q (F0 m (pc + 3) ls rest)) : W p l e R s m args below meth c H locs cells slots Q (F0 m pc ls (.int x 
theorem j_if_lt {x : Int32} {off : Int} {tgt : Nat} (hdg : decode cc pc = .ok (.ifCond .lt off, 3)) (ht : (pc : Int) + off = (tgt : Int)) (k1 : x < 0 → J D Γ y cc nL ret R Q k n w tgt lv st) (k2 : ¬ x < 0 → J D Γ y cc nL ret R Q k n w (pc + 3) lv st) : J D Γ y cc nL ret R Q k n w pc lv (.int x :: st) := by
  obtain ⟨p, e, s, m, args, below, meth, c, A⟩ := Γ
  intro h H locs ls hP hD hS hl
  exact lv_if_lt h.1 h.2.1 hdg ht (fun q => k1 q h H locs ls hP hD hS hl) (fun q => k2 q h H locs ls hP hD hS hl)
-- icmp_lt ::     (kt : x < y → W p l e R s m args below meth c H locs cells slots Q (F0 m tgt ls rest)) (kf : ¬ x < y → W p l e R s m args below meth c H locs cells slots Q (F0 m (pc + 3) ls rest)) : W p l e R s m args below meth c H locs cells slots Q (F0 m pc ls (.int y 
theorem j_icmp_lt {x z : Int32} {off : Int} {tgt : Nat} (hdg : decode cc pc = .ok (.if_icmp .lt off, 3)) (ht : (pc : Int) + off = (tgt : Int)) (k1 : x < z → J D Γ y cc nL ret R Q k n w tgt lv st) (k2 : ¬ x < z → J D Γ y cc nL ret R Q k n w (pc + 3) lv st) : J D Γ y cc nL ret R Q k n w pc lv (.int z :: .int x :: st) := by
  obtain ⟨p, e, s, m, args, below, meth, c, A⟩ := Γ
  intro h H locs ls hP hD hS hl
  exact lv_icmp_lt h.1 h.2.1 hdg ht (fun q => k1 q h H locs ls hP hD hS hl) (fun q => k2 q h H locs ls hP hD hS hl)
-- if_ge ::     (kt : 0 ≤ x → W p l e R s m args below meth c H locs cells slots Q (F0 m tgt ls rest)) (kf : ¬ 0 ≤ x → W p l e R s m args below meth c H locs cells slots Q (F0 m (pc + 3) ls rest)) : W p l e R s m args below meth c H locs cells slots Q (F0 m pc ls (.int x 
theorem j_if_ge {x : Int32} {off : Int} {tgt : Nat} (hdg : decode cc pc = .ok (.ifCond .ge off, 3)) (ht : (pc : Int) + off = (tgt : Int)) (k1 : 0 ≤ x → J D Γ y cc nL ret R Q k n w tgt lv st) (k2 : ¬ 0 ≤ x → J D Γ y cc nL ret R Q k n w (pc + 3) lv st) : J D Γ y cc nL ret R Q k n w pc lv (.int x :: st) := by
  obtain ⟨p, e, s, m, args, below, meth, c, A⟩ := Γ
  intro h H locs ls hP hD hS hl
  exact lv_if_ge h.1 h.2.1 hdg ht (fun q => k1 q h H locs ls hP hD hS hl) (fun q => k2 q h H locs ls hP hD hS hl)
-- icmp_ge ::     (kt : y ≤ x → W p l e R s m args below meth c H locs cells slots Q (F0 m tgt ls rest)) (kf : ¬ y ≤ x → W p l e R s m args below meth c H locs cells slots Q (F0 m (pc + 3) ls rest)) : W p l e R s m args below meth c H locs cells slots Q (F0 m pc ls (.int y 
theorem j_icmp_ge {x z : Int32} {off : Int} {tgt : Nat} (hdg : decode cc pc = .ok (.if_icmp .ge off, 3)) (ht : (pc : Int) + off = (tgt : Int)) (k1 : z ≤ x → J D Γ y cc nL ret R Q k n w tgt lv st) (k2 : ¬ z ≤ x → J D Γ y cc nL ret R Q k n w (pc + 3) lv st) : J D Γ y cc nL ret R Q k n w pc lv (.int z :: .int x :: st) := by
  obtain ⟨p, e, s, m, args, below, meth, c, A⟩ := Γ
  intro h H locs ls hP hD hS hl
  exact lv_icmp_ge h.1 h.2.1 hdg ht (fun q => k1 q h H locs ls hP hD hS hl) (fun q => k2 q h H locs ls hP hD hS hl)
-- if_gt ::     (kt : 0 < x → W p l e R s m args below meth c H locs cells slots Q (F0 m tgt ls rest)) (kf : ¬ 0 < x → W p l e R s m args below meth c H locs cells slots Q (F0 m (pc + 3) ls rest)) : W p l e R s m args below meth c H locs cells slots Q (F0 m pc ls (.int x 
theorem j_if_gt {x : Int32} {off : Int} {tgt : Nat} (hdg : decode cc pc = .ok (.ifCond .gt off, 3)) (ht : (pc : Int) + off = (tgt : Int)) (k1 : 0 < x → J D Γ y cc nL ret R Q k n w tgt lv st) (k2 : ¬ 0 < x → J D Γ y cc nL ret R Q k n w (pc + 3) lv st) : J D Γ y cc nL ret R Q k n w pc lv (.int x :: st) := by
  obtain ⟨p, e, s, m, args, below, meth, c, A⟩ := Γ
  intro h H locs ls hP hD hS hl
  exact lv_if_gt h.1 h.2.1 hdg ht (fun q => k1 q h H locs ls hP hD hS hl) (fun q => k2 q h H locs ls hP hD hS hl)
-- icmp_gt ::     (kt : y < x → W p l e R s m args below meth c H locs cells slots Q (F0 m tgt ls rest)) (kf : ¬ y < x → W p l e R s m args below meth c H locs cells slots Q (F0 m (pc + 3) ls rest)) : W p l e R s m args below meth c H locs cells slots Q (F0 m pc ls (.int y 
theorem j_icmp_gt {x z : Int32} {off : Int} {tgt : Nat} (hdg : decode cc pc = .ok (.if_icmp .gt off, 3)) (ht : (pc : Int) + off = (tgt : Int)) (k1 : z < x → J D Γ y cc nL ret R Q k n w tgt lv st) (k2 : ¬ z < x → J D Γ y cc nL ret R Q k n w (pc + 3) lv st) : J D Γ y cc nL ret R Q k n w pc lv (.int z :: .int x :: st) := by
  obtain ⟨p, e, s, m, args, below, meth, c, A⟩ := Γ
  intro h H locs ls hP hD hS hl
  exact lv_icmp_gt h.1 h.2.1 hdg ht (fun q => k1 q h H locs ls hP hD hS hl) (fun q => k2 q h H locs ls hP hD hS hl)
-- if_le ::     (kt : x ≤ 0 → W p l e R s m args below meth c H locs cells slots Q (F0 m tgt ls rest)) (kf : ¬ x ≤ 0 → W p l e R s m args below meth c H locs cells slots Q (F0 m (pc + 3) ls rest)) : W p l e R s m args below meth c H locs cells slots Q (F0 m pc ls (.int x 
theorem j_if_le {x : Int32} {off : Int} {tgt : Nat} (hdg : decode cc pc = .ok (.ifCond .le off, 3)) (ht : (pc : Int) + off = (tgt : Int)) (k1 : x ≤ 0 → J D Γ y cc nL ret R Q k n w tgt lv st) (k2 : ¬ x ≤ 0 → J D Γ y cc nL ret R Q k n w (pc + 3) lv st) : J D Γ y cc nL ret R Q k n w pc lv (.int x :: st) := by
  obtain ⟨p, e, s, m, args, below, meth, c, A⟩ := Γ
  intro h H locs ls hP hD hS hl
  exact lv_if_le h.1 h.2.1 hdg ht (fun q => k1 q h H locs ls hP hD hS hl) (fun q => k2 q h H locs ls hP hD hS hl)
-- icmp_le ::     (kt : x ≤ y → W p l e R s m args below meth c H locs cells slots Q (F0 m tgt ls rest)) (kf : ¬ x ≤ y → W p l e R s m args below meth c H locs cells slots Q (F0 m (pc + 3) ls rest)) : W p l e R s m args below meth c H locs cells slots Q (F0 m pc ls (.int y 
theorem j_icmp_le {x z : Int32} {off : Int} {tgt : Nat} (hdg : decode cc pc = .ok (.if_icmp .le off, 3)) (ht : (pc : Int) + off = (tgt : Int)) (k1 : x ≤ z → J D Γ y cc nL ret R Q k n w tgt lv st) (k2 : ¬ x ≤ z → J D Γ y cc nL ret R Q k n w (pc + 3) lv st) : J D Γ y cc nL ret R Q k n w pc lv (.int z :: .int x :: st) := by
  obtain ⟨p, e, s, m, args, below, meth, c, A⟩ := Γ
  intro h H locs ls hP hD hS hl
  exact lv_icmp_le h.1 h.2.1 hdg ht (fun q => k1 q h H locs ls hP hD hS hl) (fun q => k2 q h H locs ls hP hD hS hl)
theorem j_goto {off : Int} {tgt : Nat} (hdg : decode cc pc = .ok (.goto off, 3)) (ht : (pc : Int) + off = (tgt : Int)) (kk : J D Γ y cc nL ret R Q k n w tgt lv st) : J D Γ y cc nL ret R Q k n w pc lv st := by
  obtain ⟨p, e, s, m, args, below, meth, c, A⟩ := Γ
  intro h H locs ls hP hD hS hl
  exact lv_goto h.1 h.2.1 hdg ht (kk h H locs ls hP hD hS hl)
theorem j_topi {x v : Int32} (hv : x = v) (kk : J D Γ y cc nL ret R Q k n w pc lv (.int v :: st)) : J D Γ y cc nL ret R Q k n w pc lv (.int x :: st) := by subst hv; exact kk
theorem j_topl {x v : Int64} (hv : x = v) (kk : J D Γ y cc nL ret R Q k n w pc lv (.long v :: st)) : J D Γ y cc nL ret R Q k n w pc lv (.long x :: st) := by subst hv; exact kk
theorem j_w {w2 : va_W} (hw : w = w2) (kk : J D Γ y cc nL ret R Q k n w2 pc lv st) : J D Γ y cc nL ret R Q k n w pc lv st := by subst hw; exact kk
theorem j_lv {lv2 : List (Nat × Value)} (ks : List Nat) (hk : lv_pick lv ks = lv2) (kk : J D Γ y cc nL ret R Q k n w pc lv2 st) : J D Γ y cc nL ret R Q k n w pc lv st := by
  obtain ⟨p, e, s, m, args, below, meth, c, A⟩ := Γ
  intro h H locs ls hP hD hS hl
  exact kk h H locs ls hP hD hS (lv_sub hl ks hk)
theorem j_tableOut {dflt lo hi : Int} {offs : Array Int} {len : Nat} {x : Int32} {tgt : Nat} (hdg : decode cc pc = .ok (.tableswitch dflt lo hi offs, len)) (hh : x.toInt < lo ∨ hi < x.toInt) (ht : (pc : Int) + dflt = (tgt : Int)) (kk : J D Γ y cc nL ret R Q k n w tgt lv st) : J D Γ y cc nL ret R Q k n w pc lv (.int x :: st) := by
  obtain ⟨p, e, s, m, args, below, meth, c, A⟩ := Γ
  intro h H locs ls hP hD hS hl
  exact lv_tableOut h.1 h.2.1 hdg hh ht (kk h H locs ls hP hD hS hl)
theorem j_tableIn {dflt lo hi : Int} {offs : Array Int} {len : Nat} {x : Int32} {off : Int} {tgt : Nat} (hdg : decode cc pc = .ok (.tableswitch dflt lo hi offs, len)) (h1 : ¬ x.toInt < lo) (h2 : ¬ hi < x.toInt) (ho : offs[(x.toInt - lo).toNat]? = some off) (ht : (pc : Int) + off = (tgt : Int)) (kk : J D Γ y cc nL ret R Q k n w tgt lv st) : J D Γ y cc nL ret R Q k n w pc lv (.int x :: st) := by
  obtain ⟨p, e, s, m, args, below, meth, c, A⟩ := Γ
  intro h H locs ls hP hD hS hl
  exact lv_tableIn h.1 h.2.1 hdg h1 h2 ho ht (kk h H locs ls hP hD hS hl)
theorem j_lookup {dflt : Int} {ps : Array (Int × Int)} {len : Nat} {x : Int32} {off : Int} {tgt : Nat} (hdg : decode cc pc = .ok (.lookupswitch dflt ps, len)) (hp : (ps.toList.zip (ps.toList.drop 1)).all (fun (a, next) => a.1 < next.1) = true) (ho : Op.lookupswitch.offset ps.toList dflt x.toInt = off) (ht : (pc : Int) + off = (tgt : Int)) (kk : J D Γ y cc nL ret R Q k n w tgt lv st) : J D Γ y cc nL ret R Q k n w pc lv (.int x :: st) := by
  obtain ⟨p, e, s, m, args, below, meth, c, A⟩ := Γ
  intro h H locs ls hP hD hS hl
  exact lv_lookup h.1 h.2.1 hdg hp ho ht (kk h H locs ls hP hD hS hl)
theorem j_iald {a N : Nat} {f : Nat → Int32} {i v : Int32} (hdg : decode cc pc = .ok (.iaload, 1)) (q j : Nat) (ha : w[q]? = some (a, .inl (dI D, N, .inl f))) (hi : i = nI j) (hj : j < N) (hN : N < 2 ^ 31) (hv : f j = v) (kk : J D Γ y cc nL ret R Q k n w (pc + 1) lv (.int v :: st)) : J D Γ y cc nL ret R Q k n w pc lv (.int i :: .ref a :: st) := by
  obtain ⟨p, e, s, m, args, below, meth, c, A⟩ := Γ
  intro h H locs ls hP hD hS hl
  subst hi
  refine va_iald h.1 h.2.1 h.2.2.2.2.2.2.2.1 hP q 0 ha rfl (vp_in_nI hj hN) hdg ?_
  rw [nI_clamp (Nat.lt_trans hj hN), hv]
  exact (kk h H locs ls hP hD hS hl)
theorem j_zald {a N : Nat} {f : Nat → Int32} {i v : Int32} (hdg : decode cc pc = .ok (.baload, 1)) (q j : Nat) (ha : w[q]? = some (a, .inl (dZ D, N, .inl f))) (hi : i = nI j) (hj : j < N) (hN : N < 2 ^ 31) (hv : f j = v) (kk : J D Γ y cc nL ret R Q k n w (pc + 1) lv (.int v :: st)) : J D Γ y cc nL ret R Q k n w pc lv (.int i :: .ref a :: st) := by
  obtain ⟨p, e, s, m, args, below, meth, c, A⟩ := Γ
  intro h H locs ls hP hD hS hl
  subst hi
  refine va_zald h.1 h.2.1 h.2.2.2.2.2.2.2.1 hP q 2 ha rfl (vp_in_nI hj hN) hdg ?_
  rw [nI_clamp (Nat.lt_trans hj hN), hv]
  exact (kk h H locs ls hP hD hS hl)
theorem j_aald {a N b : Nat} {f : Nat → Option Nat} {i : Int32} (hdg : decode cc pc = .ok (.aaload, 1)) (q j : Nat) (ha : w[q]? = some (a, .inl (dE D, N, .inr (.inr (.inr (.inr f)))))) (hi : i = nI j) (hj : j < N) (hN : N < 2 ^ 31) (hv : f j = some b) (kk : J D Γ y cc nL ret R Q k n w (pc + 1) lv (.ref b :: st)) : J D Γ y cc nL ret R Q k n w pc lv (.int i :: .ref a :: st) := by
  obtain ⟨p, e, s, m, args, below, meth, c, A⟩ := Γ
  intro h H locs ls hP hD hS hl
  subst hi
  refine va_aldq h.1 h.2.1 h.2.2.2.2.2.2.2.1 hP q 1 ha rfl (vp_in_nI hj hN) hdg ?_
  rw [nI_clamp (Nat.lt_trans hj hN), hv]
  exact (kk h H locs ls hP hD hS hl)
theorem j_iast {a N : Nat} {f : Nat → Int32} {i x : Int32} {w2 : va_W} (hdg : decode cc pc = .ok (.iastore, 1)) (q j : Nat) (ha : w[q]? = some (a, .inl (dI D, N, .inl f))) (hi : i = nI j) (hj : j < N) (hN : N < 2 ^ 31) (hw : w.set q (a, .inl (dI D, N, .inl (upd f j x))) = w2) (kk : J D Γ y cc nL ret R Q k n w2 (pc + 1) lv st) : J D Γ y cc nL ret R Q k n w pc lv (.int x :: .int i :: .ref a :: st) := by
  obtain ⟨p, e, s, m, args, below, meth, c, A⟩ := Γ
  intro h H locs ls hP hD hS hl
  subst hi
  refine va_iast h.1 h.2.1 h.2.2.2.2.2.2.2.1 hP hD hS q 0 ha rfl (vp_in_nI hj hN) hdg (fun H1 locs1 hP hD hS => ?_)
  rw [nI_clamp (Nat.lt_trans hj hN), hw] at hP hD
  exact kk h H1 locs1 ls hP hD hS hl
theorem j_zast {a N : Nat} {f : Nat → Int32} {i x : Int32} {w2 : va_W} (hdg : decode cc pc = .ok (.bastore, 1)) (q j : Nat) (ha : w[q]? = some (a, .inl (dZ D, N, .inl f))) (hi : i = nI j) (hj : j < N) (hN : N < 2 ^ 31) (hw : w.set q (a, .inl (dZ D, N, .inl (upd f j (vp_nar .boolean x)))) = w2) (kk : J D Γ y cc nL ret R Q k n w2 (pc + 1) lv st) : J D Γ y cc nL ret R Q k n w pc lv (.int x :: .int i :: .ref a :: st) := by
  obtain ⟨p, e, s, m, args, below, meth, c, A⟩ := Γ
  intro h H locs ls hP hD hS hl
  subst hi
  refine va_zast h.1 h.2.1 h.2.2.2.2.2.2.2.1 hP hD hS q 2 ha rfl (vp_in_nI hj hN) hdg (fun H1 locs1 hP hD hS => ?_)
  rw [nI_clamp (Nat.lt_trans hj hN), hw] at hP hD
  exact kk h H1 locs1 ls hP hD hS hl
theorem j_alen {a : Nat} {cA : ClassId} {x : vp_A} {ty : FieldType} {v : Int32} (hdg : decode cc pc = .ok (.arraylength, 1)) (q t0 : Nat) (ha : w[q]? = some (a, .inl (cA, x))) (ht : (dT D)[t0]? = some (cA, ty)) (hv : Int32.ofNat x.1 = v) (kk : J D Γ y cc nL ret R Q k n w (pc + 1) lv (.int v :: st)) : J D Γ y cc nL ret R Q k n w pc lv (.ref a :: st) := by
  obtain ⟨p, e, s, m, args, below, meth, c, A⟩ := Γ
  intro h H locs ls hP hD hS hl
  exact va_alen h.1 h.2.1 h.2.2.2.2.2.2.2.1 hP q t0 ha ht hv hdg (kk h H locs ls hP hD hS hl)
theorem va_P_cong {G : va_G} {cl : List vw_C} {ws : va_W} {H : Heap} (hP : va_P G cl ws H) (q : Nat) {a N : Nat} {cA : ClassId} {f g : Nat → Int32} (ha : ws[q]? = some (a, .inl (cA, N, .inl f))) (hfg : ∀ j, j < N → f j = g j) : va_P G cl (ws.set q (a, .inl (cA, N, .inl g))) H := by
  intro j p hp
  by_cases hj : q = j
  · subst hj
    rw [List.getElem?_set] at hp
    simp only [if_true] at hp
    split at hp
    · cases hp
      show H[a]? = some (vp_cell _ _)
      rw [← cell_cong hfg]
      exact hP q _ ha
    · cases hp
  · rw [List.getElem?_set_ne hj] at hp
    exact hP j p hp
theorem j_cong {a N : Nat} {cA : ClassId} {f g : Nat → Int32} {w2 : va_W} (q : Nat) (ha : w[q]? = some (a, .inl (cA, N, .inl f))) (hfg : ∀ j, j < N → f j = g j) (hw : w.set q (a, .inl (cA, N, .inl g)) = w2) (kk : J D Γ y cc nL ret R Q k n w2 pc lv st) : J D Γ y cc nL ret R Q k n w pc lv st := by
  obtain ⟨p, e, s, m, args, below, meth, c, A⟩ := Γ
  intro h H locs ls hP hD hS hl
  have hP2 := va_P_cong hP q ha hfg
  have hD2 := hD.set (e := .inl (cA, N, .inl g)) ha
  rw [hw] at hP2 hD2
  exact kk h H locs ls hP2 hD2 hS hl
end RU1
section RU2
variable {D : DX} {Γ : GX} {y : MethodName} {cc : ByteArray} {nL : Nat} {ret : Option FieldType} {R : Room} {Q : State → Prop} {k n : Nat} {w : va_W} {pc : Nat} {lv : List (Nat × Value)} {st : List Value}

variable {fin : Option Value → va_W → Prop}
theorem j_iret {x : Int32} (hdg : decode cc pc = .ok (.ireturn, 1))  (hk : R.cells = k ∧ R.slots = n) (hf : fin (some (.int x)) w) : J D Γ y cc nL (some .int) R (Qf D Γ R fin) k n w pc lv [.int x] := by
  obtain ⟨p, e, s, m, args, below, meth, c, A⟩ := Γ
  intro h H locs ls hP hD hS hl
  obtain ⟨rfl, rfl⟩ := hk
  exact W.iret h.1 h.2.1 h.2.2.1 (fun t ht hW => ⟨⟨_, w, rfl, hf, by rw [ht]; exact hP, hD⟩, hS.F ht⟩) hS.2.2 hdg h.2.2.2.2.2.2.1
theorem j_lret {x : Int64} (hdg : decode cc pc = .ok (.lreturn, 1))  (hk : R.cells = k ∧ R.slots = n) (hf : fin (some (.long x)) w) : J D Γ y cc nL (some .long) R (Qf D Γ R fin) k n w pc lv [.long x] := by
  obtain ⟨p, e, s, m, args, below, meth, c, A⟩ := Γ
  intro h H locs ls hP hD hS hl
  obtain ⟨rfl, rfl⟩ := hk
  exact W.lret h.1 h.2.1 h.2.2.1 (fun t ht hW => ⟨⟨_, w, rfl, hf, by rw [ht]; exact hP, hD⟩, hS.F ht⟩) hS.2.2 hdg h.2.2.2.2.2.2.1
theorem j_vret  (hdg : decode cc pc = .ok (.return_, 1))  (hk : R.cells = k ∧ R.slots = n) (hf : fin (none) w) : J D Γ y cc nL none R (Qf D Γ R fin) k n w pc lv [] := by
  obtain ⟨p, e, s, m, args, below, meth, c, A⟩ := Γ
  intro h H locs ls hP hD hS hl
  obtain ⟨rfl, rfl⟩ := hk
  exact W.vret h.1 h.2.1 h.2.2.1 (fun t ht hW => ⟨⟨_, w, rfl, hf, by rw [ht]; exact hP, hD⟩, hS.F ht⟩) hS.2.2 hdg h.2.2.2.2.2.2.1
theorem j_zret {x : Int32} (hdg : decode cc pc = .ok (.ireturn, 1)) (hn : narrow .boolean (.int x) = .int x) (hk : R.cells = k ∧ R.slots = n) (hf : fin (some (.int x)) w) : J D Γ y cc nL (some .boolean) R (Qf D Γ R fin) k n w pc lv [.int x] := by
  obtain ⟨p, e, s, m, args, below, meth, c, A⟩ := Γ
  intro h H locs ls hP hD hS hl
  obtain ⟨rfl, rfl⟩ := hk
  exact W.zret h.1 h.2.1 h.2.2.1 hn (fun t ht hW => ⟨⟨_, w, rfl, hf, by rw [ht]; exact hP, hD⟩, hS.F ht⟩) hS.2.2 hdg h.2.2.2.2.2.2.1
end RU2
section RU3
variable {D : DX} {Γ : GX} {y : MethodName} {cc : ByteArray} {nL : Nat} {ret : Option FieldType} {R : Room} {Q : State → Prop} {k n : Nat} {w : va_W} {pc : Nat} {lv : List (Nat × Value)} {st : List Value}

theorem g_X0_9 (hy : y.cls = RX0) {a : Nat} {fs : List Value} {v : Value} (hdg : decode cc pc = .ok (.getfield 9, 3)) (q : Nat) (he : w[q]? = some (a, .inr (0, fs))) (hv : fs[0]? = some v) (kk : J D Γ y cc nL ret R Q k n w (pc + 3) lv (v :: st)) : J D Γ y cc nL ret R Q k n w pc lv (.ref a :: st) := by
  obtain ⟨p, e, s, m, args, below, meth, c, A⟩ := Γ
  intro h H locs ls hP hD hS hl
  exact va_get (C := RX0) (T := TX0) (N := 7) h.1 h.2.1 h.2.2.2.2.2.1 m_us_X0 h.2.2.2.2.1 h.2.2.2.2.2.2.2.1 hP q he rfl 0 (by decide) (by rw [hy]; exact h.2.2.2.2.2.1 _ m_fl_X0_9) (fun _ h9 => h9) hv hdg (kk h H locs ls hP hD hS hl)
theorem p_X0_9 (hy : y.cls = RX0) (hin : y.name = "<init>") {a : Nat} {fs : List Value} {x : Nat} {w2 : va_W} (hdg : decode cc pc = .ok (.putfield 9, 3)) (q : Nat) (he : w[q]? = some (a, .inr (0, fs))) (hlen : 0 < fs.length) (hw : w.set q (a, .inr (0, fs.set 0 (.ref x))) = w2) (kk : J D Γ y cc nL ret R Q k n w2 (pc + 3) lv st) : J D Γ y cc nL ret R Q k n w pc lv (.ref x :: .ref a :: st) := by
  obtain ⟨p, e, s, m, args, below, meth, c, A⟩ := Γ
  intro h H locs ls hP hD hS hl
  refine va_putF (C := RX0) (T := TX0) (N := 7) (ty := (.array .int)) h.1 h.2.1 h.2.2.2.2.2.1 m_us_X0 tyX0 tyX0_ok nmX0 h.2.2.2.2.1 h.2.2.2.2.2.2.2.1 hP hD hS q he rfl 0 (by decide) (by rw [hy]; exact h.2.2.2.2.2.1 _ m_fl_X0_9) (fun _ h9 => h9) rfl (by rw [h.2.2.2.2.2.2.2.2.2.1]; exact hin) (by rw [hy]; rfl) (by decide +kernel) rfl rfl hlen hdg (fun H1 locs1 hP hD hS => ?_)
  rw [hw] at hP hD
  exact kk h H1 locs1 ls hP hD hS hl
theorem g_X0_15 (hy : y.cls = RX0) {a : Nat} {fs : List Value} {v : Value} (hdg : decode cc pc = .ok (.getfield 15, 3)) (q : Nat) (he : w[q]? = some (a, .inr (0, fs))) (hv : fs[1]? = some v) (kk : J D Γ y cc nL ret R Q k n w (pc + 3) lv (v :: st)) : J D Γ y cc nL ret R Q k n w pc lv (.ref a :: st) := by
  obtain ⟨p, e, s, m, args, below, meth, c, A⟩ := Γ
  intro h H locs ls hP hD hS hl
  exact va_get (C := RX0) (T := TX0) (N := 7) h.1 h.2.1 h.2.2.2.2.2.1 m_us_X0 h.2.2.2.2.1 h.2.2.2.2.2.2.2.1 hP q he rfl 1 (by decide) (by rw [hy]; exact h.2.2.2.2.2.1 _ m_fl_X0_15) (fun _ h9 => h9) hv hdg (kk h H locs ls hP hD hS hl)
theorem p_X0_15 (hy : y.cls = RX0) (hin : y.name = "<init>") {a : Nat} {fs : List Value} {x : Nat} {w2 : va_W} (hdg : decode cc pc = .ok (.putfield 15, 3)) (q : Nat) (he : w[q]? = some (a, .inr (0, fs))) (hlen : 1 < fs.length) (hw : w.set q (a, .inr (0, fs.set 1 (.ref x))) = w2) (kk : J D Γ y cc nL ret R Q k n w2 (pc + 3) lv st) : J D Γ y cc nL ret R Q k n w pc lv (.ref x :: .ref a :: st) := by
  obtain ⟨p, e, s, m, args, below, meth, c, A⟩ := Γ
  intro h H locs ls hP hD hS hl
  refine va_putF (C := RX0) (T := TX0) (N := 7) (ty := (.array .int)) h.1 h.2.1 h.2.2.2.2.2.1 m_us_X0 tyX0 tyX0_ok nmX0 h.2.2.2.2.1 h.2.2.2.2.2.2.2.1 hP hD hS q he rfl 1 (by decide) (by rw [hy]; exact h.2.2.2.2.2.1 _ m_fl_X0_15) (fun _ h9 => h9) rfl (by rw [h.2.2.2.2.2.2.2.2.2.1]; exact hin) (by rw [hy]; rfl) (by decide +kernel) rfl rfl hlen hdg (fun H1 locs1 hP hD hS => ?_)
  rw [hw] at hP hD
  exact kk h H1 locs1 ls hP hD hS hl
theorem g_X0_18 (hy : y.cls = RX0) {a : Nat} {fs : List Value} {v : Value} (hdg : decode cc pc = .ok (.getfield 18, 3)) (q : Nat) (he : w[q]? = some (a, .inr (0, fs))) (hv : fs[2]? = some v) (kk : J D Γ y cc nL ret R Q k n w (pc + 3) lv (v :: st)) : J D Γ y cc nL ret R Q k n w pc lv (.ref a :: st) := by
  obtain ⟨p, e, s, m, args, below, meth, c, A⟩ := Γ
  intro h H locs ls hP hD hS hl
  exact va_get (C := RX0) (T := TX0) (N := 7) h.1 h.2.1 h.2.2.2.2.2.1 m_us_X0 h.2.2.2.2.1 h.2.2.2.2.2.2.2.1 hP q he rfl 2 (by decide) (by rw [hy]; exact h.2.2.2.2.2.1 _ m_fl_X0_18) (fun _ h9 => h9) hv hdg (kk h H locs ls hP hD hS hl)
theorem p_X0_18 (hy : y.cls = RX0) (hin : y.name = "<init>") {a : Nat} {fs : List Value} {x : Nat} {w2 : va_W} (hdg : decode cc pc = .ok (.putfield 18, 3)) (q : Nat) (he : w[q]? = some (a, .inr (0, fs))) (hlen : 2 < fs.length) (hw : w.set q (a, .inr (0, fs.set 2 (.ref x))) = w2) (kk : J D Γ y cc nL ret R Q k n w2 (pc + 3) lv st) : J D Γ y cc nL ret R Q k n w pc lv (.ref x :: .ref a :: st) := by
  obtain ⟨p, e, s, m, args, below, meth, c, A⟩ := Γ
  intro h H locs ls hP hD hS hl
  refine va_putF (C := RX0) (T := TX0) (N := 7) (ty := (.array .int)) h.1 h.2.1 h.2.2.2.2.2.1 m_us_X0 tyX0 tyX0_ok nmX0 h.2.2.2.2.1 h.2.2.2.2.2.2.2.1 hP hD hS q he rfl 2 (by decide) (by rw [hy]; exact h.2.2.2.2.2.1 _ m_fl_X0_18) (fun _ h9 => h9) rfl (by rw [h.2.2.2.2.2.2.2.2.2.1]; exact hin) (by rw [hy]; rfl) (by decide +kernel) rfl rfl hlen hdg (fun H1 locs1 hP hD hS => ?_)
  rw [hw] at hP hD
  exact kk h H1 locs1 ls hP hD hS hl
theorem g_X0_21 (hy : y.cls = RX0) {a : Nat} {fs : List Value} {v : Value} (hdg : decode cc pc = .ok (.getfield 21, 3)) (q : Nat) (he : w[q]? = some (a, .inr (0, fs))) (hv : fs[3]? = some v) (kk : J D Γ y cc nL ret R Q k n w (pc + 3) lv (v :: st)) : J D Γ y cc nL ret R Q k n w pc lv (.ref a :: st) := by
  obtain ⟨p, e, s, m, args, below, meth, c, A⟩ := Γ
  intro h H locs ls hP hD hS hl
  exact va_get (C := RX0) (T := TX0) (N := 7) h.1 h.2.1 h.2.2.2.2.2.1 m_us_X0 h.2.2.2.2.1 h.2.2.2.2.2.2.2.1 hP q he rfl 3 (by decide) (by rw [hy]; exact h.2.2.2.2.2.1 _ m_fl_X0_21) (fun _ h9 => h9) hv hdg (kk h H locs ls hP hD hS hl)
theorem p_X0_21 (hy : y.cls = RX0) (hin : y.name = "<init>") {a : Nat} {fs : List Value} {x : Nat} {w2 : va_W} (hdg : decode cc pc = .ok (.putfield 21, 3)) (q : Nat) (he : w[q]? = some (a, .inr (0, fs))) (hlen : 3 < fs.length) (hw : w.set q (a, .inr (0, fs.set 3 (.ref x))) = w2) (kk : J D Γ y cc nL ret R Q k n w2 (pc + 3) lv st) : J D Γ y cc nL ret R Q k n w pc lv (.ref x :: .ref a :: st) := by
  obtain ⟨p, e, s, m, args, below, meth, c, A⟩ := Γ
  intro h H locs ls hP hD hS hl
  refine va_putF (C := RX0) (T := TX0) (N := 7) (ty := (.array .int)) h.1 h.2.1 h.2.2.2.2.2.1 m_us_X0 tyX0 tyX0_ok nmX0 h.2.2.2.2.1 h.2.2.2.2.2.2.2.1 hP hD hS q he rfl 3 (by decide) (by rw [hy]; exact h.2.2.2.2.2.1 _ m_fl_X0_21) (fun _ h9 => h9) rfl (by rw [h.2.2.2.2.2.2.2.2.2.1]; exact hin) (by rw [hy]; rfl) (by decide +kernel) rfl rfl hlen hdg (fun H1 locs1 hP hD hS => ?_)
  rw [hw] at hP hD
  exact kk h H1 locs1 ls hP hD hS hl
theorem g_X0_24 (hy : y.cls = RX0) {a : Nat} {fs : List Value} {v : Value} (hdg : decode cc pc = .ok (.getfield 24, 3)) (q : Nat) (he : w[q]? = some (a, .inr (0, fs))) (hv : fs[4]? = some v) (kk : J D Γ y cc nL ret R Q k n w (pc + 3) lv (v :: st)) : J D Γ y cc nL ret R Q k n w pc lv (.ref a :: st) := by
  obtain ⟨p, e, s, m, args, below, meth, c, A⟩ := Γ
  intro h H locs ls hP hD hS hl
  exact va_get (C := RX0) (T := TX0) (N := 7) h.1 h.2.1 h.2.2.2.2.2.1 m_us_X0 h.2.2.2.2.1 h.2.2.2.2.2.2.2.1 hP q he rfl 4 (by decide) (by rw [hy]; exact h.2.2.2.2.2.1 _ m_fl_X0_24) (fun _ h9 => h9) hv hdg (kk h H locs ls hP hD hS hl)
theorem p_X0_24 (hy : y.cls = RX0) {a : Nat} {fs : List Value} {x : Int32} {w2 : va_W} (hdg : decode cc pc = .ok (.putfield 24, 3)) (q : Nat) (he : w[q]? = some (a, .inr (0, fs))) (hlen : 4 < fs.length) (hw : w.set q (a, .inr (0, fs.set 4 (.int x))) = w2) (kk : J D Γ y cc nL ret R Q k n w2 (pc + 3) lv st) : J D Γ y cc nL ret R Q k n w pc lv (.int x :: .ref a :: st) := by
  obtain ⟨p, e, s, m, args, below, meth, c, A⟩ := Γ
  intro h H locs ls hP hD hS hl
  refine va_put (C := RX0) (T := TX0) (N := 7) (ty := .int) h.1 h.2.1 h.2.2.2.2.2.1 m_us_X0 tyX0 tyX0_ok nmX0 h.2.2.2.2.1 h.2.2.2.2.2.2.2.1 hP hD hS q he rfl 4 (by decide) (by rw [hy]; exact h.2.2.2.2.2.1 _ m_fl_X0_24) (fun _ h9 => h9) rfl (by decide +kernel) rfl rfl hlen hdg (fun H1 locs1 hP hD hS => ?_)
  rw [hw] at hP hD
  exact kk h H1 locs1 ls hP hD hS hl
theorem g_X0_28 (hy : y.cls = RX0) {a : Nat} {fs : List Value} {v : Value} (hdg : decode cc pc = .ok (.getfield 28, 3)) (q : Nat) (he : w[q]? = some (a, .inr (0, fs))) (hv : fs[5]? = some v) (kk : J D Γ y cc nL ret R Q k n w (pc + 3) lv (v :: st)) : J D Γ y cc nL ret R Q k n w pc lv (.ref a :: st) := by
  obtain ⟨p, e, s, m, args, below, meth, c, A⟩ := Γ
  intro h H locs ls hP hD hS hl
  exact va_get (C := RX0) (T := TX0) (N := 7) h.1 h.2.1 h.2.2.2.2.2.1 m_us_X0 h.2.2.2.2.1 h.2.2.2.2.2.2.2.1 hP q he rfl 5 (by decide) (by rw [hy]; exact h.2.2.2.2.2.1 _ m_fl_X0_28) (fun _ h9 => h9) hv hdg (kk h H locs ls hP hD hS hl)
theorem p_X0_28 (hy : y.cls = RX0) {a : Nat} {fs : List Value} {x : Int32} {w2 : va_W} (hdg : decode cc pc = .ok (.putfield 28, 3)) (q : Nat) (he : w[q]? = some (a, .inr (0, fs))) (hlen : 5 < fs.length) (hw : w.set q (a, .inr (0, fs.set 5 (.int x))) = w2) (kk : J D Γ y cc nL ret R Q k n w2 (pc + 3) lv st) : J D Γ y cc nL ret R Q k n w pc lv (.int x :: .ref a :: st) := by
  obtain ⟨p, e, s, m, args, below, meth, c, A⟩ := Γ
  intro h H locs ls hP hD hS hl
  refine va_put (C := RX0) (T := TX0) (N := 7) (ty := .int) h.1 h.2.1 h.2.2.2.2.2.1 m_us_X0 tyX0 tyX0_ok nmX0 h.2.2.2.2.1 h.2.2.2.2.2.2.2.1 hP hD hS q he rfl 5 (by decide) (by rw [hy]; exact h.2.2.2.2.2.1 _ m_fl_X0_28) (fun _ h9 => h9) rfl (by decide +kernel) rfl rfl hlen hdg (fun H1 locs1 hP hD hS => ?_)
  rw [hw] at hP hD
  exact kk h H1 locs1 ls hP hD hS hl
theorem g_X0_31 (hy : y.cls = RX0) {a : Nat} {fs : List Value} {v : Value} (hdg : decode cc pc = .ok (.getfield 31, 3)) (q : Nat) (he : w[q]? = some (a, .inr (0, fs))) (hv : fs[6]? = some v) (kk : J D Γ y cc nL ret R Q k n w (pc + 3) lv (v :: st)) : J D Γ y cc nL ret R Q k n w pc lv (.ref a :: st) := by
  obtain ⟨p, e, s, m, args, below, meth, c, A⟩ := Γ
  intro h H locs ls hP hD hS hl
  exact va_get (C := RX0) (T := TX0) (N := 7) h.1 h.2.1 h.2.2.2.2.2.1 m_us_X0 h.2.2.2.2.1 h.2.2.2.2.2.2.2.1 hP q he rfl 6 (by decide) (by rw [hy]; exact h.2.2.2.2.2.1 _ m_fl_X0_31) (fun _ h9 => h9) hv hdg (kk h H locs ls hP hD hS hl)
theorem p_X0_31 (hy : y.cls = RX0) {a : Nat} {fs : List Value} {x : Int32} {w2 : va_W} (hdg : decode cc pc = .ok (.putfield 31, 3)) (q : Nat) (he : w[q]? = some (a, .inr (0, fs))) (hlen : 6 < fs.length) (hw : w.set q (a, .inr (0, fs.set 6 (.int x))) = w2) (kk : J D Γ y cc nL ret R Q k n w2 (pc + 3) lv st) : J D Γ y cc nL ret R Q k n w pc lv (.int x :: .ref a :: st) := by
  obtain ⟨p, e, s, m, args, below, meth, c, A⟩ := Γ
  intro h H locs ls hP hD hS hl
  refine va_put (C := RX0) (T := TX0) (N := 7) (ty := .int) h.1 h.2.1 h.2.2.2.2.2.1 m_us_X0 tyX0 tyX0_ok nmX0 h.2.2.2.2.1 h.2.2.2.2.2.2.2.1 hP hD hS q he rfl 6 (by decide) (by rw [hy]; exact h.2.2.2.2.2.1 _ m_fl_X0_31) (fun _ h9 => h9) rfl (by decide +kernel) rfl rfl hlen hdg (fun H1 locs1 hP hD hS => ?_)
  rw [hw] at hP hD
  exact kk h H1 locs1 ls hP hD hS hl
theorem g_X1_11 (hy : y.cls = RX1) {a : Nat} {fs : List Value} {v : Value} (hdg : decode cc pc = .ok (.getfield 11, 3)) (q : Nat) (he : w[q]? = some (a, .inr (1, fs))) (hv : fs[0]? = some v) (kk : J D Γ y cc nL ret R Q k n w (pc + 3) lv (v :: st)) : J D Γ y cc nL ret R Q k n w pc lv (.ref a :: st) := by
  obtain ⟨p, e, s, m, args, below, meth, c, A⟩ := Γ
  intro h H locs ls hP hD hS hl
  exact va_get (C := RX1) (T := TX1) (N := 3) h.1 h.2.1 h.2.2.2.2.2.1 m_us_X1 h.2.2.2.2.1 h.2.2.2.2.2.2.2.1 hP q he rfl 0 (by decide) (by rw [hy]; exact h.2.2.2.2.2.1 _ m_fl_X1_11) (fun _ h9 => h9) hv hdg (kk h H locs ls hP hD hS hl)
theorem p_X1_11 (hy : y.cls = RX1) (hin : y.name = "<init>") {a : Nat} {fs : List Value} {x : Nat} {w2 : va_W} (hdg : decode cc pc = .ok (.putfield 11, 3)) (q : Nat) (he : w[q]? = some (a, .inr (1, fs))) (hlen : 0 < fs.length) (hw : w.set q (a, .inr (1, fs.set 0 (.ref x))) = w2) (kk : J D Γ y cc nL ret R Q k n w2 (pc + 3) lv st) : J D Γ y cc nL ret R Q k n w pc lv (.ref x :: .ref a :: st) := by
  obtain ⟨p, e, s, m, args, below, meth, c, A⟩ := Γ
  intro h H locs ls hP hD hS hl
  refine va_putF (C := RX1) (T := TX1) (N := 3) (ty := (.array (.object "TransferRings$Engine"))) h.1 h.2.1 h.2.2.2.2.2.1 m_us_X1 tyX1 tyX1_ok nmX1 h.2.2.2.2.1 h.2.2.2.2.2.2.2.1 hP hD hS q he rfl 0 (by decide) (by rw [hy]; exact h.2.2.2.2.2.1 _ m_fl_X1_11) (fun _ h9 => h9) rfl (by rw [h.2.2.2.2.2.2.2.2.2.1]; exact hin) (by rw [hy]; rfl) (by decide +kernel) rfl rfl hlen hdg (fun H1 locs1 hP hD hS => ?_)
  rw [hw] at hP hD
  exact kk h H1 locs1 ls hP hD hS hl
theorem g_X1_16 (hy : y.cls = RX1) {a : Nat} {fs : List Value} {v : Value} (hdg : decode cc pc = .ok (.getfield 16, 3)) (q : Nat) (he : w[q]? = some (a, .inr (1, fs))) (hv : fs[1]? = some v) (kk : J D Γ y cc nL ret R Q k n w (pc + 3) lv (v :: st)) : J D Γ y cc nL ret R Q k n w pc lv (.ref a :: st) := by
  obtain ⟨p, e, s, m, args, below, meth, c, A⟩ := Γ
  intro h H locs ls hP hD hS hl
  exact va_get (C := RX1) (T := TX1) (N := 3) h.1 h.2.1 h.2.2.2.2.2.1 m_us_X1 h.2.2.2.2.1 h.2.2.2.2.2.2.2.1 hP q he rfl 1 (by decide) (by rw [hy]; exact h.2.2.2.2.2.1 _ m_fl_X1_16) (fun _ h9 => h9) hv hdg (kk h H locs ls hP hD hS hl)
theorem p_X1_16 (hy : y.cls = RX1) {a : Nat} {fs : List Value} {x : Int32} {w2 : va_W} (hdg : decode cc pc = .ok (.putfield 16, 3)) (q : Nat) (he : w[q]? = some (a, .inr (1, fs))) (hlen : 1 < fs.length) (hw : w.set q (a, .inr (1, fs.set 1 (.int x))) = w2) (kk : J D Γ y cc nL ret R Q k n w2 (pc + 3) lv st) : J D Γ y cc nL ret R Q k n w pc lv (.int x :: .ref a :: st) := by
  obtain ⟨p, e, s, m, args, below, meth, c, A⟩ := Γ
  intro h H locs ls hP hD hS hl
  refine va_put (C := RX1) (T := TX1) (N := 3) (ty := .int) h.1 h.2.1 h.2.2.2.2.2.1 m_us_X1 tyX1 tyX1_ok nmX1 h.2.2.2.2.1 h.2.2.2.2.2.2.2.1 hP hD hS q he rfl 1 (by decide) (by rw [hy]; exact h.2.2.2.2.2.1 _ m_fl_X1_16) (fun _ h9 => h9) rfl (by decide +kernel) rfl rfl hlen hdg (fun H1 locs1 hP hD hS => ?_)
  rw [hw] at hP hD
  exact kk h H1 locs1 ls hP hD hS hl
theorem g_X1_20 (hy : y.cls = RX1) {a : Nat} {fs : List Value} {v : Value} (hdg : decode cc pc = .ok (.getfield 20, 3)) (q : Nat) (he : w[q]? = some (a, .inr (1, fs))) (hv : fs[2]? = some v) (kk : J D Γ y cc nL ret R Q k n w (pc + 3) lv (v :: st)) : J D Γ y cc nL ret R Q k n w pc lv (.ref a :: st) := by
  obtain ⟨p, e, s, m, args, below, meth, c, A⟩ := Γ
  intro h H locs ls hP hD hS hl
  exact va_get (C := RX1) (T := TX1) (N := 3) h.1 h.2.1 h.2.2.2.2.2.1 m_us_X1 h.2.2.2.2.1 h.2.2.2.2.2.2.2.1 hP q he rfl 2 (by decide) (by rw [hy]; exact h.2.2.2.2.2.1 _ m_fl_X1_20) (fun _ h9 => h9) hv hdg (kk h H locs ls hP hD hS hl)
theorem p_X1_20 (hy : y.cls = RX1) {a : Nat} {fs : List Value} {x : Int32} {w2 : va_W} (hdg : decode cc pc = .ok (.putfield 20, 3)) (q : Nat) (he : w[q]? = some (a, .inr (1, fs))) (hlen : 2 < fs.length) (hw : w.set q (a, .inr (1, fs.set 2 (.int x))) = w2) (kk : J D Γ y cc nL ret R Q k n w2 (pc + 3) lv st) : J D Γ y cc nL ret R Q k n w pc lv (.int x :: .ref a :: st) := by
  obtain ⟨p, e, s, m, args, below, meth, c, A⟩ := Γ
  intro h H locs ls hP hD hS hl
  refine va_put (C := RX1) (T := TX1) (N := 3) (ty := .int) h.1 h.2.1 h.2.2.2.2.2.1 m_us_X1 tyX1 tyX1_ok nmX1 h.2.2.2.2.1 h.2.2.2.2.2.2.2.1 hP hD hS q he rfl 2 (by decide) (by rw [hy]; exact h.2.2.2.2.2.1 _ m_fl_X1_20) (fun _ h9 => h9) rfl (by decide +kernel) rfl rfl hlen hdg (fun H1 locs1 hP hD hS => ?_)
  rw [hw] at hP hD
  exact kk h H1 locs1 ls hP hD hS hl
theorem g_X2_9 (hy : y.cls = RX2) {a : Nat} {fs : List Value} {v : Value} (hdg : decode cc pc = .ok (.getfield 9, 3)) (q : Nat) (he : w[q]? = some (a, .inr (2, fs))) (hv : fs[0]? = some v) (kk : J D Γ y cc nL ret R Q k n w (pc + 3) lv (v :: st)) : J D Γ y cc nL ret R Q k n w pc lv (.ref a :: st) := by
  obtain ⟨p, e, s, m, args, below, meth, c, A⟩ := Γ
  intro h H locs ls hP hD hS hl
  exact va_get (C := RX2) (T := TX2) (N := 3) h.1 h.2.1 h.2.2.2.2.2.1 m_us_X2 h.2.2.2.2.1 h.2.2.2.2.2.2.2.1 hP q he rfl 0 (by decide) (by rw [hy]; exact h.2.2.2.2.2.1 _ m_fl_X2_9) (fun _ h9 => h9) hv hdg (kk h H locs ls hP hD hS hl)
theorem p_X2_9 (hy : y.cls = RX2) (hin : y.name = "<init>") {a : Nat} {fs : List Value} {x : Nat} {w2 : va_W} (hdg : decode cc pc = .ok (.putfield 9, 3)) (q : Nat) (he : w[q]? = some (a, .inr (2, fs))) (hlen : 0 < fs.length) (hw : w.set q (a, .inr (2, fs.set 0 (.ref x))) = w2) (kk : J D Γ y cc nL ret R Q k n w2 (pc + 3) lv st) : J D Γ y cc nL ret R Q k n w pc lv (.ref x :: .ref a :: st) := by
  obtain ⟨p, e, s, m, args, below, meth, c, A⟩ := Γ
  intro h H locs ls hP hD hS hl
  refine va_putF (C := RX2) (T := TX2) (N := 3) (ty := (.array .int)) h.1 h.2.1 h.2.2.2.2.2.1 m_us_X2 tyX2 tyX2_ok nmX2 h.2.2.2.2.1 h.2.2.2.2.2.2.2.1 hP hD hS q he rfl 0 (by decide) (by rw [hy]; exact h.2.2.2.2.2.1 _ m_fl_X2_9) (fun _ h9 => h9) rfl (by rw [h.2.2.2.2.2.2.2.2.2.1]; exact hin) (by rw [hy]; rfl) (by decide +kernel) rfl rfl hlen hdg (fun H1 locs1 hP hD hS => ?_)
  rw [hw] at hP hD
  exact kk h H1 locs1 ls hP hD hS hl
theorem g_X2_13 (hy : y.cls = RX2) {a : Nat} {fs : List Value} {v : Value} (hdg : decode cc pc = .ok (.getfield 13, 3)) (q : Nat) (he : w[q]? = some (a, .inr (2, fs))) (hv : fs[1]? = some v) (kk : J D Γ y cc nL ret R Q k n w (pc + 3) lv (v :: st)) : J D Γ y cc nL ret R Q k n w pc lv (.ref a :: st) := by
  obtain ⟨p, e, s, m, args, below, meth, c, A⟩ := Γ
  intro h H locs ls hP hD hS hl
  exact va_get (C := RX2) (T := TX2) (N := 3) h.1 h.2.1 h.2.2.2.2.2.1 m_us_X2 h.2.2.2.2.1 h.2.2.2.2.2.2.2.1 hP q he rfl 1 (by decide) (by rw [hy]; exact h.2.2.2.2.2.1 _ m_fl_X2_13) (fun _ h9 => h9) hv hdg (kk h H locs ls hP hD hS hl)
theorem p_X2_13 (hy : y.cls = RX2) (hin : y.name = "<init>") {a : Nat} {fs : List Value} {x : Nat} {w2 : va_W} (hdg : decode cc pc = .ok (.putfield 13, 3)) (q : Nat) (he : w[q]? = some (a, .inr (2, fs))) (hlen : 1 < fs.length) (hw : w.set q (a, .inr (2, fs.set 1 (.ref x))) = w2) (kk : J D Γ y cc nL ret R Q k n w2 (pc + 3) lv st) : J D Γ y cc nL ret R Q k n w pc lv (.ref x :: .ref a :: st) := by
  obtain ⟨p, e, s, m, args, below, meth, c, A⟩ := Γ
  intro h H locs ls hP hD hS hl
  refine va_putF (C := RX2) (T := TX2) (N := 3) (ty := (.array .int)) h.1 h.2.1 h.2.2.2.2.2.1 m_us_X2 tyX2 tyX2_ok nmX2 h.2.2.2.2.1 h.2.2.2.2.2.2.2.1 hP hD hS q he rfl 1 (by decide) (by rw [hy]; exact h.2.2.2.2.2.1 _ m_fl_X2_13) (fun _ h9 => h9) rfl (by rw [h.2.2.2.2.2.2.2.2.2.1]; exact hin) (by rw [hy]; rfl) (by decide +kernel) rfl rfl hlen hdg (fun H1 locs1 hP hD hS => ?_)
  rw [hw] at hP hD
  exact kk h H1 locs1 ls hP hD hS hl
theorem g_X2_16 (hy : y.cls = RX2) {a : Nat} {fs : List Value} {v : Value} (hdg : decode cc pc = .ok (.getfield 16, 3)) (q : Nat) (he : w[q]? = some (a, .inr (2, fs))) (hv : fs[2]? = some v) (kk : J D Γ y cc nL ret R Q k n w (pc + 3) lv (v :: st)) : J D Γ y cc nL ret R Q k n w pc lv (.ref a :: st) := by
  obtain ⟨p, e, s, m, args, below, meth, c, A⟩ := Γ
  intro h H locs ls hP hD hS hl
  exact va_get (C := RX2) (T := TX2) (N := 3) h.1 h.2.1 h.2.2.2.2.2.1 m_us_X2 h.2.2.2.2.1 h.2.2.2.2.2.2.2.1 hP q he rfl 2 (by decide) (by rw [hy]; exact h.2.2.2.2.2.1 _ m_fl_X2_16) (fun _ h9 => h9) hv hdg (kk h H locs ls hP hD hS hl)
theorem p_X2_16 (hy : y.cls = RX2) {a : Nat} {fs : List Value} {x : Int32} {w2 : va_W} (hdg : decode cc pc = .ok (.putfield 16, 3)) (q : Nat) (he : w[q]? = some (a, .inr (2, fs))) (hlen : 2 < fs.length) (hw : w.set q (a, .inr (2, fs.set 2 (.int x))) = w2) (kk : J D Γ y cc nL ret R Q k n w2 (pc + 3) lv st) : J D Γ y cc nL ret R Q k n w pc lv (.int x :: .ref a :: st) := by
  obtain ⟨p, e, s, m, args, below, meth, c, A⟩ := Γ
  intro h H locs ls hP hD hS hl
  refine va_put (C := RX2) (T := TX2) (N := 3) (ty := .int) h.1 h.2.1 h.2.2.2.2.2.1 m_us_X2 tyX2 tyX2_ok nmX2 h.2.2.2.2.1 h.2.2.2.2.2.2.2.1 hP hD hS q he rfl 2 (by decide) (by rw [hy]; exact h.2.2.2.2.2.1 _ m_fl_X2_16) (fun _ h9 => h9) rfl (by decide +kernel) rfl rfl hlen hdg (fun H1 locs1 hP hD hS => ?_)
  rw [hw] at hP hD
  exact kk h H1 locs1 ls hP hD hS hl
theorem g_X3_9 (hy : y.cls = RX3) {a : Nat} {fs : List Value} {v : Value} (hdg : decode cc pc = .ok (.getfield 9, 3)) (q : Nat) (he : w[q]? = some (a, .inr (3, fs))) (hv : fs[0]? = some v) (kk : J D Γ y cc nL ret R Q k n w (pc + 3) lv (v :: st)) : J D Γ y cc nL ret R Q k n w pc lv (.ref a :: st) := by
  obtain ⟨p, e, s, m, args, below, meth, c, A⟩ := Γ
  intro h H locs ls hP hD hS hl
  exact va_get (C := RX3) (T := TX3) (N := 6) h.1 h.2.1 h.2.2.2.2.2.1 m_us_X3 h.2.2.2.2.1 h.2.2.2.2.2.2.2.1 hP q he rfl 0 (by decide) (by rw [hy]; exact h.2.2.2.2.2.1 _ m_fl_X3_9) (fun _ h9 => h9) hv hdg (kk h H locs ls hP hD hS hl)
theorem p_X3_9 (hy : y.cls = RX3) (hin : y.name = "<init>") {a : Nat} {fs : List Value} {x : Nat} {w2 : va_W} (hdg : decode cc pc = .ok (.putfield 9, 3)) (q : Nat) (he : w[q]? = some (a, .inr (3, fs))) (hlen : 0 < fs.length) (hw : w.set q (a, .inr (3, fs.set 0 (.ref x))) = w2) (kk : J D Γ y cc nL ret R Q k n w2 (pc + 3) lv st) : J D Γ y cc nL ret R Q k n w pc lv (.ref x :: .ref a :: st) := by
  obtain ⟨p, e, s, m, args, below, meth, c, A⟩ := Γ
  intro h H locs ls hP hD hS hl
  refine va_putF (C := RX3) (T := TX3) (N := 6) (ty := (.array .int)) h.1 h.2.1 h.2.2.2.2.2.1 m_us_X3 tyX3 tyX3_ok nmX3 h.2.2.2.2.1 h.2.2.2.2.2.2.2.1 hP hD hS q he rfl 0 (by decide) (by rw [hy]; exact h.2.2.2.2.2.1 _ m_fl_X3_9) (fun _ h9 => h9) rfl (by rw [h.2.2.2.2.2.2.2.2.2.1]; exact hin) (by rw [hy]; rfl) (by decide +kernel) rfl rfl hlen hdg (fun H1 locs1 hP hD hS => ?_)
  rw [hw] at hP hD
  exact kk h H1 locs1 ls hP hD hS hl
theorem g_X3_13 (hy : y.cls = RX3) {a : Nat} {fs : List Value} {v : Value} (hdg : decode cc pc = .ok (.getfield 13, 3)) (q : Nat) (he : w[q]? = some (a, .inr (3, fs))) (hv : fs[1]? = some v) (kk : J D Γ y cc nL ret R Q k n w (pc + 3) lv (v :: st)) : J D Γ y cc nL ret R Q k n w pc lv (.ref a :: st) := by
  obtain ⟨p, e, s, m, args, below, meth, c, A⟩ := Γ
  intro h H locs ls hP hD hS hl
  exact va_get (C := RX3) (T := TX3) (N := 6) h.1 h.2.1 h.2.2.2.2.2.1 m_us_X3 h.2.2.2.2.1 h.2.2.2.2.2.2.2.1 hP q he rfl 1 (by decide) (by rw [hy]; exact h.2.2.2.2.2.1 _ m_fl_X3_13) (fun _ h9 => h9) hv hdg (kk h H locs ls hP hD hS hl)
theorem p_X3_13 (hy : y.cls = RX3) (hin : y.name = "<init>") {a : Nat} {fs : List Value} {x : Nat} {w2 : va_W} (hdg : decode cc pc = .ok (.putfield 13, 3)) (q : Nat) (he : w[q]? = some (a, .inr (3, fs))) (hlen : 1 < fs.length) (hw : w.set q (a, .inr (3, fs.set 1 (.ref x))) = w2) (kk : J D Γ y cc nL ret R Q k n w2 (pc + 3) lv st) : J D Γ y cc nL ret R Q k n w pc lv (.ref x :: .ref a :: st) := by
  obtain ⟨p, e, s, m, args, below, meth, c, A⟩ := Γ
  intro h H locs ls hP hD hS hl
  refine va_putF (C := RX3) (T := TX3) (N := 6) (ty := (.array .int)) h.1 h.2.1 h.2.2.2.2.2.1 m_us_X3 tyX3 tyX3_ok nmX3 h.2.2.2.2.1 h.2.2.2.2.2.2.2.1 hP hD hS q he rfl 1 (by decide) (by rw [hy]; exact h.2.2.2.2.2.1 _ m_fl_X3_13) (fun _ h9 => h9) rfl (by rw [h.2.2.2.2.2.2.2.2.2.1]; exact hin) (by rw [hy]; rfl) (by decide +kernel) rfl rfl hlen hdg (fun H1 locs1 hP hD hS => ?_)
  rw [hw] at hP hD
  exact kk h H1 locs1 ls hP hD hS hl
theorem g_X3_16 (hy : y.cls = RX3) {a : Nat} {fs : List Value} {v : Value} (hdg : decode cc pc = .ok (.getfield 16, 3)) (q : Nat) (he : w[q]? = some (a, .inr (3, fs))) (hv : fs[2]? = some v) (kk : J D Γ y cc nL ret R Q k n w (pc + 3) lv (v :: st)) : J D Γ y cc nL ret R Q k n w pc lv (.ref a :: st) := by
  obtain ⟨p, e, s, m, args, below, meth, c, A⟩ := Γ
  intro h H locs ls hP hD hS hl
  exact va_get (C := RX3) (T := TX3) (N := 6) h.1 h.2.1 h.2.2.2.2.2.1 m_us_X3 h.2.2.2.2.1 h.2.2.2.2.2.2.2.1 hP q he rfl 2 (by decide) (by rw [hy]; exact h.2.2.2.2.2.1 _ m_fl_X3_16) (fun _ h9 => h9) hv hdg (kk h H locs ls hP hD hS hl)
theorem p_X3_16 (hy : y.cls = RX3) (hin : y.name = "<init>") {a : Nat} {fs : List Value} {x : Nat} {w2 : va_W} (hdg : decode cc pc = .ok (.putfield 16, 3)) (q : Nat) (he : w[q]? = some (a, .inr (3, fs))) (hlen : 2 < fs.length) (hw : w.set q (a, .inr (3, fs.set 2 (.ref x))) = w2) (kk : J D Γ y cc nL ret R Q k n w2 (pc + 3) lv st) : J D Γ y cc nL ret R Q k n w pc lv (.ref x :: .ref a :: st) := by
  obtain ⟨p, e, s, m, args, below, meth, c, A⟩ := Γ
  intro h H locs ls hP hD hS hl
  refine va_putF (C := RX3) (T := TX3) (N := 6) (ty := (.array .int)) h.1 h.2.1 h.2.2.2.2.2.1 m_us_X3 tyX3 tyX3_ok nmX3 h.2.2.2.2.1 h.2.2.2.2.2.2.2.1 hP hD hS q he rfl 2 (by decide) (by rw [hy]; exact h.2.2.2.2.2.1 _ m_fl_X3_16) (fun _ h9 => h9) rfl (by rw [h.2.2.2.2.2.2.2.2.2.1]; exact hin) (by rw [hy]; rfl) (by decide +kernel) rfl rfl hlen hdg (fun H1 locs1 hP hD hS => ?_)
  rw [hw] at hP hD
  exact kk h H1 locs1 ls hP hD hS hl
theorem g_X3_19 (hy : y.cls = RX3) {a : Nat} {fs : List Value} {v : Value} (hdg : decode cc pc = .ok (.getfield 19, 3)) (q : Nat) (he : w[q]? = some (a, .inr (3, fs))) (hv : fs[3]? = some v) (kk : J D Γ y cc nL ret R Q k n w (pc + 3) lv (v :: st)) : J D Γ y cc nL ret R Q k n w pc lv (.ref a :: st) := by
  obtain ⟨p, e, s, m, args, below, meth, c, A⟩ := Γ
  intro h H locs ls hP hD hS hl
  exact va_get (C := RX3) (T := TX3) (N := 6) h.1 h.2.1 h.2.2.2.2.2.1 m_us_X3 h.2.2.2.2.1 h.2.2.2.2.2.2.2.1 hP q he rfl 3 (by decide) (by rw [hy]; exact h.2.2.2.2.2.1 _ m_fl_X3_19) (fun _ h9 => h9) hv hdg (kk h H locs ls hP hD hS hl)
theorem p_X3_19 (hy : y.cls = RX3) {a : Nat} {fs : List Value} {x : Int32} {w2 : va_W} (hdg : decode cc pc = .ok (.putfield 19, 3)) (q : Nat) (he : w[q]? = some (a, .inr (3, fs))) (hlen : 3 < fs.length) (hw : w.set q (a, .inr (3, fs.set 3 (.int x))) = w2) (kk : J D Γ y cc nL ret R Q k n w2 (pc + 3) lv st) : J D Γ y cc nL ret R Q k n w pc lv (.int x :: .ref a :: st) := by
  obtain ⟨p, e, s, m, args, below, meth, c, A⟩ := Γ
  intro h H locs ls hP hD hS hl
  refine va_put (C := RX3) (T := TX3) (N := 6) (ty := .int) h.1 h.2.1 h.2.2.2.2.2.1 m_us_X3 tyX3 tyX3_ok nmX3 h.2.2.2.2.1 h.2.2.2.2.2.2.2.1 hP hD hS q he rfl 3 (by decide) (by rw [hy]; exact h.2.2.2.2.2.1 _ m_fl_X3_19) (fun _ h9 => h9) rfl (by decide +kernel) rfl rfl hlen hdg (fun H1 locs1 hP hD hS => ?_)
  rw [hw] at hP hD
  exact kk h H1 locs1 ls hP hD hS hl
theorem g_X3_23 (hy : y.cls = RX3) {a : Nat} {fs : List Value} {v : Value} (hdg : decode cc pc = .ok (.getfield 23, 3)) (q : Nat) (he : w[q]? = some (a, .inr (3, fs))) (hv : fs[4]? = some v) (kk : J D Γ y cc nL ret R Q k n w (pc + 3) lv (v :: st)) : J D Γ y cc nL ret R Q k n w pc lv (.ref a :: st) := by
  obtain ⟨p, e, s, m, args, below, meth, c, A⟩ := Γ
  intro h H locs ls hP hD hS hl
  exact va_get (C := RX3) (T := TX3) (N := 6) h.1 h.2.1 h.2.2.2.2.2.1 m_us_X3 h.2.2.2.2.1 h.2.2.2.2.2.2.2.1 hP q he rfl 4 (by decide) (by rw [hy]; exact h.2.2.2.2.2.1 _ m_fl_X3_23) (fun _ h9 => h9) hv hdg (kk h H locs ls hP hD hS hl)
theorem p_X3_23 (hy : y.cls = RX3) {a : Nat} {fs : List Value} {x : Int32} {w2 : va_W} (hdg : decode cc pc = .ok (.putfield 23, 3)) (q : Nat) (he : w[q]? = some (a, .inr (3, fs))) (hlen : 4 < fs.length) (hw : w.set q (a, .inr (3, fs.set 4 (.int x))) = w2) (kk : J D Γ y cc nL ret R Q k n w2 (pc + 3) lv st) : J D Γ y cc nL ret R Q k n w pc lv (.int x :: .ref a :: st) := by
  obtain ⟨p, e, s, m, args, below, meth, c, A⟩ := Γ
  intro h H locs ls hP hD hS hl
  refine va_put (C := RX3) (T := TX3) (N := 6) (ty := .int) h.1 h.2.1 h.2.2.2.2.2.1 m_us_X3 tyX3 tyX3_ok nmX3 h.2.2.2.2.1 h.2.2.2.2.2.2.2.1 hP hD hS q he rfl 4 (by decide) (by rw [hy]; exact h.2.2.2.2.2.1 _ m_fl_X3_23) (fun _ h9 => h9) rfl (by decide +kernel) rfl rfl hlen hdg (fun H1 locs1 hP hD hS => ?_)
  rw [hw] at hP hD
  exact kk h H1 locs1 ls hP hD hS hl
theorem g_X3_26 (hy : y.cls = RX3) {a : Nat} {fs : List Value} {v : Value} (hdg : decode cc pc = .ok (.getfield 26, 3)) (q : Nat) (he : w[q]? = some (a, .inr (3, fs))) (hv : fs[5]? = some v) (kk : J D Γ y cc nL ret R Q k n w (pc + 3) lv (v :: st)) : J D Γ y cc nL ret R Q k n w pc lv (.ref a :: st) := by
  obtain ⟨p, e, s, m, args, below, meth, c, A⟩ := Γ
  intro h H locs ls hP hD hS hl
  exact va_get (C := RX3) (T := TX3) (N := 6) h.1 h.2.1 h.2.2.2.2.2.1 m_us_X3 h.2.2.2.2.1 h.2.2.2.2.2.2.2.1 hP q he rfl 5 (by decide) (by rw [hy]; exact h.2.2.2.2.2.1 _ m_fl_X3_26) (fun _ h9 => h9) hv hdg (kk h H locs ls hP hD hS hl)
theorem p_X3_26 (hy : y.cls = RX3) {a : Nat} {fs : List Value} {x : Int32} {w2 : va_W} (hdg : decode cc pc = .ok (.putfield 26, 3)) (q : Nat) (he : w[q]? = some (a, .inr (3, fs))) (hlen : 5 < fs.length) (hw : w.set q (a, .inr (3, fs.set 5 (.int x))) = w2) (kk : J D Γ y cc nL ret R Q k n w2 (pc + 3) lv st) : J D Γ y cc nL ret R Q k n w pc lv (.int x :: .ref a :: st) := by
  obtain ⟨p, e, s, m, args, below, meth, c, A⟩ := Γ
  intro h H locs ls hP hD hS hl
  refine va_put (C := RX3) (T := TX3) (N := 6) (ty := .int) h.1 h.2.1 h.2.2.2.2.2.1 m_us_X3 tyX3 tyX3_ok nmX3 h.2.2.2.2.1 h.2.2.2.2.2.2.2.1 hP hD hS q he rfl 5 (by decide) (by rw [hy]; exact h.2.2.2.2.2.1 _ m_fl_X3_26) (fun _ h9 => h9) rfl (by decide +kernel) rfl rfl hlen hdg (fun H1 locs1 hP hD hS => ?_)
  rw [hw] at hP hD
  exact kk h H1 locs1 ls hP hD hS hl
theorem g_X4_10 (hy : y.cls = RX4) {a : Nat} {fs : List Value} {v : Value} (hdg : decode cc pc = .ok (.getfield 10, 3)) (q : Nat) (he : w[q]? = some (a, .inr (4, fs))) (hv : fs[0]? = some v) (kk : J D Γ y cc nL ret R Q k n w (pc + 3) lv (v :: st)) : J D Γ y cc nL ret R Q k n w pc lv (.ref a :: st) := by
  obtain ⟨p, e, s, m, args, below, meth, c, A⟩ := Γ
  intro h H locs ls hP hD hS hl
  exact va_get (C := RX4) (T := TX4) (N := 7) h.1 h.2.1 h.2.2.2.2.2.1 m_us_X4 h.2.2.2.2.1 h.2.2.2.2.2.2.2.1 hP q he rfl 0 (by decide) (by rw [hy]; exact h.2.2.2.2.2.1 _ m_fl_X4_10) (fun _ h9 => h9) hv hdg (kk h H locs ls hP hD hS hl)
theorem p_X4_10 (hy : y.cls = RX4) (hin : y.name = "<init>") {a : Nat} {fs : List Value} {x : Nat} {w2 : va_W} (hdg : decode cc pc = .ok (.putfield 10, 3)) (q : Nat) (he : w[q]? = some (a, .inr (4, fs))) (hlen : 0 < fs.length) (hw : w.set q (a, .inr (4, fs.set 0 (.ref x))) = w2) (kk : J D Γ y cc nL ret R Q k n w2 (pc + 3) lv st) : J D Γ y cc nL ret R Q k n w pc lv (.ref x :: .ref a :: st) := by
  obtain ⟨p, e, s, m, args, below, meth, c, A⟩ := Γ
  intro h H locs ls hP hD hS hl
  refine va_putF (C := RX4) (T := TX4) (N := 7) (ty := (.object "TransferRings$Text")) h.1 h.2.1 h.2.2.2.2.2.1 m_us_X4 tyX4 tyX4_ok nmX4 h.2.2.2.2.1 h.2.2.2.2.2.2.2.1 hP hD hS q he rfl 0 (by decide) (by rw [hy]; exact h.2.2.2.2.2.1 _ m_fl_X4_10) (fun _ h9 => h9) rfl (by rw [h.2.2.2.2.2.2.2.2.2.1]; exact hin) (by rw [hy]; rfl) (by decide +kernel) rfl rfl hlen hdg (fun H1 locs1 hP hD hS => ?_)
  rw [hw] at hP hD
  exact kk h H1 locs1 ls hP hD hS hl
theorem g_X4_19 (hy : y.cls = RX4) {a : Nat} {fs : List Value} {v : Value} (hdg : decode cc pc = .ok (.getfield 19, 3)) (q : Nat) (he : w[q]? = some (a, .inr (4, fs))) (hv : fs[1]? = some v) (kk : J D Γ y cc nL ret R Q k n w (pc + 3) lv (v :: st)) : J D Γ y cc nL ret R Q k n w pc lv (.ref a :: st) := by
  obtain ⟨p, e, s, m, args, below, meth, c, A⟩ := Γ
  intro h H locs ls hP hD hS hl
  exact va_get (C := RX4) (T := TX4) (N := 7) h.1 h.2.1 h.2.2.2.2.2.1 m_us_X4 h.2.2.2.2.1 h.2.2.2.2.2.2.2.1 hP q he rfl 1 (by decide) (by rw [hy]; exact h.2.2.2.2.2.1 _ m_fl_X4_19) (fun _ h9 => h9) hv hdg (kk h H locs ls hP hD hS hl)
theorem p_X4_19 (hy : y.cls = RX4) (hin : y.name = "<init>") {a : Nat} {fs : List Value} {x : Nat} {w2 : va_W} (hdg : decode cc pc = .ok (.putfield 19, 3)) (q : Nat) (he : w[q]? = some (a, .inr (4, fs))) (hlen : 1 < fs.length) (hw : w.set q (a, .inr (4, fs.set 1 (.ref x))) = w2) (kk : J D Γ y cc nL ret R Q k n w2 (pc + 3) lv st) : J D Γ y cc nL ret R Q k n w pc lv (.ref x :: .ref a :: st) := by
  obtain ⟨p, e, s, m, args, below, meth, c, A⟩ := Γ
  intro h H locs ls hP hD hS hl
  refine va_putF (C := RX4) (T := TX4) (N := 7) (ty := (.object "TransferRings$Engine")) h.1 h.2.1 h.2.2.2.2.2.1 m_us_X4 tyX4 tyX4_ok nmX4 h.2.2.2.2.1 h.2.2.2.2.2.2.2.1 hP hD hS q he rfl 1 (by decide) (by rw [hy]; exact h.2.2.2.2.2.1 _ m_fl_X4_19) (fun _ h9 => h9) rfl (by rw [h.2.2.2.2.2.2.2.2.2.1]; exact hin) (by rw [hy]; rfl) (by decide +kernel) rfl rfl hlen hdg (fun H1 locs1 hP hD hS => ?_)
  rw [hw] at hP hD
  exact kk h H1 locs1 ls hP hD hS hl
theorem g_X4_23 (hy : y.cls = RX4) {a : Nat} {fs : List Value} {v : Value} (hdg : decode cc pc = .ok (.getfield 23, 3)) (q : Nat) (he : w[q]? = some (a, .inr (4, fs))) (hv : fs[2]? = some v) (kk : J D Γ y cc nL ret R Q k n w (pc + 3) lv (v :: st)) : J D Γ y cc nL ret R Q k n w pc lv (.ref a :: st) := by
  obtain ⟨p, e, s, m, args, below, meth, c, A⟩ := Γ
  intro h H locs ls hP hD hS hl
  exact va_get (C := RX4) (T := TX4) (N := 7) h.1 h.2.1 h.2.2.2.2.2.1 m_us_X4 h.2.2.2.2.1 h.2.2.2.2.2.2.2.1 hP q he rfl 2 (by decide) (by rw [hy]; exact h.2.2.2.2.2.1 _ m_fl_X4_23) (fun _ h9 => h9) hv hdg (kk h H locs ls hP hD hS hl)
theorem p_X4_23 (hy : y.cls = RX4) (hin : y.name = "<init>") {a : Nat} {fs : List Value} {x : Nat} {w2 : va_W} (hdg : decode cc pc = .ok (.putfield 23, 3)) (q : Nat) (he : w[q]? = some (a, .inr (4, fs))) (hlen : 2 < fs.length) (hw : w.set q (a, .inr (4, fs.set 2 (.ref x))) = w2) (kk : J D Γ y cc nL ret R Q k n w2 (pc + 3) lv st) : J D Γ y cc nL ret R Q k n w pc lv (.ref x :: .ref a :: st) := by
  obtain ⟨p, e, s, m, args, below, meth, c, A⟩ := Γ
  intro h H locs ls hP hD hS hl
  refine va_putF (C := RX4) (T := TX4) (N := 7) (ty := (.object "TransferRings$Engine")) h.1 h.2.1 h.2.2.2.2.2.1 m_us_X4 tyX4 tyX4_ok nmX4 h.2.2.2.2.1 h.2.2.2.2.2.2.2.1 hP hD hS q he rfl 2 (by decide) (by rw [hy]; exact h.2.2.2.2.2.1 _ m_fl_X4_23) (fun _ h9 => h9) rfl (by rw [h.2.2.2.2.2.2.2.2.2.1]; exact hin) (by rw [hy]; rfl) (by decide +kernel) rfl rfl hlen hdg (fun H1 locs1 hP hD hS => ?_)
  rw [hw] at hP hD
  exact kk h H1 locs1 ls hP hD hS hl
theorem g_X4_29 (hy : y.cls = RX4) {a : Nat} {fs : List Value} {v : Value} (hdg : decode cc pc = .ok (.getfield 29, 3)) (q : Nat) (he : w[q]? = some (a, .inr (4, fs))) (hv : fs[3]? = some v) (kk : J D Γ y cc nL ret R Q k n w (pc + 3) lv (v :: st)) : J D Γ y cc nL ret R Q k n w pc lv (.ref a :: st) := by
  obtain ⟨p, e, s, m, args, below, meth, c, A⟩ := Γ
  intro h H locs ls hP hD hS hl
  exact va_get (C := RX4) (T := TX4) (N := 7) h.1 h.2.1 h.2.2.2.2.2.1 m_us_X4 h.2.2.2.2.1 h.2.2.2.2.2.2.2.1 hP q he rfl 3 (by decide) (by rw [hy]; exact h.2.2.2.2.2.1 _ m_fl_X4_29) (fun _ h9 => h9) hv hdg (kk h H locs ls hP hD hS hl)
theorem p_X4_29 (hy : y.cls = RX4) (hin : y.name = "<init>") {a : Nat} {fs : List Value} {x : Nat} {w2 : va_W} (hdg : decode cc pc = .ok (.putfield 29, 3)) (q : Nat) (he : w[q]? = some (a, .inr (4, fs))) (hlen : 3 < fs.length) (hw : w.set q (a, .inr (4, fs.set 3 (.ref x))) = w2) (kk : J D Γ y cc nL ret R Q k n w2 (pc + 3) lv st) : J D Γ y cc nL ret R Q k n w pc lv (.ref x :: .ref a :: st) := by
  obtain ⟨p, e, s, m, args, below, meth, c, A⟩ := Γ
  intro h H locs ls hP hD hS hl
  refine va_putF (C := RX4) (T := TX4) (N := 7) (ty := (.object "TransferRings$History")) h.1 h.2.1 h.2.2.2.2.2.1 m_us_X4 tyX4 tyX4_ok nmX4 h.2.2.2.2.1 h.2.2.2.2.2.2.2.1 hP hD hS q he rfl 3 (by decide) (by rw [hy]; exact h.2.2.2.2.2.1 _ m_fl_X4_29) (fun _ h9 => h9) rfl (by rw [h.2.2.2.2.2.2.2.2.2.1]; exact hin) (by rw [hy]; rfl) (by decide +kernel) rfl rfl hlen hdg (fun H1 locs1 hP hD hS => ?_)
  rw [hw] at hP hD
  exact kk h H1 locs1 ls hP hD hS hl
theorem g_X4_36 (hy : y.cls = RX4) {a : Nat} {fs : List Value} {v : Value} (hdg : decode cc pc = .ok (.getfield 36, 3)) (q : Nat) (he : w[q]? = some (a, .inr (4, fs))) (hv : fs[4]? = some v) (kk : J D Γ y cc nL ret R Q k n w (pc + 3) lv (v :: st)) : J D Γ y cc nL ret R Q k n w pc lv (.ref a :: st) := by
  obtain ⟨p, e, s, m, args, below, meth, c, A⟩ := Γ
  intro h H locs ls hP hD hS hl
  exact va_get (C := RX4) (T := TX4) (N := 7) h.1 h.2.1 h.2.2.2.2.2.1 m_us_X4 h.2.2.2.2.1 h.2.2.2.2.2.2.2.1 hP q he rfl 4 (by decide) (by rw [hy]; exact h.2.2.2.2.2.1 _ m_fl_X4_36) (fun _ h9 => h9) hv hdg (kk h H locs ls hP hD hS hl)
theorem p_X4_36 (hy : y.cls = RX4) (hin : y.name = "<init>") {a : Nat} {fs : List Value} {x : Nat} {w2 : va_W} (hdg : decode cc pc = .ok (.putfield 36, 3)) (q : Nat) (he : w[q]? = some (a, .inr (4, fs))) (hlen : 4 < fs.length) (hw : w.set q (a, .inr (4, fs.set 4 (.ref x))) = w2) (kk : J D Γ y cc nL ret R Q k n w2 (pc + 3) lv st) : J D Γ y cc nL ret R Q k n w pc lv (.ref x :: .ref a :: st) := by
  obtain ⟨p, e, s, m, args, below, meth, c, A⟩ := Γ
  intro h H locs ls hP hD hS hl
  refine va_putF (C := RX4) (T := TX4) (N := 7) (ty := (.object "TransferRings$Sightings")) h.1 h.2.1 h.2.2.2.2.2.1 m_us_X4 tyX4 tyX4_ok nmX4 h.2.2.2.2.1 h.2.2.2.2.2.2.2.1 hP hD hS q he rfl 4 (by decide) (by rw [hy]; exact h.2.2.2.2.2.1 _ m_fl_X4_36) (fun _ h9 => h9) rfl (by rw [h.2.2.2.2.2.2.2.2.2.1]; exact hin) (by rw [hy]; rfl) (by decide +kernel) rfl rfl hlen hdg (fun H1 locs1 hP hD hS => ?_)
  rw [hw] at hP hD
  exact kk h H1 locs1 ls hP hD hS hl
theorem g_X4_40 (hy : y.cls = RX4) {a : Nat} {fs : List Value} {v : Value} (hdg : decode cc pc = .ok (.getfield 40, 3)) (q : Nat) (he : w[q]? = some (a, .inr (4, fs))) (hv : fs[5]? = some v) (kk : J D Γ y cc nL ret R Q k n w (pc + 3) lv (v :: st)) : J D Γ y cc nL ret R Q k n w pc lv (.ref a :: st) := by
  obtain ⟨p, e, s, m, args, below, meth, c, A⟩ := Γ
  intro h H locs ls hP hD hS hl
  exact va_get (C := RX4) (T := TX4) (N := 7) h.1 h.2.1 h.2.2.2.2.2.1 m_us_X4 h.2.2.2.2.1 h.2.2.2.2.2.2.2.1 hP q he rfl 5 (by decide) (by rw [hy]; exact h.2.2.2.2.2.1 _ m_fl_X4_40) (fun _ h9 => h9) hv hdg (kk h H locs ls hP hD hS hl)
theorem p_X4_40 (hy : y.cls = RX4) (hin : y.name = "<init>") {a : Nat} {fs : List Value} {x : Nat} {w2 : va_W} (hdg : decode cc pc = .ok (.putfield 40, 3)) (q : Nat) (he : w[q]? = some (a, .inr (4, fs))) (hlen : 5 < fs.length) (hw : w.set q (a, .inr (4, fs.set 5 (.ref x))) = w2) (kk : J D Γ y cc nL ret R Q k n w2 (pc + 3) lv st) : J D Γ y cc nL ret R Q k n w pc lv (.ref x :: .ref a :: st) := by
  obtain ⟨p, e, s, m, args, below, meth, c, A⟩ := Γ
  intro h H locs ls hP hD hS hl
  refine va_putF (C := RX4) (T := TX4) (N := 7) (ty := (.array (.object "TransferRings$Engine"))) h.1 h.2.1 h.2.2.2.2.2.1 m_us_X4 tyX4 tyX4_ok nmX4 h.2.2.2.2.1 h.2.2.2.2.2.2.2.1 hP hD hS q he rfl 5 (by decide) (by rw [hy]; exact h.2.2.2.2.2.1 _ m_fl_X4_40) (fun _ h9 => h9) rfl (by rw [h.2.2.2.2.2.2.2.2.2.1]; exact hin) (by rw [hy]; rfl) (by decide +kernel) rfl rfl hlen hdg (fun H1 locs1 hP hD hS => ?_)
  rw [hw] at hP hD
  exact kk h H1 locs1 ls hP hD hS hl
theorem g_X4_44 (hy : y.cls = RX4) {a : Nat} {fs : List Value} {v : Value} (hdg : decode cc pc = .ok (.getfield 44, 3)) (q : Nat) (he : w[q]? = some (a, .inr (4, fs))) (hv : fs[6]? = some v) (kk : J D Γ y cc nL ret R Q k n w (pc + 3) lv (v :: st)) : J D Γ y cc nL ret R Q k n w pc lv (.ref a :: st) := by
  obtain ⟨p, e, s, m, args, below, meth, c, A⟩ := Γ
  intro h H locs ls hP hD hS hl
  exact va_get (C := RX4) (T := TX4) (N := 7) h.1 h.2.1 h.2.2.2.2.2.1 m_us_X4 h.2.2.2.2.1 h.2.2.2.2.2.2.2.1 hP q he rfl 6 (by decide) (by rw [hy]; exact h.2.2.2.2.2.1 _ m_fl_X4_44) (fun _ h9 => h9) hv hdg (kk h H locs ls hP hD hS hl)
theorem p_X4_44 (hy : y.cls = RX4) (hin : y.name = "<init>") {a : Nat} {fs : List Value} {x : Nat} {w2 : va_W} (hdg : decode cc pc = .ok (.putfield 44, 3)) (q : Nat) (he : w[q]? = some (a, .inr (4, fs))) (hlen : 6 < fs.length) (hw : w.set q (a, .inr (4, fs.set 6 (.ref x))) = w2) (kk : J D Γ y cc nL ret R Q k n w2 (pc + 3) lv st) : J D Γ y cc nL ret R Q k n w pc lv (.ref x :: .ref a :: st) := by
  obtain ⟨p, e, s, m, args, below, meth, c, A⟩ := Γ
  intro h H locs ls hP hD hS hl
  refine va_putF (C := RX4) (T := TX4) (N := 7) (ty := (.array .boolean)) h.1 h.2.1 h.2.2.2.2.2.1 m_us_X4 tyX4 tyX4_ok nmX4 h.2.2.2.2.1 h.2.2.2.2.2.2.2.1 hP hD hS q he rfl 6 (by decide) (by rw [hy]; exact h.2.2.2.2.2.1 _ m_fl_X4_44) (fun _ h9 => h9) rfl (by rw [h.2.2.2.2.2.2.2.2.2.1]; exact hin) (by rw [hy]; rfl) (by decide +kernel) rfl rfl hlen hdg (fun H1 locs1 hP hD hS => ?_)
  rw [hw] at hP hD
  exact kk h H1 locs1 ls hP hD hS hl
theorem g_X4_56 (hy : y.cls = RX4) {a : Nat} {fs : List Value} {v : Value} (hdg : decode cc pc = .ok (.getfield 56, 3)) (q : Nat) (he : w[q]? = some (a, .inr (3, fs))) (hv : fs[4]? = some v) (kk : J D Γ y cc nL ret R Q k n w (pc + 3) lv (v :: st)) : J D Γ y cc nL ret R Q k n w pc lv (.ref a :: st) := by
  obtain ⟨p, e, s, m, args, below, meth, c, A⟩ := Γ
  intro h H locs ls hP hD hS hl
  exact va_get (C := RX3) (T := TX3) (N := 6) h.1 h.2.1 h.2.2.2.2.2.1 m_us_X3 h.2.2.2.2.1 h.2.2.2.2.2.2.2.1 hP q he rfl 4 (by decide) (by rw [hy]; exact h.2.2.2.2.2.1 _ m_fl_X4_56) (fun _ h9 => h9) hv hdg (kk h H locs ls hP hD hS hl)
theorem p_X4_56 (hy : y.cls = RX4) {a : Nat} {fs : List Value} {x : Int32} {w2 : va_W} (hdg : decode cc pc = .ok (.putfield 56, 3)) (q : Nat) (he : w[q]? = some (a, .inr (3, fs))) (hlen : 4 < fs.length) (hw : w.set q (a, .inr (3, fs.set 4 (.int x))) = w2) (kk : J D Γ y cc nL ret R Q k n w2 (pc + 3) lv st) : J D Γ y cc nL ret R Q k n w pc lv (.int x :: .ref a :: st) := by
  obtain ⟨p, e, s, m, args, below, meth, c, A⟩ := Γ
  intro h H locs ls hP hD hS hl
  refine va_put (C := RX3) (T := TX3) (N := 6) (ty := .int) h.1 h.2.1 h.2.2.2.2.2.1 m_us_X3 tyX3 tyX3_ok nmX3 h.2.2.2.2.1 h.2.2.2.2.2.2.2.1 hP hD hS q he rfl 4 (by decide) (by rw [hy]; exact h.2.2.2.2.2.1 _ m_fl_X4_56) (fun _ h9 => h9) rfl (by decide +kernel) rfl rfl hlen hdg (fun H1 locs1 hP hD hS => ?_)
  rw [hw] at hP hD
  exact kk h H1 locs1 ls hP hD hS hl
theorem g_X4_71 (hy : y.cls = RX4) {a : Nat} {fs : List Value} {v : Value} (hdg : decode cc pc = .ok (.getfield 71, 3)) (q : Nat) (he : w[q]? = some (a, .inr (3, fs))) (hv : fs[5]? = some v) (kk : J D Γ y cc nL ret R Q k n w (pc + 3) lv (v :: st)) : J D Γ y cc nL ret R Q k n w pc lv (.ref a :: st) := by
  obtain ⟨p, e, s, m, args, below, meth, c, A⟩ := Γ
  intro h H locs ls hP hD hS hl
  exact va_get (C := RX3) (T := TX3) (N := 6) h.1 h.2.1 h.2.2.2.2.2.1 m_us_X3 h.2.2.2.2.1 h.2.2.2.2.2.2.2.1 hP q he rfl 5 (by decide) (by rw [hy]; exact h.2.2.2.2.2.1 _ m_fl_X4_71) (fun _ h9 => h9) hv hdg (kk h H locs ls hP hD hS hl)
theorem p_X4_71 (hy : y.cls = RX4) {a : Nat} {fs : List Value} {x : Int32} {w2 : va_W} (hdg : decode cc pc = .ok (.putfield 71, 3)) (q : Nat) (he : w[q]? = some (a, .inr (3, fs))) (hlen : 5 < fs.length) (hw : w.set q (a, .inr (3, fs.set 5 (.int x))) = w2) (kk : J D Γ y cc nL ret R Q k n w2 (pc + 3) lv st) : J D Γ y cc nL ret R Q k n w pc lv (.int x :: .ref a :: st) := by
  obtain ⟨p, e, s, m, args, below, meth, c, A⟩ := Γ
  intro h H locs ls hP hD hS hl
  refine va_put (C := RX3) (T := TX3) (N := 6) (ty := .int) h.1 h.2.1 h.2.2.2.2.2.1 m_us_X3 tyX3 tyX3_ok nmX3 h.2.2.2.2.1 h.2.2.2.2.2.2.2.1 hP hD hS q he rfl 5 (by decide) (by rw [hy]; exact h.2.2.2.2.2.1 _ m_fl_X4_71) (fun _ h9 => h9) rfl (by decide +kernel) rfl rfl hlen hdg (fun H1 locs1 hP hD hS => ?_)
  rw [hw] at hP hD
  exact kk h H1 locs1 ls hP hD hS hl
theorem g_X4_107 (hy : y.cls = RX4) {a : Nat} {fs : List Value} {v : Value} (hdg : decode cc pc = .ok (.getfield 107, 3)) (q : Nat) (he : w[q]? = some (a, .inr (1, fs))) (hv : fs[2]? = some v) (kk : J D Γ y cc nL ret R Q k n w (pc + 3) lv (v :: st)) : J D Γ y cc nL ret R Q k n w pc lv (.ref a :: st) := by
  obtain ⟨p, e, s, m, args, below, meth, c, A⟩ := Γ
  intro h H locs ls hP hD hS hl
  exact va_get (C := RX1) (T := TX1) (N := 3) h.1 h.2.1 h.2.2.2.2.2.1 m_us_X1 h.2.2.2.2.1 h.2.2.2.2.2.2.2.1 hP q he rfl 2 (by decide) (by rw [hy]; exact h.2.2.2.2.2.1 _ m_fl_X4_107) (fun _ h9 => h9) hv hdg (kk h H locs ls hP hD hS hl)
theorem p_X4_107 (hy : y.cls = RX4) {a : Nat} {fs : List Value} {x : Int32} {w2 : va_W} (hdg : decode cc pc = .ok (.putfield 107, 3)) (q : Nat) (he : w[q]? = some (a, .inr (1, fs))) (hlen : 2 < fs.length) (hw : w.set q (a, .inr (1, fs.set 2 (.int x))) = w2) (kk : J D Γ y cc nL ret R Q k n w2 (pc + 3) lv st) : J D Γ y cc nL ret R Q k n w pc lv (.int x :: .ref a :: st) := by
  obtain ⟨p, e, s, m, args, below, meth, c, A⟩ := Γ
  intro h H locs ls hP hD hS hl
  refine va_put (C := RX1) (T := TX1) (N := 3) (ty := .int) h.1 h.2.1 h.2.2.2.2.2.1 m_us_X1 tyX1 tyX1_ok nmX1 h.2.2.2.2.1 h.2.2.2.2.2.2.2.1 hP hD hS q he rfl 2 (by decide) (by rw [hy]; exact h.2.2.2.2.2.1 _ m_fl_X4_107) (fun _ h9 => h9) rfl (by decide +kernel) rfl rfl hlen hdg (fun H1 locs1 hP hD hS => ?_)
  rw [hw] at hP hD
  exact kk h H1 locs1 ls hP hD hS hl
theorem g_X4_110 (hy : y.cls = RX4) {a : Nat} {fs : List Value} {v : Value} (hdg : decode cc pc = .ok (.getfield 110, 3)) (q : Nat) (he : w[q]? = some (a, .inr (0, fs))) (hv : fs[0]? = some v) (kk : J D Γ y cc nL ret R Q k n w (pc + 3) lv (v :: st)) : J D Γ y cc nL ret R Q k n w pc lv (.ref a :: st) := by
  obtain ⟨p, e, s, m, args, below, meth, c, A⟩ := Γ
  intro h H locs ls hP hD hS hl
  exact va_get (C := RX0) (T := TX0) (N := 7) h.1 h.2.1 h.2.2.2.2.2.1 m_us_X0 h.2.2.2.2.1 h.2.2.2.2.2.2.2.1 hP q he rfl 0 (by decide) (by rw [hy]; exact h.2.2.2.2.2.1 _ m_fl_X4_110) (fun _ h9 => h9) hv hdg (kk h H locs ls hP hD hS hl)
theorem g_X4_140 (hy : y.cls = RX4) {a : Nat} {fs : List Value} {v : Value} (hdg : decode cc pc = .ok (.getfield 140, 3)) (q : Nat) (he : w[q]? = some (a, .inr (0, fs))) (hv : fs[4]? = some v) (kk : J D Γ y cc nL ret R Q k n w (pc + 3) lv (v :: st)) : J D Γ y cc nL ret R Q k n w pc lv (.ref a :: st) := by
  obtain ⟨p, e, s, m, args, below, meth, c, A⟩ := Γ
  intro h H locs ls hP hD hS hl
  exact va_get (C := RX0) (T := TX0) (N := 7) h.1 h.2.1 h.2.2.2.2.2.1 m_us_X0 h.2.2.2.2.1 h.2.2.2.2.2.2.2.1 hP q he rfl 4 (by decide) (by rw [hy]; exact h.2.2.2.2.2.1 _ m_fl_X4_140) (fun _ h9 => h9) hv hdg (kk h H locs ls hP hD hS hl)
theorem p_X4_140 (hy : y.cls = RX4) {a : Nat} {fs : List Value} {x : Int32} {w2 : va_W} (hdg : decode cc pc = .ok (.putfield 140, 3)) (q : Nat) (he : w[q]? = some (a, .inr (0, fs))) (hlen : 4 < fs.length) (hw : w.set q (a, .inr (0, fs.set 4 (.int x))) = w2) (kk : J D Γ y cc nL ret R Q k n w2 (pc + 3) lv st) : J D Γ y cc nL ret R Q k n w pc lv (.int x :: .ref a :: st) := by
  obtain ⟨p, e, s, m, args, below, meth, c, A⟩ := Γ
  intro h H locs ls hP hD hS hl
  refine va_put (C := RX0) (T := TX0) (N := 7) (ty := .int) h.1 h.2.1 h.2.2.2.2.2.1 m_us_X0 tyX0 tyX0_ok nmX0 h.2.2.2.2.1 h.2.2.2.2.2.2.2.1 hP hD hS q he rfl 4 (by decide) (by rw [hy]; exact h.2.2.2.2.2.1 _ m_fl_X4_140) (fun _ h9 => h9) rfl (by decide +kernel) rfl rfl hlen hdg (fun H1 locs1 hP hD hS => ?_)
  rw [hw] at hP hD
  exact kk h H1 locs1 ls hP hD hS hl
theorem g_X4_143 (hy : y.cls = RX4) {a : Nat} {fs : List Value} {v : Value} (hdg : decode cc pc = .ok (.getfield 143, 3)) (q : Nat) (he : w[q]? = some (a, .inr (0, fs))) (hv : fs[3]? = some v) (kk : J D Γ y cc nL ret R Q k n w (pc + 3) lv (v :: st)) : J D Γ y cc nL ret R Q k n w pc lv (.ref a :: st) := by
  obtain ⟨p, e, s, m, args, below, meth, c, A⟩ := Γ
  intro h H locs ls hP hD hS hl
  exact va_get (C := RX0) (T := TX0) (N := 7) h.1 h.2.1 h.2.2.2.2.2.1 m_us_X0 h.2.2.2.2.1 h.2.2.2.2.2.2.2.1 hP q he rfl 3 (by decide) (by rw [hy]; exact h.2.2.2.2.2.1 _ m_fl_X4_143) (fun _ h9 => h9) hv hdg (kk h H locs ls hP hD hS hl)
theorem g_X4_165 (hy : y.cls = RX4) {a : Nat} {fs : List Value} {v : Value} (hdg : decode cc pc = .ok (.getfield 165, 3)) (q : Nat) (he : w[q]? = some (a, .inr (2, fs))) (hv : fs[2]? = some v) (kk : J D Γ y cc nL ret R Q k n w (pc + 3) lv (v :: st)) : J D Γ y cc nL ret R Q k n w pc lv (.ref a :: st) := by
  obtain ⟨p, e, s, m, args, below, meth, c, A⟩ := Γ
  intro h H locs ls hP hD hS hl
  exact va_get (C := RX2) (T := TX2) (N := 3) h.1 h.2.1 h.2.2.2.2.2.1 m_us_X2 h.2.2.2.2.1 h.2.2.2.2.2.2.2.1 hP q he rfl 2 (by decide) (by rw [hy]; exact h.2.2.2.2.2.1 _ m_fl_X4_165) (fun _ h9 => h9) hv hdg (kk h H locs ls hP hD hS hl)
theorem p_X4_165 (hy : y.cls = RX4) {a : Nat} {fs : List Value} {x : Int32} {w2 : va_W} (hdg : decode cc pc = .ok (.putfield 165, 3)) (q : Nat) (he : w[q]? = some (a, .inr (2, fs))) (hlen : 2 < fs.length) (hw : w.set q (a, .inr (2, fs.set 2 (.int x))) = w2) (kk : J D Γ y cc nL ret R Q k n w2 (pc + 3) lv st) : J D Γ y cc nL ret R Q k n w pc lv (.int x :: .ref a :: st) := by
  obtain ⟨p, e, s, m, args, below, meth, c, A⟩ := Γ
  intro h H locs ls hP hD hS hl
  refine va_put (C := RX2) (T := TX2) (N := 3) (ty := .int) h.1 h.2.1 h.2.2.2.2.2.1 m_us_X2 tyX2 tyX2_ok nmX2 h.2.2.2.2.1 h.2.2.2.2.2.2.2.1 hP hD hS q he rfl 2 (by decide) (by rw [hy]; exact h.2.2.2.2.2.1 _ m_fl_X4_165) (fun _ h9 => h9) rfl (by decide +kernel) rfl rfl hlen hdg (fun H1 locs1 hP hD hS => ?_)
  rw [hw] at hP hD
  exact kk h H1 locs1 ls hP hD hS hl
theorem g_X4_180 (hy : y.cls = RX4) {a : Nat} {fs : List Value} {v : Value} (hdg : decode cc pc = .ok (.getfield 180, 3)) (q : Nat) (he : w[q]? = some (a, .inr (0, fs))) (hv : fs[5]? = some v) (kk : J D Γ y cc nL ret R Q k n w (pc + 3) lv (v :: st)) : J D Γ y cc nL ret R Q k n w pc lv (.ref a :: st) := by
  obtain ⟨p, e, s, m, args, below, meth, c, A⟩ := Γ
  intro h H locs ls hP hD hS hl
  exact va_get (C := RX0) (T := TX0) (N := 7) h.1 h.2.1 h.2.2.2.2.2.1 m_us_X0 h.2.2.2.2.1 h.2.2.2.2.2.2.2.1 hP q he rfl 5 (by decide) (by rw [hy]; exact h.2.2.2.2.2.1 _ m_fl_X4_180) (fun _ h9 => h9) hv hdg (kk h H locs ls hP hD hS hl)
theorem p_X4_180 (hy : y.cls = RX4) {a : Nat} {fs : List Value} {x : Int32} {w2 : va_W} (hdg : decode cc pc = .ok (.putfield 180, 3)) (q : Nat) (he : w[q]? = some (a, .inr (0, fs))) (hlen : 5 < fs.length) (hw : w.set q (a, .inr (0, fs.set 5 (.int x))) = w2) (kk : J D Γ y cc nL ret R Q k n w2 (pc + 3) lv st) : J D Γ y cc nL ret R Q k n w pc lv (.int x :: .ref a :: st) := by
  obtain ⟨p, e, s, m, args, below, meth, c, A⟩ := Γ
  intro h H locs ls hP hD hS hl
  refine va_put (C := RX0) (T := TX0) (N := 7) (ty := .int) h.1 h.2.1 h.2.2.2.2.2.1 m_us_X0 tyX0 tyX0_ok nmX0 h.2.2.2.2.1 h.2.2.2.2.2.2.2.1 hP hD hS q he rfl 5 (by decide) (by rw [hy]; exact h.2.2.2.2.2.1 _ m_fl_X4_180) (fun _ h9 => h9) rfl (by decide +kernel) rfl rfl hlen hdg (fun H1 locs1 hP hD hS => ?_)
  rw [hw] at hP hD
  exact kk h H1 locs1 ls hP hD hS hl
theorem g_X4_183 (hy : y.cls = RX4) {a : Nat} {fs : List Value} {v : Value} (hdg : decode cc pc = .ok (.getfield 183, 3)) (q : Nat) (he : w[q]? = some (a, .inr (0, fs))) (hv : fs[6]? = some v) (kk : J D Γ y cc nL ret R Q k n w (pc + 3) lv (v :: st)) : J D Γ y cc nL ret R Q k n w pc lv (.ref a :: st) := by
  obtain ⟨p, e, s, m, args, below, meth, c, A⟩ := Γ
  intro h H locs ls hP hD hS hl
  exact va_get (C := RX0) (T := TX0) (N := 7) h.1 h.2.1 h.2.2.2.2.2.1 m_us_X0 h.2.2.2.2.1 h.2.2.2.2.2.2.2.1 hP q he rfl 6 (by decide) (by rw [hy]; exact h.2.2.2.2.2.1 _ m_fl_X4_183) (fun _ h9 => h9) hv hdg (kk h H locs ls hP hD hS hl)
theorem p_X4_183 (hy : y.cls = RX4) {a : Nat} {fs : List Value} {x : Int32} {w2 : va_W} (hdg : decode cc pc = .ok (.putfield 183, 3)) (q : Nat) (he : w[q]? = some (a, .inr (0, fs))) (hlen : 6 < fs.length) (hw : w.set q (a, .inr (0, fs.set 6 (.int x))) = w2) (kk : J D Γ y cc nL ret R Q k n w2 (pc + 3) lv st) : J D Γ y cc nL ret R Q k n w pc lv (.int x :: .ref a :: st) := by
  obtain ⟨p, e, s, m, args, below, meth, c, A⟩ := Γ
  intro h H locs ls hP hD hS hl
  refine va_put (C := RX0) (T := TX0) (N := 7) (ty := .int) h.1 h.2.1 h.2.2.2.2.2.1 m_us_X0 tyX0 tyX0_ok nmX0 h.2.2.2.2.1 h.2.2.2.2.2.2.2.1 hP hD hS q he rfl 6 (by decide) (by rw [hy]; exact h.2.2.2.2.2.1 _ m_fl_X4_183) (fun _ h9 => h9) rfl (by decide +kernel) rfl rfl hlen hdg (fun H1 locs1 hP hD hS => ?_)
  rw [hw] at hP hD
  exact kk h H1 locs1 ls hP hD hS hl
theorem g_X5_7 (hy : y.cls = RX5) {a : Nat} {fs : List Value} {v : Value} (hdg : decode cc pc = .ok (.getfield 7, 3)) (q : Nat) (he : w[q]? = some (a, .inr (5, fs))) (hv : fs[0]? = some v) (kk : J D Γ y cc nL ret R Q k n w (pc + 3) lv (v :: st)) : J D Γ y cc nL ret R Q k n w pc lv (.ref a :: st) := by
  obtain ⟨p, e, s, m, args, below, meth, c, A⟩ := Γ
  intro h H locs ls hP hD hS hl
  exact va_get (C := RX5) (T := TX5) (N := 17) h.1 h.2.1 h.2.2.2.2.2.1 m_us_X5 h.2.2.2.2.1 h.2.2.2.2.2.2.2.1 hP q he rfl 0 (by decide) (by rw [hy]; exact h.2.2.2.2.2.1 _ m_fl_X5_7) (fun _ h9 => h9) hv hdg (kk h H locs ls hP hD hS hl)
theorem p_X5_7 (hy : y.cls = RX5) (hin : y.name = "<init>") {a : Nat} {fs : List Value} {x : Nat} {w2 : va_W} (hdg : decode cc pc = .ok (.putfield 7, 3)) (q : Nat) (he : w[q]? = some (a, .inr (5, fs))) (hlen : 0 < fs.length) (hw : w.set q (a, .inr (5, fs.set 0 (.ref x))) = w2) (kk : J D Γ y cc nL ret R Q k n w2 (pc + 3) lv st) : J D Γ y cc nL ret R Q k n w pc lv (.ref x :: .ref a :: st) := by
  obtain ⟨p, e, s, m, args, below, meth, c, A⟩ := Γ
  intro h H locs ls hP hD hS hl
  refine va_putF (C := RX5) (T := TX5) (N := 17) (ty := (.array .int)) h.1 h.2.1 h.2.2.2.2.2.1 m_us_X5 tyX5 tyX5_ok nmX5 h.2.2.2.2.1 h.2.2.2.2.2.2.2.1 hP hD hS q he rfl 0 (by decide) (by rw [hy]; exact h.2.2.2.2.2.1 _ m_fl_X5_7) (fun _ h9 => h9) rfl (by rw [h.2.2.2.2.2.2.2.2.2.1]; exact hin) (by rw [hy]; rfl) (by decide +kernel) rfl rfl hlen hdg (fun H1 locs1 hP hD hS => ?_)
  rw [hw] at hP hD
  exact kk h H1 locs1 ls hP hD hS hl
theorem g_X5_13 (hy : y.cls = RX5) {a : Nat} {fs : List Value} {v : Value} (hdg : decode cc pc = .ok (.getfield 13, 3)) (q : Nat) (he : w[q]? = some (a, .inr (5, fs))) (hv : fs[2]? = some v) (kk : J D Γ y cc nL ret R Q k n w (pc + 3) lv (v :: st)) : J D Γ y cc nL ret R Q k n w pc lv (.ref a :: st) := by
  obtain ⟨p, e, s, m, args, below, meth, c, A⟩ := Γ
  intro h H locs ls hP hD hS hl
  exact va_get (C := RX5) (T := TX5) (N := 17) h.1 h.2.1 h.2.2.2.2.2.1 m_us_X5 h.2.2.2.2.1 h.2.2.2.2.2.2.2.1 hP q he rfl 2 (by decide) (by rw [hy]; exact h.2.2.2.2.2.1 _ m_fl_X5_13) (fun _ h9 => h9) hv hdg (kk h H locs ls hP hD hS hl)
theorem p_X5_13 (hy : y.cls = RX5) (hin : y.name = "<init>") {a : Nat} {fs : List Value} {x : Nat} {w2 : va_W} (hdg : decode cc pc = .ok (.putfield 13, 3)) (q : Nat) (he : w[q]? = some (a, .inr (5, fs))) (hlen : 2 < fs.length) (hw : w.set q (a, .inr (5, fs.set 2 (.ref x))) = w2) (kk : J D Γ y cc nL ret R Q k n w2 (pc + 3) lv st) : J D Γ y cc nL ret R Q k n w pc lv (.ref x :: .ref a :: st) := by
  obtain ⟨p, e, s, m, args, below, meth, c, A⟩ := Γ
  intro h H locs ls hP hD hS hl
  refine va_putF (C := RX5) (T := TX5) (N := 17) (ty := (.array .int)) h.1 h.2.1 h.2.2.2.2.2.1 m_us_X5 tyX5 tyX5_ok nmX5 h.2.2.2.2.1 h.2.2.2.2.2.2.2.1 hP hD hS q he rfl 2 (by decide) (by rw [hy]; exact h.2.2.2.2.2.1 _ m_fl_X5_13) (fun _ h9 => h9) rfl (by rw [h.2.2.2.2.2.2.2.2.2.1]; exact hin) (by rw [hy]; rfl) (by decide +kernel) rfl rfl hlen hdg (fun H1 locs1 hP hD hS => ?_)
  rw [hw] at hP hD
  exact kk h H1 locs1 ls hP hD hS hl
theorem g_X5_16 (hy : y.cls = RX5) {a : Nat} {fs : List Value} {v : Value} (hdg : decode cc pc = .ok (.getfield 16, 3)) (q : Nat) (he : w[q]? = some (a, .inr (5, fs))) (hv : fs[3]? = some v) (kk : J D Γ y cc nL ret R Q k n w (pc + 3) lv (v :: st)) : J D Γ y cc nL ret R Q k n w pc lv (.ref a :: st) := by
  obtain ⟨p, e, s, m, args, below, meth, c, A⟩ := Γ
  intro h H locs ls hP hD hS hl
  exact va_get (C := RX5) (T := TX5) (N := 17) h.1 h.2.1 h.2.2.2.2.2.1 m_us_X5 h.2.2.2.2.1 h.2.2.2.2.2.2.2.1 hP q he rfl 3 (by decide) (by rw [hy]; exact h.2.2.2.2.2.1 _ m_fl_X5_16) (fun _ h9 => h9) hv hdg (kk h H locs ls hP hD hS hl)
theorem p_X5_16 (hy : y.cls = RX5) (hin : y.name = "<init>") {a : Nat} {fs : List Value} {x : Nat} {w2 : va_W} (hdg : decode cc pc = .ok (.putfield 16, 3)) (q : Nat) (he : w[q]? = some (a, .inr (5, fs))) (hlen : 3 < fs.length) (hw : w.set q (a, .inr (5, fs.set 3 (.ref x))) = w2) (kk : J D Γ y cc nL ret R Q k n w2 (pc + 3) lv st) : J D Γ y cc nL ret R Q k n w pc lv (.ref x :: .ref a :: st) := by
  obtain ⟨p, e, s, m, args, below, meth, c, A⟩ := Γ
  intro h H locs ls hP hD hS hl
  refine va_putF (C := RX5) (T := TX5) (N := 17) (ty := (.array .boolean)) h.1 h.2.1 h.2.2.2.2.2.1 m_us_X5 tyX5 tyX5_ok nmX5 h.2.2.2.2.1 h.2.2.2.2.2.2.2.1 hP hD hS q he rfl 3 (by decide) (by rw [hy]; exact h.2.2.2.2.2.1 _ m_fl_X5_16) (fun _ h9 => h9) rfl (by rw [h.2.2.2.2.2.2.2.2.2.1]; exact hin) (by rw [hy]; rfl) (by decide +kernel) rfl rfl hlen hdg (fun H1 locs1 hP hD hS => ?_)
  rw [hw] at hP hD
  exact kk h H1 locs1 ls hP hD hS hl
theorem g_X5_20 (hy : y.cls = RX5) {a : Nat} {fs : List Value} {v : Value} (hdg : decode cc pc = .ok (.getfield 20, 3)) (q : Nat) (he : w[q]? = some (a, .inr (5, fs))) (hv : fs[4]? = some v) (kk : J D Γ y cc nL ret R Q k n w (pc + 3) lv (v :: st)) : J D Γ y cc nL ret R Q k n w pc lv (.ref a :: st) := by
  obtain ⟨p, e, s, m, args, below, meth, c, A⟩ := Γ
  intro h H locs ls hP hD hS hl
  exact va_get (C := RX5) (T := TX5) (N := 17) h.1 h.2.1 h.2.2.2.2.2.1 m_us_X5 h.2.2.2.2.1 h.2.2.2.2.2.2.2.1 hP q he rfl 4 (by decide) (by rw [hy]; exact h.2.2.2.2.2.1 _ m_fl_X5_20) (fun _ h9 => h9) hv hdg (kk h H locs ls hP hD hS hl)
theorem p_X5_20 (hy : y.cls = RX5) (hin : y.name = "<init>") {a : Nat} {fs : List Value} {x : Nat} {w2 : va_W} (hdg : decode cc pc = .ok (.putfield 20, 3)) (q : Nat) (he : w[q]? = some (a, .inr (5, fs))) (hlen : 4 < fs.length) (hw : w.set q (a, .inr (5, fs.set 4 (.ref x))) = w2) (kk : J D Γ y cc nL ret R Q k n w2 (pc + 3) lv st) : J D Γ y cc nL ret R Q k n w pc lv (.ref x :: .ref a :: st) := by
  obtain ⟨p, e, s, m, args, below, meth, c, A⟩ := Γ
  intro h H locs ls hP hD hS hl
  refine va_putF (C := RX5) (T := TX5) (N := 17) (ty := (.array .int)) h.1 h.2.1 h.2.2.2.2.2.1 m_us_X5 tyX5 tyX5_ok nmX5 h.2.2.2.2.1 h.2.2.2.2.2.2.2.1 hP hD hS q he rfl 4 (by decide) (by rw [hy]; exact h.2.2.2.2.2.1 _ m_fl_X5_20) (fun _ h9 => h9) rfl (by rw [h.2.2.2.2.2.2.2.2.2.1]; exact hin) (by rw [hy]; rfl) (by decide +kernel) rfl rfl hlen hdg (fun H1 locs1 hP hD hS => ?_)
  rw [hw] at hP hD
  exact kk h H1 locs1 ls hP hD hS hl
theorem g_X5_23 (hy : y.cls = RX5) {a : Nat} {fs : List Value} {v : Value} (hdg : decode cc pc = .ok (.getfield 23, 3)) (q : Nat) (he : w[q]? = some (a, .inr (5, fs))) (hv : fs[5]? = some v) (kk : J D Γ y cc nL ret R Q k n w (pc + 3) lv (v :: st)) : J D Γ y cc nL ret R Q k n w pc lv (.ref a :: st) := by
  obtain ⟨p, e, s, m, args, below, meth, c, A⟩ := Γ
  intro h H locs ls hP hD hS hl
  exact va_get (C := RX5) (T := TX5) (N := 17) h.1 h.2.1 h.2.2.2.2.2.1 m_us_X5 h.2.2.2.2.1 h.2.2.2.2.2.2.2.1 hP q he rfl 5 (by decide) (by rw [hy]; exact h.2.2.2.2.2.1 _ m_fl_X5_23) (fun _ h9 => h9) hv hdg (kk h H locs ls hP hD hS hl)
theorem p_X5_23 (hy : y.cls = RX5) (hin : y.name = "<init>") {a : Nat} {fs : List Value} {x : Nat} {w2 : va_W} (hdg : decode cc pc = .ok (.putfield 23, 3)) (q : Nat) (he : w[q]? = some (a, .inr (5, fs))) (hlen : 5 < fs.length) (hw : w.set q (a, .inr (5, fs.set 5 (.ref x))) = w2) (kk : J D Γ y cc nL ret R Q k n w2 (pc + 3) lv st) : J D Γ y cc nL ret R Q k n w pc lv (.ref x :: .ref a :: st) := by
  obtain ⟨p, e, s, m, args, below, meth, c, A⟩ := Γ
  intro h H locs ls hP hD hS hl
  refine va_putF (C := RX5) (T := TX5) (N := 17) (ty := (.array .int)) h.1 h.2.1 h.2.2.2.2.2.1 m_us_X5 tyX5 tyX5_ok nmX5 h.2.2.2.2.1 h.2.2.2.2.2.2.2.1 hP hD hS q he rfl 5 (by decide) (by rw [hy]; exact h.2.2.2.2.2.1 _ m_fl_X5_23) (fun _ h9 => h9) rfl (by rw [h.2.2.2.2.2.2.2.2.2.1]; exact hin) (by rw [hy]; rfl) (by decide +kernel) rfl rfl hlen hdg (fun H1 locs1 hP hD hS => ?_)
  rw [hw] at hP hD
  exact kk h H1 locs1 ls hP hD hS hl
theorem g_X5_26 (hy : y.cls = RX5) {a : Nat} {fs : List Value} {v : Value} (hdg : decode cc pc = .ok (.getfield 26, 3)) (q : Nat) (he : w[q]? = some (a, .inr (5, fs))) (hv : fs[7]? = some v) (kk : J D Γ y cc nL ret R Q k n w (pc + 3) lv (v :: st)) : J D Γ y cc nL ret R Q k n w pc lv (.ref a :: st) := by
  obtain ⟨p, e, s, m, args, below, meth, c, A⟩ := Γ
  intro h H locs ls hP hD hS hl
  exact va_get (C := RX5) (T := TX5) (N := 17) h.1 h.2.1 h.2.2.2.2.2.1 m_us_X5 h.2.2.2.2.1 h.2.2.2.2.2.2.2.1 hP q he rfl 7 (by decide) (by rw [hy]; exact h.2.2.2.2.2.1 _ m_fl_X5_26) (fun _ h9 => h9) hv hdg (kk h H locs ls hP hD hS hl)
theorem p_X5_26 (hy : y.cls = RX5) (hin : y.name = "<init>") {a : Nat} {fs : List Value} {x : Nat} {w2 : va_W} (hdg : decode cc pc = .ok (.putfield 26, 3)) (q : Nat) (he : w[q]? = some (a, .inr (5, fs))) (hlen : 7 < fs.length) (hw : w.set q (a, .inr (5, fs.set 7 (.ref x))) = w2) (kk : J D Γ y cc nL ret R Q k n w2 (pc + 3) lv st) : J D Γ y cc nL ret R Q k n w pc lv (.ref x :: .ref a :: st) := by
  obtain ⟨p, e, s, m, args, below, meth, c, A⟩ := Γ
  intro h H locs ls hP hD hS hl
  refine va_putF (C := RX5) (T := TX5) (N := 17) (ty := (.array .int)) h.1 h.2.1 h.2.2.2.2.2.1 m_us_X5 tyX5 tyX5_ok nmX5 h.2.2.2.2.1 h.2.2.2.2.2.2.2.1 hP hD hS q he rfl 7 (by decide) (by rw [hy]; exact h.2.2.2.2.2.1 _ m_fl_X5_26) (fun _ h9 => h9) rfl (by rw [h.2.2.2.2.2.2.2.2.2.1]; exact hin) (by rw [hy]; rfl) (by decide +kernel) rfl rfl hlen hdg (fun H1 locs1 hP hD hS => ?_)
  rw [hw] at hP hD
  exact kk h H1 locs1 ls hP hD hS hl
theorem g_X5_29 (hy : y.cls = RX5) {a : Nat} {fs : List Value} {v : Value} (hdg : decode cc pc = .ok (.getfield 29, 3)) (q : Nat) (he : w[q]? = some (a, .inr (5, fs))) (hv : fs[8]? = some v) (kk : J D Γ y cc nL ret R Q k n w (pc + 3) lv (v :: st)) : J D Γ y cc nL ret R Q k n w pc lv (.ref a :: st) := by
  obtain ⟨p, e, s, m, args, below, meth, c, A⟩ := Γ
  intro h H locs ls hP hD hS hl
  exact va_get (C := RX5) (T := TX5) (N := 17) h.1 h.2.1 h.2.2.2.2.2.1 m_us_X5 h.2.2.2.2.1 h.2.2.2.2.2.2.2.1 hP q he rfl 8 (by decide) (by rw [hy]; exact h.2.2.2.2.2.1 _ m_fl_X5_29) (fun _ h9 => h9) hv hdg (kk h H locs ls hP hD hS hl)
theorem p_X5_29 (hy : y.cls = RX5) (hin : y.name = "<init>") {a : Nat} {fs : List Value} {x : Nat} {w2 : va_W} (hdg : decode cc pc = .ok (.putfield 29, 3)) (q : Nat) (he : w[q]? = some (a, .inr (5, fs))) (hlen : 8 < fs.length) (hw : w.set q (a, .inr (5, fs.set 8 (.ref x))) = w2) (kk : J D Γ y cc nL ret R Q k n w2 (pc + 3) lv st) : J D Γ y cc nL ret R Q k n w pc lv (.ref x :: .ref a :: st) := by
  obtain ⟨p, e, s, m, args, below, meth, c, A⟩ := Γ
  intro h H locs ls hP hD hS hl
  refine va_putF (C := RX5) (T := TX5) (N := 17) (ty := (.array .int)) h.1 h.2.1 h.2.2.2.2.2.1 m_us_X5 tyX5 tyX5_ok nmX5 h.2.2.2.2.1 h.2.2.2.2.2.2.2.1 hP hD hS q he rfl 8 (by decide) (by rw [hy]; exact h.2.2.2.2.2.1 _ m_fl_X5_29) (fun _ h9 => h9) rfl (by rw [h.2.2.2.2.2.2.2.2.2.1]; exact hin) (by rw [hy]; rfl) (by decide +kernel) rfl rfl hlen hdg (fun H1 locs1 hP hD hS => ?_)
  rw [hw] at hP hD
  exact kk h H1 locs1 ls hP hD hS hl
theorem g_X5_32 (hy : y.cls = RX5) {a : Nat} {fs : List Value} {v : Value} (hdg : decode cc pc = .ok (.getfield 32, 3)) (q : Nat) (he : w[q]? = some (a, .inr (5, fs))) (hv : fs[10]? = some v) (kk : J D Γ y cc nL ret R Q k n w (pc + 3) lv (v :: st)) : J D Γ y cc nL ret R Q k n w pc lv (.ref a :: st) := by
  obtain ⟨p, e, s, m, args, below, meth, c, A⟩ := Γ
  intro h H locs ls hP hD hS hl
  exact va_get (C := RX5) (T := TX5) (N := 17) h.1 h.2.1 h.2.2.2.2.2.1 m_us_X5 h.2.2.2.2.1 h.2.2.2.2.2.2.2.1 hP q he rfl 10 (by decide) (by rw [hy]; exact h.2.2.2.2.2.1 _ m_fl_X5_32) (fun _ h9 => h9) hv hdg (kk h H locs ls hP hD hS hl)
theorem p_X5_32 (hy : y.cls = RX5) (hin : y.name = "<init>") {a : Nat} {fs : List Value} {x : Nat} {w2 : va_W} (hdg : decode cc pc = .ok (.putfield 32, 3)) (q : Nat) (he : w[q]? = some (a, .inr (5, fs))) (hlen : 10 < fs.length) (hw : w.set q (a, .inr (5, fs.set 10 (.ref x))) = w2) (kk : J D Γ y cc nL ret R Q k n w2 (pc + 3) lv st) : J D Γ y cc nL ret R Q k n w pc lv (.ref x :: .ref a :: st) := by
  obtain ⟨p, e, s, m, args, below, meth, c, A⟩ := Γ
  intro h H locs ls hP hD hS hl
  refine va_putF (C := RX5) (T := TX5) (N := 17) (ty := (.array .int)) h.1 h.2.1 h.2.2.2.2.2.1 m_us_X5 tyX5 tyX5_ok nmX5 h.2.2.2.2.1 h.2.2.2.2.2.2.2.1 hP hD hS q he rfl 10 (by decide) (by rw [hy]; exact h.2.2.2.2.2.1 _ m_fl_X5_32) (fun _ h9 => h9) rfl (by rw [h.2.2.2.2.2.2.2.2.2.1]; exact hin) (by rw [hy]; rfl) (by decide +kernel) rfl rfl hlen hdg (fun H1 locs1 hP hD hS => ?_)
  rw [hw] at hP hD
  exact kk h H1 locs1 ls hP hD hS hl
theorem g_X5_35 (hy : y.cls = RX5) {a : Nat} {fs : List Value} {v : Value} (hdg : decode cc pc = .ok (.getfield 35, 3)) (q : Nat) (he : w[q]? = some (a, .inr (5, fs))) (hv : fs[15]? = some v) (kk : J D Γ y cc nL ret R Q k n w (pc + 3) lv (v :: st)) : J D Γ y cc nL ret R Q k n w pc lv (.ref a :: st) := by
  obtain ⟨p, e, s, m, args, below, meth, c, A⟩ := Γ
  intro h H locs ls hP hD hS hl
  exact va_get (C := RX5) (T := TX5) (N := 17) h.1 h.2.1 h.2.2.2.2.2.1 m_us_X5 h.2.2.2.2.1 h.2.2.2.2.2.2.2.1 hP q he rfl 15 (by decide) (by rw [hy]; exact h.2.2.2.2.2.1 _ m_fl_X5_35) (fun _ h9 => h9) hv hdg (kk h H locs ls hP hD hS hl)
theorem p_X5_35 (hy : y.cls = RX5) (hin : y.name = "<init>") {a : Nat} {fs : List Value} {x : Nat} {w2 : va_W} (hdg : decode cc pc = .ok (.putfield 35, 3)) (q : Nat) (he : w[q]? = some (a, .inr (5, fs))) (hlen : 15 < fs.length) (hw : w.set q (a, .inr (5, fs.set 15 (.ref x))) = w2) (kk : J D Γ y cc nL ret R Q k n w2 (pc + 3) lv st) : J D Γ y cc nL ret R Q k n w pc lv (.ref x :: .ref a :: st) := by
  obtain ⟨p, e, s, m, args, below, meth, c, A⟩ := Γ
  intro h H locs ls hP hD hS hl
  refine va_putF (C := RX5) (T := TX5) (N := 17) (ty := (.array .int)) h.1 h.2.1 h.2.2.2.2.2.1 m_us_X5 tyX5 tyX5_ok nmX5 h.2.2.2.2.1 h.2.2.2.2.2.2.2.1 hP hD hS q he rfl 15 (by decide) (by rw [hy]; exact h.2.2.2.2.2.1 _ m_fl_X5_35) (fun _ h9 => h9) rfl (by rw [h.2.2.2.2.2.2.2.2.2.1]; exact hin) (by rw [hy]; rfl) (by decide +kernel) rfl rfl hlen hdg (fun H1 locs1 hP hD hS => ?_)
  rw [hw] at hP hD
  exact kk h H1 locs1 ls hP hD hS hl
theorem g_X5_42 (hy : y.cls = RX5) {a : Nat} {fs : List Value} {v : Value} (hdg : decode cc pc = .ok (.getfield 42, 3)) (q : Nat) (he : w[q]? = some (a, .inr (5, fs))) (hv : fs[9]? = some v) (kk : J D Γ y cc nL ret R Q k n w (pc + 3) lv (v :: st)) : J D Γ y cc nL ret R Q k n w pc lv (.ref a :: st) := by
  obtain ⟨p, e, s, m, args, below, meth, c, A⟩ := Γ
  intro h H locs ls hP hD hS hl
  exact va_get (C := RX5) (T := TX5) (N := 17) h.1 h.2.1 h.2.2.2.2.2.1 m_us_X5 h.2.2.2.2.1 h.2.2.2.2.2.2.2.1 hP q he rfl 9 (by decide) (by rw [hy]; exact h.2.2.2.2.2.1 _ m_fl_X5_42) (fun _ h9 => h9) hv hdg (kk h H locs ls hP hD hS hl)
theorem p_X5_42 (hy : y.cls = RX5) {a : Nat} {fs : List Value} {x : Int32} {w2 : va_W} (hdg : decode cc pc = .ok (.putfield 42, 3)) (q : Nat) (he : w[q]? = some (a, .inr (5, fs))) (hlen : 9 < fs.length) (hw : w.set q (a, .inr (5, fs.set 9 (.int x))) = w2) (kk : J D Γ y cc nL ret R Q k n w2 (pc + 3) lv st) : J D Γ y cc nL ret R Q k n w pc lv (.int x :: .ref a :: st) := by
  obtain ⟨p, e, s, m, args, below, meth, c, A⟩ := Γ
  intro h H locs ls hP hD hS hl
  refine va_put (C := RX5) (T := TX5) (N := 17) (ty := .int) h.1 h.2.1 h.2.2.2.2.2.1 m_us_X5 tyX5 tyX5_ok nmX5 h.2.2.2.2.1 h.2.2.2.2.2.2.2.1 hP hD hS q he rfl 9 (by decide) (by rw [hy]; exact h.2.2.2.2.2.1 _ m_fl_X5_42) (fun _ h9 => h9) rfl (by decide +kernel) rfl rfl hlen hdg (fun H1 locs1 hP hD hS => ?_)
  rw [hw] at hP hD
  exact kk h H1 locs1 ls hP hD hS hl
theorem g_X5_46 (hy : y.cls = RX5) {a : Nat} {fs : List Value} {v : Value} (hdg : decode cc pc = .ok (.getfield 46, 3)) (q : Nat) (he : w[q]? = some (a, .inr (5, fs))) (hv : fs[11]? = some v) (kk : J D Γ y cc nL ret R Q k n w (pc + 3) lv (v :: st)) : J D Γ y cc nL ret R Q k n w pc lv (.ref a :: st) := by
  obtain ⟨p, e, s, m, args, below, meth, c, A⟩ := Γ
  intro h H locs ls hP hD hS hl
  exact va_get (C := RX5) (T := TX5) (N := 17) h.1 h.2.1 h.2.2.2.2.2.1 m_us_X5 h.2.2.2.2.1 h.2.2.2.2.2.2.2.1 hP q he rfl 11 (by decide) (by rw [hy]; exact h.2.2.2.2.2.1 _ m_fl_X5_46) (fun _ h9 => h9) hv hdg (kk h H locs ls hP hD hS hl)
theorem p_X5_46 (hy : y.cls = RX5) {a : Nat} {fs : List Value} {x : Int32} {w2 : va_W} (hdg : decode cc pc = .ok (.putfield 46, 3)) (q : Nat) (he : w[q]? = some (a, .inr (5, fs))) (hlen : 11 < fs.length) (hw : w.set q (a, .inr (5, fs.set 11 (.int x))) = w2) (kk : J D Γ y cc nL ret R Q k n w2 (pc + 3) lv st) : J D Γ y cc nL ret R Q k n w pc lv (.int x :: .ref a :: st) := by
  obtain ⟨p, e, s, m, args, below, meth, c, A⟩ := Γ
  intro h H locs ls hP hD hS hl
  refine va_put (C := RX5) (T := TX5) (N := 17) (ty := .int) h.1 h.2.1 h.2.2.2.2.2.1 m_us_X5 tyX5 tyX5_ok nmX5 h.2.2.2.2.1 h.2.2.2.2.2.2.2.1 hP hD hS q he rfl 11 (by decide) (by rw [hy]; exact h.2.2.2.2.2.1 _ m_fl_X5_46) (fun _ h9 => h9) rfl (by decide +kernel) rfl rfl hlen hdg (fun H1 locs1 hP hD hS => ?_)
  rw [hw] at hP hD
  exact kk h H1 locs1 ls hP hD hS hl
theorem g_X5_53 (hy : y.cls = RX5) {a : Nat} {fs : List Value} {v : Value} (hdg : decode cc pc = .ok (.getfield 53, 3)) (q : Nat) (he : w[q]? = some (a, .inr (5, fs))) (hv : fs[13]? = some v) (kk : J D Γ y cc nL ret R Q k n w (pc + 3) lv (v :: st)) : J D Γ y cc nL ret R Q k n w pc lv (.ref a :: st) := by
  obtain ⟨p, e, s, m, args, below, meth, c, A⟩ := Γ
  intro h H locs ls hP hD hS hl
  exact va_get (C := RX5) (T := TX5) (N := 17) h.1 h.2.1 h.2.2.2.2.2.1 m_us_X5 h.2.2.2.2.1 h.2.2.2.2.2.2.2.1 hP q he rfl 13 (by decide) (by rw [hy]; exact h.2.2.2.2.2.1 _ m_fl_X5_53) (fun _ h9 => h9) hv hdg (kk h H locs ls hP hD hS hl)
theorem p_X5_53 (hy : y.cls = RX5) {a : Nat} {fs : List Value} {x : Int32} {w2 : va_W} (hdg : decode cc pc = .ok (.putfield 53, 3)) (q : Nat) (he : w[q]? = some (a, .inr (5, fs))) (hlen : 13 < fs.length) (hw : w.set q (a, .inr (5, fs.set 13 (.int x))) = w2) (kk : J D Γ y cc nL ret R Q k n w2 (pc + 3) lv st) : J D Γ y cc nL ret R Q k n w pc lv (.int x :: .ref a :: st) := by
  obtain ⟨p, e, s, m, args, below, meth, c, A⟩ := Γ
  intro h H locs ls hP hD hS hl
  refine va_put (C := RX5) (T := TX5) (N := 17) (ty := .int) h.1 h.2.1 h.2.2.2.2.2.1 m_us_X5 tyX5 tyX5_ok nmX5 h.2.2.2.2.1 h.2.2.2.2.2.2.2.1 hP hD hS q he rfl 13 (by decide) (by rw [hy]; exact h.2.2.2.2.2.1 _ m_fl_X5_53) (fun _ h9 => h9) rfl (by decide +kernel) rfl rfl hlen hdg (fun H1 locs1 hP hD hS => ?_)
  rw [hw] at hP hD
  exact kk h H1 locs1 ls hP hD hS hl
theorem g_X5_56 (hy : y.cls = RX5) {a : Nat} {fs : List Value} {v : Value} (hdg : decode cc pc = .ok (.getfield 56, 3)) (q : Nat) (he : w[q]? = some (a, .inr (5, fs))) (hv : fs[14]? = some v) (kk : J D Γ y cc nL ret R Q k n w (pc + 3) lv (v :: st)) : J D Γ y cc nL ret R Q k n w pc lv (.ref a :: st) := by
  obtain ⟨p, e, s, m, args, below, meth, c, A⟩ := Γ
  intro h H locs ls hP hD hS hl
  exact va_get (C := RX5) (T := TX5) (N := 17) h.1 h.2.1 h.2.2.2.2.2.1 m_us_X5 h.2.2.2.2.1 h.2.2.2.2.2.2.2.1 hP q he rfl 14 (by decide) (by rw [hy]; exact h.2.2.2.2.2.1 _ m_fl_X5_56) (fun _ h9 => h9) hv hdg (kk h H locs ls hP hD hS hl)
theorem p_X5_56 (hy : y.cls = RX5) {a : Nat} {fs : List Value} {x : Int32} {w2 : va_W} (hdg : decode cc pc = .ok (.putfield 56, 3)) (q : Nat) (he : w[q]? = some (a, .inr (5, fs))) (hlen : 14 < fs.length) (hw : w.set q (a, .inr (5, fs.set 14 (.int x))) = w2) (kk : J D Γ y cc nL ret R Q k n w2 (pc + 3) lv st) : J D Γ y cc nL ret R Q k n w pc lv (.int x :: .ref a :: st) := by
  obtain ⟨p, e, s, m, args, below, meth, c, A⟩ := Γ
  intro h H locs ls hP hD hS hl
  refine va_put (C := RX5) (T := TX5) (N := 17) (ty := .int) h.1 h.2.1 h.2.2.2.2.2.1 m_us_X5 tyX5 tyX5_ok nmX5 h.2.2.2.2.1 h.2.2.2.2.2.2.2.1 hP hD hS q he rfl 14 (by decide) (by rw [hy]; exact h.2.2.2.2.2.1 _ m_fl_X5_56) (fun _ h9 => h9) rfl (by decide +kernel) rfl rfl hlen hdg (fun H1 locs1 hP hD hS => ?_)
  rw [hw] at hP hD
  exact kk h H1 locs1 ls hP hD hS hl
theorem g_X5_59 (hy : y.cls = RX5) {a : Nat} {fs : List Value} {v : Value} (hdg : decode cc pc = .ok (.getfield 59, 3)) (q : Nat) (he : w[q]? = some (a, .inr (5, fs))) (hv : fs[12]? = some v) (kk : J D Γ y cc nL ret R Q k n w (pc + 3) lv (v :: st)) : J D Γ y cc nL ret R Q k n w pc lv (.ref a :: st) := by
  obtain ⟨p, e, s, m, args, below, meth, c, A⟩ := Γ
  intro h H locs ls hP hD hS hl
  exact va_get (C := RX5) (T := TX5) (N := 17) h.1 h.2.1 h.2.2.2.2.2.1 m_us_X5 h.2.2.2.2.1 h.2.2.2.2.2.2.2.1 hP q he rfl 12 (by decide) (by rw [hy]; exact h.2.2.2.2.2.1 _ m_fl_X5_59) (fun _ h9 => h9) hv hdg (kk h H locs ls hP hD hS hl)
theorem p_X5_59 (hy : y.cls = RX5) {a : Nat} {fs : List Value} {x : Int32} {w2 : va_W} (hdg : decode cc pc = .ok (.putfield 59, 3)) (q : Nat) (he : w[q]? = some (a, .inr (5, fs))) (hlen : 12 < fs.length) (hw : w.set q (a, .inr (5, fs.set 12 (.int x))) = w2) (kk : J D Γ y cc nL ret R Q k n w2 (pc + 3) lv st) : J D Γ y cc nL ret R Q k n w pc lv (.int x :: .ref a :: st) := by
  obtain ⟨p, e, s, m, args, below, meth, c, A⟩ := Γ
  intro h H locs ls hP hD hS hl
  refine va_put (C := RX5) (T := TX5) (N := 17) (ty := .int) h.1 h.2.1 h.2.2.2.2.2.1 m_us_X5 tyX5 tyX5_ok nmX5 h.2.2.2.2.1 h.2.2.2.2.2.2.2.1 hP hD hS q he rfl 12 (by decide) (by rw [hy]; exact h.2.2.2.2.2.1 _ m_fl_X5_59) (fun _ h9 => h9) rfl (by decide +kernel) rfl rfl hlen hdg (fun H1 locs1 hP hD hS => ?_)
  rw [hw] at hP hD
  exact kk h H1 locs1 ls hP hD hS hl
theorem g_X5_89 (hy : y.cls = RX5) {a : Nat} {fs : List Value} {v : Value} (hdg : decode cc pc = .ok (.getfield 89, 3)) (q : Nat) (he : w[q]? = some (a, .inr (5, fs))) (hv : fs[16]? = some v) (kk : J D Γ y cc nL ret R Q k n w (pc + 3) lv (v :: st)) : J D Γ y cc nL ret R Q k n w pc lv (.ref a :: st) := by
  obtain ⟨p, e, s, m, args, below, meth, c, A⟩ := Γ
  intro h H locs ls hP hD hS hl
  exact va_get (C := RX5) (T := TX5) (N := 17) h.1 h.2.1 h.2.2.2.2.2.1 m_us_X5 h.2.2.2.2.1 h.2.2.2.2.2.2.2.1 hP q he rfl 16 (by decide) (by rw [hy]; exact h.2.2.2.2.2.1 _ m_fl_X5_89) (fun _ h9 => h9) hv hdg (kk h H locs ls hP hD hS hl)
theorem p_X5_89 (hy : y.cls = RX5) {a : Nat} {fs : List Value} {x : Int32} {w2 : va_W} (hdg : decode cc pc = .ok (.putfield 89, 3)) (q : Nat) (he : w[q]? = some (a, .inr (5, fs))) (hlen : 16 < fs.length) (hw : w.set q (a, .inr (5, fs.set 16 (.int x))) = w2) (kk : J D Γ y cc nL ret R Q k n w2 (pc + 3) lv st) : J D Γ y cc nL ret R Q k n w pc lv (.int x :: .ref a :: st) := by
  obtain ⟨p, e, s, m, args, below, meth, c, A⟩ := Γ
  intro h H locs ls hP hD hS hl
  refine va_put (C := RX5) (T := TX5) (N := 17) (ty := .int) h.1 h.2.1 h.2.2.2.2.2.1 m_us_X5 tyX5 tyX5_ok nmX5 h.2.2.2.2.1 h.2.2.2.2.2.2.2.1 hP hD hS q he rfl 16 (by decide) (by rw [hy]; exact h.2.2.2.2.2.1 _ m_fl_X5_89) (fun _ h9 => h9) rfl (by decide +kernel) rfl rfl hlen hdg (fun H1 locs1 hP hD hS => ?_)
  rw [hw] at hP hD
  exact kk h H1 locs1 ls hP hD hS hl
theorem g_X5_98 (hy : y.cls = RX5) {a : Nat} {fs : List Value} {v : Value} (hdg : decode cc pc = .ok (.getfield 98, 3)) (q : Nat) (he : w[q]? = some (a, .inr (5, fs))) (hv : fs[1]? = some v) (kk : J D Γ y cc nL ret R Q k n w (pc + 3) lv (v :: st)) : J D Γ y cc nL ret R Q k n w pc lv (.ref a :: st) := by
  obtain ⟨p, e, s, m, args, below, meth, c, A⟩ := Γ
  intro h H locs ls hP hD hS hl
  exact va_get (C := RX5) (T := TX5) (N := 17) h.1 h.2.1 h.2.2.2.2.2.1 m_us_X5 h.2.2.2.2.1 h.2.2.2.2.2.2.2.1 hP q he rfl 1 (by decide) (by rw [hy]; exact h.2.2.2.2.2.1 _ m_fl_X5_98) (fun _ h9 => h9) hv hdg (kk h H locs ls hP hD hS hl)
theorem p_X5_98 (hy : y.cls = RX5) {a : Nat} {fs : List Value} {x : Int32} {w2 : va_W} (hdg : decode cc pc = .ok (.putfield 98, 3)) (q : Nat) (he : w[q]? = some (a, .inr (5, fs))) (hlen : 1 < fs.length) (hw : w.set q (a, .inr (5, fs.set 1 (.int x))) = w2) (kk : J D Γ y cc nL ret R Q k n w2 (pc + 3) lv st) : J D Γ y cc nL ret R Q k n w pc lv (.int x :: .ref a :: st) := by
  obtain ⟨p, e, s, m, args, below, meth, c, A⟩ := Γ
  intro h H locs ls hP hD hS hl
  refine va_put (C := RX5) (T := TX5) (N := 17) (ty := .int) h.1 h.2.1 h.2.2.2.2.2.1 m_us_X5 tyX5 tyX5_ok nmX5 h.2.2.2.2.1 h.2.2.2.2.2.2.2.1 hP hD hS q he rfl 1 (by decide) (by rw [hy]; exact h.2.2.2.2.2.1 _ m_fl_X5_98) (fun _ h9 => h9) rfl (by decide +kernel) rfl rfl hlen hdg (fun H1 locs1 hP hD hS => ?_)
  rw [hw] at hP hD
  exact kk h H1 locs1 ls hP hD hS hl
theorem g_X5_161 (hy : y.cls = RX5) {a : Nat} {fs : List Value} {v : Value} (hdg : decode cc pc = .ok (.getfield 161, 3)) (q : Nat) (he : w[q]? = some (a, .inr (5, fs))) (hv : fs[6]? = some v) (kk : J D Γ y cc nL ret R Q k n w (pc + 3) lv (v :: st)) : J D Γ y cc nL ret R Q k n w pc lv (.ref a :: st) := by
  obtain ⟨p, e, s, m, args, below, meth, c, A⟩ := Γ
  intro h H locs ls hP hD hS hl
  exact va_get (C := RX5) (T := TX5) (N := 17) h.1 h.2.1 h.2.2.2.2.2.1 m_us_X5 h.2.2.2.2.1 h.2.2.2.2.2.2.2.1 hP q he rfl 6 (by decide) (by rw [hy]; exact h.2.2.2.2.2.1 _ m_fl_X5_161) (fun _ h9 => h9) hv hdg (kk h H locs ls hP hD hS hl)
theorem p_X5_161 (hy : y.cls = RX5) {a : Nat} {fs : List Value} {x : Int32} {w2 : va_W} (hdg : decode cc pc = .ok (.putfield 161, 3)) (q : Nat) (he : w[q]? = some (a, .inr (5, fs))) (hlen : 6 < fs.length) (hw : w.set q (a, .inr (5, fs.set 6 (.int x))) = w2) (kk : J D Γ y cc nL ret R Q k n w2 (pc + 3) lv st) : J D Γ y cc nL ret R Q k n w pc lv (.int x :: .ref a :: st) := by
  obtain ⟨p, e, s, m, args, below, meth, c, A⟩ := Γ
  intro h H locs ls hP hD hS hl
  refine va_put (C := RX5) (T := TX5) (N := 17) (ty := .int) h.1 h.2.1 h.2.2.2.2.2.1 m_us_X5 tyX5 tyX5_ok nmX5 h.2.2.2.2.1 h.2.2.2.2.2.2.2.1 hP hD hS q he rfl 6 (by decide) (by rw [hy]; exact h.2.2.2.2.2.1 _ m_fl_X5_161) (fun _ h9 => h9) rfl (by decide +kernel) rfl rfl hlen hdg (fun H1 locs1 hP hD hS => ?_)
  rw [hw] at hP hD
  exact kk h H1 locs1 ls hP hD hS hl
end RU3
