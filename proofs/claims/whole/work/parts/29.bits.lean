/-! how many bits: Long's way, and the sum of all -/
def mkM (u : Nat) : Nat → Nat
  | 0 => 0
  | k + 1 => u + 256 * mkM u k
theorem land_256 {x y u v : Nat} (hx : x < 256) (hu : u < 256) : (x + 256 * y) &&& (u + 256 * v) = (x &&& u) + 256 * (y &&& v) := by
  apply Nat.eq_of_testBit_eq
  intro i
  have hxu : (x &&& u) < 2 ^ 8 := Nat.lt_of_le_of_lt Nat.and_le_left hx
  have e1 := Nat.testBit_two_pow_mul_add y (show x < 2 ^ 8 from hx) i
  have e2 := Nat.testBit_two_pow_mul_add v (show u < 2 ^ 8 from hu) i
  have e3 := Nat.testBit_two_pow_mul_add (y &&& v) hxu i
  rw [Nat.testBit_and, show x + 256 * y = 2 ^ 8 * y + x by omega, show u + 256 * v = 2 ^ 8 * v + u by omega, show (x &&& u) + 256 * (y &&& v) = 2 ^ 8 * (y &&& v) + (x &&& u) by omega, e1, e2, e3]
  by_cases h : i < 8
  · simp [h, Nat.testBit_and]
  · simp [h, Nat.testBit_and]
def p1 (d : Nat) : Nat := d - ((d / 2) &&& 85)
def p2 (d : Nat) : Nat := (d &&& 51) + ((d / 4) &&& 51)
def p3 (d : Nat) : Nat := (d + d / 16) &&& 15
def f1 (k a : Nat) : Nat := a - ((a / 2) &&& mkM 85 k)
def f2 (k a : Nat) : Nat := (a &&& mkM 51 k) + ((a / 4) &&& mkM 51 k)
def f3 (k a : Nat) : Nat := (a + a / 16) &&& mkM 15 k
theorem fin1 : ∀ d, d < 256 → ∀ e, e < 2 → ((d / 2 + 128 * e) &&& 85) = ((d / 2) &&& 85) := by decide +kernel
theorem fin2 : ∀ d, d < 256 → ∀ e, e < 4 → ((d / 4 + 64 * e) &&& 51) = ((d / 4) &&& 51) := by decide +kernel
def pcN (a : Nat) : Nat → Nat
  | 0 => 0
  | k + 1 => pcN a k + a / 2 ^ k % 2
theorem fin3 : ∀ d, d < 256 → p1 d < 256 ∧ p2 (p1 d) % 16 ≤ 4 ∧ p2 (p1 d) / 16 ≤ 4 ∧ p3 (p2 (p1 d)) = pcN d 8 := by decide +kernel
theorem f1_s (k d b : Nat) (hd : d < 256) : f1 (k + 1) (d + 256 * b) = p1 d + 256 * f1 k b := by
  unfold f1 p1
  show _ - (_ &&& (85 + 256 * mkM 85 k)) = _
  rw [show (d + 256 * b) / 2 = (d / 2 + 128 * (b % 2)) + 256 * (b / 2) by omega, land_256 (by omega) (by decide), fin1 d hd _ (by omega)]
  have h1 : ((d / 2) &&& 85) ≤ d / 2 := Nat.and_le_left
  have h2 : ((b / 2) &&& mkM 85 k) ≤ b / 2 := Nat.and_le_left
  omega
theorem f2_s (k d b : Nat) (hd : d < 256) : f2 (k + 1) (d + 256 * b) = p2 d + 256 * f2 k b := by
  unfold f2 p2
  show (_ &&& (51 + 256 * mkM 51 k)) + (_ &&& (51 + 256 * mkM 51 k)) = _
  rw [show (d + 256 * b) / 4 = (d / 4 + 64 * (b % 4)) + 256 * (b / 4) by omega, land_256 hd (by decide), land_256 (by omega) (by decide), fin2 d hd _ (by omega)]
  omega
theorem f3_s (k d b : Nat) (h1 : d % 16 ≤ 4) (h2 : d / 16 ≤ 4) (h3 : b % 16 ≤ 4) : f3 (k + 1) (d + 256 * b) = p3 d + 256 * f3 k b := by
  unfold f3 p3
  show (_ &&& (15 + 256 * mkM 15 k)) = _
  rw [show (d + 256 * b) + (d + 256 * b) / 16 = (d + d / 16 + 16 * (b % 16)) + 256 * (b + b / 16) by omega, land_256 (by omega) (by decide)]
  have e : ∀ x, x &&& 15 = x % 16 := fun x => Nat.and_two_pow_sub_one_eq_mod x 4
  rw [e, e]
  omega
/-- the bytes, one behind the other -/
def byF (g : Nat → Nat) : Nat → Nat → Nat
  | 0, _ => 0
  | k + 1, a => g (a % 256) + 256 * byF g k (a / 256)
theorem f123 : ∀ (k a : Nat), a < 256 ^ k → f1 k a = byF p1 k a ∧ f2 k (byF p1 k a) = byF (fun d => p2 (p1 d)) k a ∧ f3 k (byF (fun d => p2 (p1 d)) k a) = byF (fun d => pcN d 8) k a ∧ (byF (fun d => p2 (p1 d)) k a) % 16 ≤ 4
  | 0, a, h => by
    have : a = 0 := by simpa using h
    subst this
    decide
  | k + 1, a, h => by
    have hb : a / 256 < 256 ^ k := by rw [Nat.pow_succ] at h; omega
    obtain ⟨i1, i2, i3, i4⟩ := f123 k (a / 256) hb
    have hd : a % 256 < 256 := Nat.mod_lt _ (by decide)
    obtain ⟨q1, q2, q3, q4⟩ := fin3 _ hd
    have ea : a = a % 256 + 256 * (a / 256) := by omega
    refine ⟨?_, ?_, ?_, ?_⟩
    · rw [ea, f1_s _ _ _ hd, i1]
      show _ = p1 ((a % 256 + 256 * (a / 256)) % 256) + 256 * byF p1 k ((a % 256 + 256 * (a / 256)) / 256)
      rw [← ea]
    · show f2 (k + 1) (p1 (a % 256) + 256 * byF p1 k (a / 256)) = _
      rw [f2_s _ _ _ q1, i2]; rfl
    · show f3 (k + 1) (p2 (p1 (a % 256)) + 256 * byF (fun d => p2 (p1 d)) k (a / 256)) = _
      rw [f3_s _ _ _ q2 q3 i4, i3, q4]; rfl
    · show (p2 (p1 (a % 256)) + 256 * byF (fun d => p2 (p1 d)) k (a / 256)) % 16 ≤ 4
      omega
theorem pcN_le : ∀ (a k : Nat), pcN a k ≤ k
  | a, 0 => Nat.le_refl _
  | a, k + 1 => by have := pcN_le a k; unfold pcN; omega
theorem pcN_split (a i : Nat) : ∀ m, pcN a (i + m) = pcN a i + pcN (a / 2 ^ i) m
  | 0 => rfl
  | m + 1 => by
    show pcN a (i + m) + a / 2 ^ (i + m) % 2 = pcN a i + (pcN (a / 2 ^ i) m + a / 2 ^ i / 2 ^ m % 2)
    rw [pcN_split a i m, Nat.div_div_eq_div_mul, ← Nat.pow_add]
    omega
theorem pcN_8 (a : Nat) : pcN (a % 256) 8 = pcN a 8 := by
  simp only [pcN]
  omega
/-- the sum of the bytes -/
def suF : Nat → Nat → Nat
  | 0, _ => 0
  | k + 1, a => pcN (a % 256) 8 + suF k (a / 256)
theorem suF_pc : ∀ (k a : Nat), suF k a = pcN a (8 * k)
  | 0, _ => rfl
  | k + 1, a => by
    show pcN (a % 256) 8 + suF k (a / 256) = _
    rw [suF_pc k, pcN_8, show 8 * (k + 1) = 8 + 8 * k by omega, pcN_split a 8 (8 * k)]
/-- the last three steps -/
theorem s8_D {qa qb qc ra rb rc rd : Nat} (ha : ra = qa + 256 * rb) (hb : rb = qb + 256 * rc) (hc : rc = qc + 256 * rd) : ra + rb = (qa + qb) + 256 * (qb + qc) + 65536 * (rc + rd) := by omega
theorem s8_4 {v T : Nat} (h : v ≤ 4112) : (v + 65536 * T) / 65536 = T := by omega
theorem s8_5 {v u w S2 S3 T : Nat} (hT : T = u + 65536 * S2) (hS : S2 = w + 65536 * S3) : v + 65536 * T + T = (v + u) + 65536 * (u + w) + 4294967296 * (S2 + S3) := by omega
theorem s8_6 {x y Z : Nat} (hx : x ≤ 8224) (hy : y ≤ 8224) : (x + 65536 * y + 4294967296 * Z) / 4294967296 = Z := by omega
theorem s8_m {a b c d e f g h x y w S2 S3 i j Z : Nat} (hx : x = (a + b + 256 * i) + (c + d + 256 * j)) (hS2 : S2 = (e + f) + 256 * w) (hS3 : S3 = (g + h) + 256 * h) (ha : a ≤ 8) (hb : b ≤ 8) (hc : c ≤ 8) (hd : d ≤ 8) (he : e ≤ 8) (hf : f ≤ 8) (hg : g ≤ 8) (hh : h ≤ 8) : (x + 65536 * y + 4294967296 * Z + (S2 + S3)) % 128 = a + (b + (c + (d + (e + (f + (g + (h + 0))))))) := by omega
theorem s8_l {y : Nat} (h : y < 2 ^ 60) : y + y / 256 < 2 ^ 61 := by omega
theorem s8_l5 {y : Nat} (h : y < 2 ^ 61) : y + y / 65536 < 2 ^ 62 := by omega
theorem s8_g {q r : Nat} (h : q ≤ 8) : (q + 256 * r) / 256 = r := by omega
theorem s8_v {a b c : Nat} (ha : a ≤ 8) (hb : b ≤ 8) (hc : c ≤ 8) : (a + b) + 256 * (b + c) ≤ 4112 := by omega
theorem s8_w {e f g R : Nat} : (e + f) + 256 * (f + g) + 65536 * R = (e + f) + 256 * ((f + g) + 256 * R) := by omega
theorem s8_z {g h : Nat} : (g + 256 * (h + 256 * 0)) + (h + 256 * 0) = (g + h) + 256 * h := by omega
theorem s8_b {q r b : Nat} (hq : q ≤ 8) (hr : r ≤ b) : q + 256 * r ≤ 8 + 256 * b := by omega
theorem sum8 (q0 q1 q2 q3 q4 q5 q6 q7 r1 r2 r3 r4 r5 r6 r7 : Nat) (h0 : q0 ≤ 8) (h1 : q1 ≤ 8) (h2 : q2 ≤ 8) (h3 : q3 ≤ 8) (h4 : q4 ≤ 8) (h5 : q5 ≤ 8) (h6 : q6 ≤ 8) (h7 : q7 ≤ 8) (y y4 y5 : Nat) (e0 : y = q0 + 256 * r1) (e1 : r1 = q1 + 256 * r2) (e2 : r2 = q2 + 256 * r3) (e3 : r3 = q3 + 256 * r4) (e4 : r4 = q4 + 256 * r5) (e5 : r5 = q5 + 256 * r6) (e6 : r6 = q6 + 256 * r7) (e7 : r7 = q7 + 256 * 0) (f4 : y4 = y + y / 256) (f5 : y5 = y4 + y4 / 65536) : (y5 + y5 / 4294967296) % 128 = q0 + (q1 + (q2 + (q3 + (q4 + (q5 + (q6 + (q7 + 0))))))) ∧ y < 2 ^ 60 ∧ y4 < 2 ^ 61 ∧ y5 < 2 ^ 62 := by
  have b7 : r7 ≤ 8 := by rw [e7]; exact h7
  have b6 : r6 ≤ 8 + 256 * 8 := by rw [e6]; exact s8_b h6 b7
  have b5 : r5 ≤ 8 + 256 * (8 + 256 * 8) := by rw [e5]; exact s8_b h5 b6
  have b4 : r4 ≤ 8 + 256 * (8 + 256 * (8 + 256 * 8)) := by rw [e4]; exact s8_b h4 b5
  have b3 : r3 ≤ 8 + 256 * (8 + 256 * (8 + 256 * (8 + 256 * 8))) := by rw [e3]; exact s8_b h3 b4
  have b2 : r2 ≤ 8 + 256 * (8 + 256 * (8 + 256 * (8 + 256 * (8 + 256 * 8)))) := by rw [e2]; exact s8_b h2 b3
  have b1 : r1 ≤ 8 + 256 * (8 + 256 * (8 + 256 * (8 + 256 * (8 + 256 * (8 + 256 * 8))))) := by rw [e1]; exact s8_b h1 b2
  have b0 : y ≤ 8 + 256 * (8 + 256 * (8 + 256 * (8 + 256 * (8 + 256 * (8 + 256 * (8 + 256 * 8)))))) := by rw [e0]; exact s8_b h0 b1
  have ly : y < 2 ^ 60 := Nat.lt_of_le_of_lt b0 (by decide)
  have l4 : y4 < 2 ^ 61 := by rw [f4]; exact s8_l ly
  have l5 : y5 < 2 ^ 62 := by rw [f5]; exact s8_l5 l4
  refine ⟨?_, ly, l4, l5⟩
  have g0 : y / 256 = r1 := by rw [e0]; exact s8_g h0
  have D0 := s8_D e0 e1 e2
  have D2 := s8_D e2 e3 e4
  have D4 := s8_D e4 e5 e6
  rw [g0, D0] at f4
  rw [f4, s8_4 (s8_v h0 h1 h2), s8_5 D2 D4] at f5
  rw [f5, s8_6 (Nat.add_le_add (s8_v h0 h1 h2) (s8_v h2 h3 h4)) (Nat.add_le_add (s8_v h2 h3 h4) (s8_v h4 h5 h6))]
  refine s8_m (i := q1 + q2) (j := q3 + q4) (w := (q5 + q6) + 256 * (r6 + r7)) ?_ ?_ ?_ h0 h1 h2 h3 h4 h5 h6 h7
  · rfl
  · rw [D4]; exact s8_w
  · rw [e6, e7]; exact s8_z
/-! over longs (the family wb_ of kit/laws/BITS.to-paste) -/
theorem wb_tb (n : Nat) : (lN n).toBitVec = BitVec.ofNat 64 n := rfl
theorem wb_inj {a b : Int64} (h : a.toBitVec = b.toBitVec) : a = b := Int64.toBitVec_inj.mp h
theorem wb_tn {n : Nat} (h : n < 2 ^ 64) : (lN n).toBitVec.toNat = n := by rw [wb_tb, BitVec.toNat_ofNat, Nat.mod_eq_of_lt h]
theorem wb_of (x : Int64) : ∃ n, n < 2 ^ 64 ∧ x = lN n := ⟨x.toBitVec.toNat, x.toBitVec.isLt, wb_inj (by rw [wb_tb]; simp)⟩
theorem wb_of32 (x : Int32) : ∃ n, n < 2 ^ 32 ∧ x = nI n := ⟨x.toBitVec.toNat, x.toBitVec.isLt, Int32.toBitVec_inj.mp (by show _ = BitVec.ofNat 32 _; simp)⟩
theorem wb_c : ∀ k, k < 64 → ((nI k).toInt64 &&& 63) = lN k := by decide +kernel
theorem wb_cu : ∀ k, k < 64 → ((nI k).toInt64.toUInt64 &&& Int64.toUInt64 63) = UInt64.ofNat k := by decide +kernel
theorem wb_sm : ∀ k, k < 64 → (BitVec.ofNat 64 k).smod 64 = BitVec.ofNat 64 k := by decide +kernel
theorem wb_pw {a b : Nat} (h : a ≤ b) : 2 ^ b = 2 ^ a * 2 ^ (b - a) := by rw [← Nat.pow_add]; congr 1; omega
theorem wb_lt2 {a b : Nat} (h : a < b) : 2 ^ a < 2 ^ b := Nat.pow_lt_pow_right (by decide) h
theorem wb_mod (n : Nat) : lN n = lN (n % 2 ^ 64) := wb_inj (by rw [wb_tb, wb_tb]; apply BitVec.eq_of_toNat_eq; rw [BitVec.toNat_ofNat, BitVec.toNat_ofNat, Nat.mod_mod])
theorem wb_shr {n k : Nat} (hn : n < 2 ^ 64) (hk : k < 64) : ((lN n).toUInt64 >>> ((nI k).toInt64.toUInt64 &&& Int64.toUInt64 63)).toInt64 = lN (n / 2 ^ k) := by
  rw [wb_cu k hk]
  apply wb_inj
  apply BitVec.eq_of_toNat_eq
  show ((lN n).toUInt64 >>> UInt64.ofNat k).toNat = (BitVec.ofNat 64 _).toNat
  have h1 : (UInt64.ofNat k).toNat = k := by
    show (BitVec.ofNat 64 k).toNat = k
    rw [BitVec.toNat_ofNat, Nat.mod_eq_of_lt (by omega)]
  have h2 : (lN n).toUInt64.toNat = n := wb_tn hn
  rw [UInt64.toNat_shiftRight, h1, h2, Nat.mod_eq_of_lt hk, Nat.shiftRight_eq_div_pow, BitVec.toNat_ofNat, Nat.mod_eq_of_lt (Nat.lt_of_le_of_lt (Nat.div_le_self _ _) hn)]
theorem wb_shl (n : Nat) {k : Nat} (hk : k < 64) : lN n <<< ((nI k).toInt64 &&& 63) = lN (n * 2 ^ k) := by
  rw [wb_c k hk]
  apply wb_inj
  rw [Int64.toBitVec_shiftLeft, wb_tb, wb_tb, wb_tb, wb_sm k hk]
  apply BitVec.eq_of_toNat_eq
  rw [BitVec.shiftLeft_eq', BitVec.toNat_shiftLeft, BitVec.toNat_ofNat, BitVec.toNat_ofNat, BitVec.toNat_ofNat, Nat.mod_eq_of_lt (show k < 2 ^ 64 by omega), Nat.shiftLeft_eq, Nat.mul_mod, Nat.mod_mod, ← Nat.mul_mod]
theorem wb_and {a b : Nat} (ha : a < 2 ^ 64) (hb : b < 2 ^ 64) : lN a &&& lN b = lN (a &&& b) := by
  apply wb_inj
  rw [Int64.toBitVec_and, wb_tb, wb_tb, wb_tb]
  apply BitVec.eq_of_toNat_eq
  rw [BitVec.toNat_and, BitVec.toNat_ofNat, BitVec.toNat_ofNat, BitVec.toNat_ofNat, Nat.mod_eq_of_lt ha, Nat.mod_eq_of_lt hb, Nat.mod_eq_of_lt (Nat.and_lt_two_pow _ hb)]
theorem wb_or {a b : Nat} (ha : a < 2 ^ 64) (hb : b < 2 ^ 64) : lN a ||| lN b = lN (a ||| b) := by
  apply wb_inj
  rw [Int64.toBitVec_or, wb_tb, wb_tb, wb_tb]
  apply BitVec.eq_of_toNat_eq
  rw [BitVec.toNat_or, BitVec.toNat_ofNat, BitVec.toNat_ofNat, BitVec.toNat_ofNat, Nat.mod_eq_of_lt ha, Nat.mod_eq_of_lt hb, Nat.mod_eq_of_lt (Nat.or_lt_two_pow ha hb)]
theorem wb_mask {n k : Nat} (hn : n < 2 ^ 64) (hk : k < 64) : lN n &&& lN (2 ^ k - 1) = lN (n % 2 ^ k) := by
  rw [wb_and hn (by have := wb_lt2 hk; omega), Nat.and_two_pow_sub_one_eq_mod]
theorem wb_a1 {n : Nat} (hn : n < 2 ^ 64) : lN n &&& 1 = lN (n % 2) := wb_mask (k := 1) hn (by decide)
theorem wb_bit {n k : Nat} (hn : n < 2 ^ 64) (hk : k < 64) : ((lN n).toUInt64 >>> ((nI k).toInt64.toUInt64 &&& Int64.toUInt64 63)).toInt64 &&& 1 = lN (n / 2 ^ k % 2) := by
  rw [wb_shr hn hk, wb_a1 (Nat.lt_of_le_of_lt (Nat.div_le_self _ _) hn)]
theorem bl_and (a b : Nat) : lN a &&& lN b = lN (a &&& b) := wb_inj (by
  rw [Int64.toBitVec_and, wb_tb, wb_tb, wb_tb]
  apply BitVec.eq_of_toNat_eq
  rw [BitVec.toNat_and, BitVec.toNat_ofNat, BitVec.toNat_ofNat, BitVec.toNat_ofNat, Nat.and_mod_two_pow])
def usr (x : Int64) (k : Nat) : Int64 := (x.toUInt64 >>> ((nI k).toInt64.toUInt64 &&& Int64.toUInt64 63)).toInt64
def bcF (x : Int64) : Int32 :=
  let x1 := x - (usr x 1 &&& 6148914691236517205)
  let x2 := (x1 &&& 3689348814741910323) + (usr x1 2 &&& 3689348814741910323)
  let x3 := (x2 + usr x2 4) &&& 1085102592571150095
  let x4 := x3 + usr x3 8
  let x5 := x4 + usr x4 16
  let x6 := x5 + usr x5 32
  x6.toInt32 &&& nI 127
theorem usr_N {a k : Nat} (ha : a < 2 ^ 64) (hk : k < 64) : usr (lN a) k = lN (a / 2 ^ k) := wb_shr ha hk
theorem byF_lt {g : Nat → Nat} (hg : ∀ d, d < 256 → g d < 256) : ∀ k a, byF g k a < 256 ^ k
  | 0, a => by show 0 < 1; decide
  | k + 1, a => by
    have h1 := hg (a % 256) (Nat.mod_lt _ (by decide))
    have h2 := byF_lt hg k (a / 256)
    show g (a % 256) + 256 * byF g k (a / 256) < _
    rw [Nat.pow_succ]; omega
theorem and127 (z : Nat) : nI z &&& nI 127 = nI (z % 128) := by
  rw [pk_and (nI z) 7 (by decide)]
  congr 1
  show (BitVec.ofNat 32 z).toNat % 2 ^ 7 = _
  rw [BitVec.toNat_ofNat]
  omega
theorem bc_N {a : Nat} (ha : a < 2 ^ 64) : bcF (lN a) = nI (pcN a 64) := by
  obtain ⟨h1, h2, h3, -⟩ := f123 8 a ha
  have l1 : byF p1 8 a < 2 ^ 64 := byF_lt (fun d hd => (fin3 d hd).1) 8 a
  have l2 : byF (fun d => p2 (p1 d)) 8 a < 2 ^ 64 := byF_lt (fun d hd => by have := fin3 d hd; omega) 8 a
  have m1 : (6148914691236517205 : Int64) = lN (mkM 85 8) := by decide +kernel
  have m2 : (3689348814741910323 : Int64) = lN (mkM 51 8) := by decide +kernel
  have m3 : (1085102592571150095 : Int64) = lN (mkM 15 8) := by decide +kernel
  have q : ∀ x, pcN (x % 256) 8 ≤ 8 := fun x => pcN_le _ _
  obtain ⟨s1, s2, s3, s4⟩ := sum8 _ _ _ _ _ _ _ _ _ _ _ _ _ _ _ (q a) (q (a / 256)) (q (a / 256 / 256)) (q (a / 256 / 256 / 256)) (q (a / 256 / 256 / 256 / 256)) (q (a / 256 / 256 / 256 / 256 / 256)) (q (a / 256 / 256 / 256 / 256 / 256 / 256)) (q (a / 256 / 256 / 256 / 256 / 256 / 256 / 256)) (byF (fun d => pcN d 8) 8 a) _ _ rfl rfl rfl rfl rfl rfl rfl rfl rfl rfl
  generalize hb3 : byF (fun d => pcN d 8) 8 a = b3 at h3 s1 s2 s3 s4
  unfold bcF
  rw [m1, m2, m3]
  have x1 : lN a - (usr (lN a) 1 &&& lN (mkM 85 8)) = lN (byF p1 8 a) := by
    rw [usr_N ha (by decide), bl_and, ← h1]
    exact lN_sub (Nat.le_trans Nat.and_le_left (Nat.div_le_self _ _))
  have x2 : (lN (byF p1 8 a) &&& lN (mkM 51 8)) + (usr (lN (byF p1 8 a)) 2 &&& lN (mkM 51 8)) = lN (byF (fun d => p2 (p1 d)) 8 a) := by
    rw [usr_N l1 (by decide), bl_and, bl_and, lN_add, ← h2]; rfl
  have x3 : (lN (byF (fun d => p2 (p1 d)) 8 a) + usr (lN (byF (fun d => p2 (p1 d)) 8 a)) 4) &&& lN (mkM 15 8) = lN b3 := by
    rw [usr_N l2 (by decide), lN_add, bl_and, ← h3]; rfl
  have x4 : lN b3 + usr (lN b3) 8 = lN (b3 + b3 / 256) := by rw [usr_N (by omega) (by decide), lN_add]
  have x5 : lN (b3 + b3 / 256) + usr (lN (b3 + b3 / 256)) 16 = lN ((b3 + b3 / 256) + (b3 + b3 / 256) / 65536) := by rw [usr_N (by omega) (by decide), lN_add]
  generalize hb5 : (b3 + b3 / 256) + (b3 + b3 / 256) / 65536 = b5 at s1 s4 x5
  have x6 : lN b5 + usr (lN b5) 32 = lN (b5 + b5 / 4294967296) := by rw [usr_N (by omega) (by decide), lN_add]
  simp only [x1, x2, x3, x4, x5, x6]
  rw [lN_i, and127, s1]
  congr 1
  exact suF_pc 8 a
theorem bl_bit {a k : Nat} (hk : k < 64) : ((lN a >>> ((nI k).toInt64 &&& 63)) &&& 1) = lN (a / 2 ^ k % 2) := by
  rw [wb_c k hk]
  apply wb_inj
  rw [Int64.toBitVec_and, Int64.toBitVec_shiftRight, wb_tb, wb_tb, wb_tb, wb_sm k hk]
  apply BitVec.eq_of_getLsbD_eq
  intro i hi
  have ek : (BitVec.ofNat 64 k).toNat = k := by rw [BitVec.toNat_ofNat, Nat.mod_eq_of_lt (by omega)]
  rw [BitVec.getLsbD_and, BitVec.sshiftRight_eq', ek, BitVec.getLsbD_sshiftRight, BitVec.getLsbD_ofNat]
  by_cases h0 : i = 0
  · subst h0
    simp [hk, BitVec.getLsbD_ofNat, Nat.testBit_eq_decide_div_mod_eq]
    rcases Nat.mod_two_eq_zero_or_one (a / 2 ^ k) with h | h <;> rw [h] <;> rfl
  · have e1 : (1 : Int64).toBitVec.getLsbD i = false := by
      show (1#64).getLsbD i = false
      simp [BitVec.getLsbD_one, h0]
    have e2 : (a / 2 ^ k % 2).testBit i = false := by
      apply Nat.testBit_lt_two_pow
      have : 2 ^ 1 ≤ 2 ^ i := Nat.pow_le_pow_right (by decide) (by omega)
      omega
    rw [e1, BitVec.getLsbD_ofNat, e2]; simp
