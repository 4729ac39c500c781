/-! rows on lN (pasted from kit/laws/BITS), and how many bits a long has -/
theorem wb_tb (n : Nat) : (lN n).toBitVec = BitVec.ofNat 64 n := rfl
theorem wb_inj {a b : Int64} (h : a.toBitVec = b.toBitVec) : a = b := Int64.toBitVec_inj.mp h
theorem wb_tn {n : Nat} (h : n < 2 ^ 64) : (lN n).toBitVec.toNat = n := by rw [wb_tb, BitVec.toNat_ofNat, Nat.mod_eq_of_lt h]
theorem wb_of (x : Int64) : ∃ n, n < 2 ^ 64 ∧ x = lN n := ⟨x.toBitVec.toNat, x.toBitVec.isLt, wb_inj (by rw [wb_tb]; simp)⟩
theorem wb_of32 (x : Int32) : ∃ n, n < 2 ^ 32 ∧ x = nI n := ⟨x.toBitVec.toNat, x.toBitVec.isLt, Int32.toBitVec_inj.mp (by show _ = BitVec.ofNat 32 _; simp)⟩
theorem wb_c : ∀ k, k < 64 → ((nI k).toInt64 &&& 63) = lN k := by decide +kernel
theorem wb_cu : ∀ k, k < 64 → ((nI k).toInt64.toUInt64 &&& Int64.toUInt64 63) = UInt64.ofNat k := by decide +kernel
theorem wb_sm : ∀ k, k < 64 → (BitVec.ofNat 64 k).smod 64 = BitVec.ofNat 64 k := by decide +kernel
theorem wb_pw {a b : Nat} (h : a ≤ b) : 2 ^ b = 2 ^ a * 2 ^ (b - a) := by rw [← Nat.pow_add]; congr 1; omega
theorem wb_lt2 {a b : Nat} (h : a < b) : 2 ^ a < 2 ^ b := Nat.pow_lt_pow_right (by decide) h
theorem wb_mod (n : Nat) : lN n = lN (n % 2 ^ 64) := wb_inj (by rw [wb_tb, wb_tb]; apply BitVec.eq_of_toNat_eq; rw [BitVec.toNat_ofNat, BitVec.toNat_ofNat, Nat.mod_mod])
theorem wb_shr {n k : Nat} (hn : n < 2 ^ 64) (hk : k < 64) : ((lN n).toUInt64 >>> ((nI k).toInt64.toUInt64 &&& Int64.toUInt64 63)).toInt64 = lN (n / 2 ^ k) := by
  rw [wb_cu k hk]
  apply wb_inj
  apply BitVec.eq_of_toNat_eq
  show ((lN n).toUInt64 >>> UInt64.ofNat k).toNat = (BitVec.ofNat 64 _).toNat
  have h1 : (UInt64.ofNat k).toNat = k := by
    show (BitVec.ofNat 64 k).toNat = k
    rw [BitVec.toNat_ofNat, Nat.mod_eq_of_lt (by omega)]
  have h2 : (lN n).toUInt64.toNat = n := wb_tn hn
  rw [UInt64.toNat_shiftRight, h1, h2, Nat.mod_eq_of_lt hk, Nat.shiftRight_eq_div_pow, BitVec.toNat_ofNat, Nat.mod_eq_of_lt (Nat.lt_of_le_of_lt (Nat.div_le_self _ _) hn)]
theorem wb_shl (n : Nat) {k : Nat} (hk : k < 64) : lN n <<< ((nI k).toInt64 &&& 63) = lN (n * 2 ^ k) := by
  rw [wb_c k hk]
  apply wb_inj
  rw [Int64.toBitVec_shiftLeft, wb_tb, wb_tb, wb_tb, wb_sm k hk]
  apply BitVec.eq_of_toNat_eq
  rw [BitVec.shiftLeft_eq', BitVec.toNat_shiftLeft, BitVec.toNat_ofNat, BitVec.toNat_ofNat, BitVec.toNat_ofNat, Nat.mod_eq_of_lt (show k < 2 ^ 64 by omega), Nat.shiftLeft_eq, Nat.mul_mod, Nat.mod_mod, ← Nat.mul_mod]
theorem wb_and {a b : Nat} (ha : a < 2 ^ 64) (hb : b < 2 ^ 64) : lN a &&& lN b = lN (a &&& b) := by
  apply wb_inj
  rw [Int64.toBitVec_and, wb_tb, wb_tb, wb_tb]
  apply BitVec.eq_of_toNat_eq
  rw [BitVec.toNat_and, BitVec.toNat_ofNat, BitVec.toNat_ofNat, BitVec.toNat_ofNat, Nat.mod_eq_of_lt ha, Nat.mod_eq_of_lt hb, Nat.mod_eq_of_lt (Nat.and_lt_two_pow _ hb)]
theorem wb_or {a b : Nat} (ha : a < 2 ^ 64) (hb : b < 2 ^ 64) : lN a ||| lN b = lN (a ||| b) := by
  apply wb_inj
  rw [Int64.toBitVec_or, wb_tb, wb_tb, wb_tb]
  apply BitVec.eq_of_toNat_eq
  rw [BitVec.toNat_or, BitVec.toNat_ofNat, BitVec.toNat_ofNat, BitVec.toNat_ofNat, Nat.mod_eq_of_lt ha, Nat.mod_eq_of_lt hb, Nat.mod_eq_of_lt (Nat.or_lt_two_pow ha hb)]
theorem wb_mask {n k : Nat} (hn : n < 2 ^ 64) (hk : k < 64) : lN n &&& lN (2 ^ k - 1) = lN (n % 2 ^ k) := by
  rw [wb_and hn (by have := wb_lt2 hk; omega), Nat.and_two_pow_sub_one_eq_mod]
theorem wb_a1 {n : Nat} (hn : n < 2 ^ 64) : lN n &&& 1 = lN (n % 2) := wb_mask (k := 1) hn (by decide)
theorem wb_bit {n k : Nat} (hn : n < 2 ^ 64) (hk : k < 64) : ((lN n).toUInt64 >>> ((nI k).toInt64.toUInt64 &&& Int64.toUInt64 63)).toInt64 &&& 1 = lN (n / 2 ^ k % 2) := by
  rw [wb_shr hn hk, wb_a1 (Nat.lt_of_le_of_lt (Nat.div_le_self _ _) hn)]
theorem pc_nd (x y : Nat) : x &&& y = ((x % 256) &&& (y % 256)) + 256 * ((x / 256) &&& (y / 256)) := by
  have h1 : (x &&& y) % 256 = (x % 256) &&& (y % 256) := Nat.and_mod_two_pow (n := 8)
  have h2 : (x &&& y) / 256 = (x / 256) &&& (y / 256) := Nat.and_div_two_pow (n := 8)
  rw [← h1, ← h2]
  omega
def M5 : Nat → Nat
  | 0 => 0
  | k + 1 => 85 + 256 * M5 k
def M3 : Nat → Nat
  | 0 => 0
  | k + 1 => 51 + 256 * M3 k
def MF : Nat → Nat
  | 0 => 0
  | k + 1 => 15 + 256 * MF k
def pf1 (l : Nat) : Nat := l - ((l / 2) &&& 85)
def pf2 (l : Nat) : Nat := (l &&& 51) + ((l / 4) &&& 51)
def pf3 (l : Nat) : Nat := (l + l / 16) &&& 15
def pc8 (l : Nat) : Nat := l % 2 + l / 2 % 2 + l / 4 % 2 + l / 8 % 2 + l / 16 % 2 + l / 32 % 2 + l / 64 % 2 + l / 128 % 2
theorem pf_a1 : ∀ l, l < 256 → ∀ t, t < 2 → (l / 2 + 128 * t) &&& 85 = (l / 2) &&& 85 := by decide +kernel
theorem pf_a2 : ∀ l, l < 256 → ∀ t, t < 4 → (l / 4 + 64 * t) &&& 51 = (l / 4) &&& 51 := by decide +kernel
theorem pf_a3 : ∀ l, l < 69 → ∀ t, t < 5 → (l + l / 16 + 16 * t) &&& 15 = (l + l / 16) &&& 15 := by decide +kernel
theorem pf_b1 : ∀ l, l < 256 → pf1 l < 256 ∧ (l / 2) &&& 85 ≤ l := by decide +kernel
theorem pf_b2 : ∀ l, l < 256 → pf2 (pf1 l) ≤ 68 ∧ pf2 (pf1 l) % 16 ≤ 4 := by decide +kernel
theorem pf_e : ∀ l, l < 256 → pf3 (pf2 (pf1 l)) = pc8 l ∧ pc8 l ≤ 8 := by decide +kernel
def py1 (k n : Nat) : Nat := n - ((n / 2) &&& M5 k)
def py2 (k n : Nat) : Nat := (n &&& M3 k) + ((n / 4) &&& M3 k)
def py3 (k n : Nat) : Nat := (n + n / 16) &&& MF k
theorem py1_s (k n : Nat) : py1 (k + 1) n = pf1 (n % 256) + 256 * py1 k (n / 256) := by
  unfold py1 pf1
  have h1 := pc_nd (n / 2) (M5 (k + 1))
  have e1 : M5 (k + 1) % 256 = 85 := by rw [M5]; omega
  have e2 : M5 (k + 1) / 256 = M5 k := by rw [M5]; omega
  have e3 : n / 2 / 256 = n / 256 / 2 := by omega
  have e4 : n / 2 % 256 = (n % 256) / 2 + 128 * ((n / 256) % 2) := by omega
  rw [e1, e2, e3, e4, pf_a1 (n % 256) (by omega) (n / 256 % 2) (by omega)] at h1
  have h2 : (n / 256 / 2) &&& M5 k ≤ n / 256 / 2 := Nat.and_le_left
  have h3 := (pf_b1 (n % 256) (by omega)).2
  rw [h1]
  omega
theorem py2_s (k n : Nat) : py2 (k + 1) n = pf2 (n % 256) + 256 * py2 k (n / 256) := by
  unfold py2 pf2
  have h1 := pc_nd (n / 4) (M3 (k + 1))
  have h0 := pc_nd n (M3 (k + 1))
  have e1 : M3 (k + 1) % 256 = 51 := by rw [M3]; omega
  have e2 : M3 (k + 1) / 256 = M3 k := by rw [M3]; omega
  have e3 : n / 4 / 256 = n / 256 / 4 := by omega
  have e4 : n / 4 % 256 = (n % 256) / 4 + 64 * ((n / 256) % 4) := by omega
  rw [e1, e2, e3, e4, pf_a2 (n % 256) (by omega) (n / 256 % 4) (by omega)] at h1
  rw [e1, e2] at h0
  rw [h1, h0]
  omega
theorem py3_s (k n : Nat) (h1 : n % 256 ≤ 68) (h2 : n / 256 % 16 ≤ 4) : py3 (k + 1) n = pf3 (n % 256) + 256 * py3 k (n / 256) := by
  unfold py3 pf3
  have h0 := pc_nd (n + n / 16) (MF (k + 1))
  have e1 : MF (k + 1) % 256 = 15 := by rw [MF]; omega
  have e2 : MF (k + 1) / 256 = MF k := by rw [MF]; omega
  have e3 : (n + n / 16) / 256 = n / 256 + n / 256 / 16 := by omega
  have e4 : (n + n / 16) % 256 = n % 256 + n % 256 / 16 + 16 * (n / 256 % 16) := by omega
  rw [e1, e2, e3, e4, pf_a3 (n % 256) (by omega) (n / 256 % 16) (by omega)] at h0
  exact h0
/-- byte by byte how many bits -/
def pP : Nat → Nat → Nat
  | 0, _ => 0
  | k + 1, n => pc8 (n % 256) + 256 * pP k (n / 256)
theorem py_nb (k n : Nat) : py2 k (py1 k n) % 16 ≤ 4 := by
  cases k with
  | zero => unfold py2 M3; simp
  | succ k =>
    have h := pf_b1 (n % 256) (by omega)
    have h2 := pf_b2 (n % 256) (by omega)
    rw [py2_s, py1_s, show (pf1 (n % 256) + 256 * py1 k (n / 256)) % 256 = pf1 (n % 256) by omega]
    omega
theorem py_e : ∀ k n, n < 256 ^ k → py3 k (py2 k (py1 k n)) = pP k n := by
  intro k
  induction k with
  | zero =>
    intro n hn
    have : n = 0 := by simpa using hn
    subst this
    decide
  | succ k ih =>
    intro n hn
    have h := pf_b1 (n % 256) (by omega)
    have h2 := pf_b2 (n % 256) (by omega)
    have g := py_nb k (n / 256)
    have e1 : py2 (k + 1) (py1 (k + 1) n) = pf2 (pf1 (n % 256)) + 256 * py2 k (py1 k (n / 256)) := by
      rw [py2_s, py1_s, show (pf1 (n % 256) + 256 * py1 k (n / 256)) % 256 = pf1 (n % 256) by omega, show (pf1 (n % 256) + 256 * py1 k (n / 256)) / 256 = py1 k (n / 256) by omega]
    rw [e1, py3_s _ _ (by omega) (by omega), show (pf2 (pf1 (n % 256)) + 256 * py2 k (py1 k (n / 256))) % 256 = pf2 (pf1 (n % 256)) by omega, show (pf2 (pf1 (n % 256)) + 256 * py2 k (py1 k (n / 256))) / 256 = py2 k (py1 k (n / 256)) by omega, (pf_e _ (by omega)).1, ih (n / 256) (by rw [Nat.pow_succ] at hn; omega), pP]
/-- the bits of n below place k -/
def pN (n : Nat) : Nat → Nat
  | 0 => 0
  | k + 1 => pN n k + n / 2 ^ k % 2
theorem pN_b (n k : Nat) : pN n (k + 8) = pN n k + pc8 (n / 2 ^ k % 256) := by
  have e : ∀ i, n / 2 ^ (k + i) = n / 2 ^ k / 2 ^ i := fun i => by rw [Nat.pow_add, Nat.div_div_eq_div_mul]
  show pN n k + n / 2 ^ (k + 0) % 2 + n / 2 ^ (k + 1) % 2 + n / 2 ^ (k + 2) % 2 + n / 2 ^ (k + 3) % 2 + n / 2 ^ (k + 4) % 2 + n / 2 ^ (k + 5) % 2 + n / 2 ^ (k + 6) % 2 + n / 2 ^ (k + 7) % 2 = _
  rw [e 0, e 1, e 2, e 3, e 4, e 5, e 6, e 7]
  generalize n / 2 ^ k = m
  generalize pN n k = z
  unfold pc8
  have h0 : m % 256 % 2 = m % 2 := by omega
  have h1 : m % 256 / 2 % 2 = m / 2 % 2 := by omega
  have h2 : m % 256 / 4 % 2 = m / 4 % 2 := by omega
  have h3 : m % 256 / 8 % 2 = m / 8 % 2 := by omega
  have h4 : m % 256 / 16 % 2 = m / 16 % 2 := by omega
  have h5 : m % 256 / 32 % 2 = m / 32 % 2 := by omega
  have h6 : m % 256 / 64 % 2 = m / 64 % 2 := by omega
  have h7 : m % 256 / 128 % 2 = m / 128 % 2 := by omega
  rw [h0, h1, h2, h3, h4, h5, h6, h7]
  simp only [Nat.pow_zero, Nat.div_one, Nat.reducePow, Nat.add_assoc]
theorem pN_8 (n : Nat) : pN n 64 = pc8 (n % 256) + pc8 (n / 256 % 256) + pc8 (n / 65536 % 256) + pc8 (n / 16777216 % 256) + pc8 (n / 4294967296 % 256) + pc8 (n / 1099511627776 % 256) + pc8 (n / 281474976710656 % 256) + pc8 (n / 72057594037927936 % 256) := by
  have h0 := pN_b n 0
  have h1 := pN_b n 8
  have h2 := pN_b n 16
  have h3 := pN_b n 24
  have h4 := pN_b n 32
  have h5 := pN_b n 40
  have h6 := pN_b n 48
  have h7 := pN_b n 56
  simp only [Nat.reducePow, Nat.reduceAdd, Nat.div_one] at h0 h1 h2 h3 h4 h5 h6 h7
  rw [h7, h6, h5, h4, h3, h2, h1, h0, pN, Nat.zero_add]
theorem pP_8 (n : Nat) : pP 8 n = pc8 (n % 256) + 256 * (pc8 (n / 256 % 256) + 256 * (pc8 (n / 65536 % 256) + 256 * (pc8 (n / 16777216 % 256) + 256 * (pc8 (n / 4294967296 % 256) + 256 * (pc8 (n / 1099511627776 % 256) + 256 * (pc8 (n / 281474976710656 % 256) + 256 * pc8 (n / 72057594037927936 % 256))))))) := by
  simp only [pP, Nat.div_div_eq_div_mul, Nat.reduceMul, Nat.mul_zero, Nat.add_zero]
theorem pc_d1 (a B : Nat) (h : a ≤ 8) : (a + 256 * B) / 256 = B := by omega
theorem pc_d2 (a b C : Nat) (h : a ≤ 16) (h2 : b ≤ 16) : (a + 256 * b + 65536 * C) / 65536 = C := by omega
theorem pc_d3 (a b c d E : Nat) (h : a ≤ 32) (h2 : b ≤ 32) (h3 : c ≤ 32) (h4 : d ≤ 32) : (a + 256 * b + 65536 * c + 16777216 * d + 4294967296 * E) / 4294967296 = E := by omega
theorem pc_d4 (a Z : Nat) (h : a ≤ 64) : (a + 256 * Z) % 128 = a := by omega
theorem pc_fin (a b c d e f g h : Nat) (ha : a ≤ 8) (hb : b ≤ 8) (hc : c ≤ 8) (hd : d ≤ 8) (he : e ≤ 8) (hf : f ≤ 8) (hg : g ≤ 8) (hh : h ≤ 8) :
    ∀ y, y = a + 256 * (b + 256 * (c + 256 * (d + 256 * (e + 256 * (f + 256 * (g + 256 * h)))))) → (y + y / 256 + (y + y / 256) / 65536 + (y + y / 256 + (y + y / 256) / 65536) / 4294967296) % 128 = a + b + c + d + e + f + g + h ∧ y ≤ 578721382704613384 := by
  intro y hy
  have e1 : y + y / 256 = (a + b) + 256 * (b + c) + 65536 * ((c + d) + 256 * ((d + e) + 256 * ((e + f) + 256 * ((f + g) + 256 * ((g + h) + 256 * h))))) := by
    rw [hy, pc_d1 _ _ ha]
    clear hy
    omega
  rw [e1, pc_d2 _ _ _ (by clear e1 hy; omega) (by clear e1 hy; omega)]
  have e2 : (a + b) + 256 * (b + c) + 65536 * ((c + d) + 256 * ((d + e) + 256 * ((e + f) + 256 * ((f + g) + 256 * ((g + h) + 256 * h))))) + ((c + d) + 256 * ((d + e) + 256 * ((e + f) + 256 * ((f + g) + 256 * ((g + h) + 256 * h))))) = (a + b + c + d) + 256 * (b + c + d + e) + 65536 * (c + d + e + f) + 16777216 * (d + e + f + g) + 4294967296 * ((e + f + g + h) + 256 * ((f + g + h) + 256 * ((g + h) + 256 * h))) := by
    clear e1 hy
    omega
  rw [e2, pc_d3 _ _ _ _ _ (by clear e1 hy e2; omega) (by clear e1 hy e2; omega) (by clear e1 hy e2; omega) (by clear e1 hy e2; omega)]
  have e3 : (a + b + c + d) + 256 * (b + c + d + e) + 65536 * (c + d + e + f) + 16777216 * (d + e + f + g) + 4294967296 * ((e + f + g + h) + 256 * ((f + g + h) + 256 * ((g + h) + 256 * h))) + ((e + f + g + h) + 256 * ((f + g + h) + 256 * ((g + h) + 256 * h))) = (a + b + c + d + e + f + g + h) + 256 * ((b + c + d + e) + 256 * (c + d + e + f) + 65536 * (d + e + f + g) + 16777216 * ((e + f + g + h) + 256 * ((f + g + h) + 256 * ((g + h) + 256 * h))) + ((f + g + h) + 256 * ((g + h) + 256 * h))) := by
    clear e1 hy e2
    omega
  rw [e3, pc_d4 _ _ (by clear e1 hy e2 e3; omega)]
  refine ⟨rfl, ?_⟩
  rw [hy]
  clear e1 hy e2 e3
  omega
theorem nI_a127 (m : Nat) : nI m &&& 127 = nI (m % 128) := by
  apply Int32.toBitVec_inj.1
  show BitVec.ofNat 32 m &&& BitVec.ofNat 32 127 = BitVec.ofNat 32 (m % 128)
  apply BitVec.eq_of_getLsbD_eq
  intro i hi
  have : m % 128 = m &&& 127 := (Nat.and_two_pow_sub_one_eq_mod m 7).symm
  rw [this]
  simp [hi]
theorem bc_e (n : Nat) (hn : n < 2 ^ 64) : m_J13_bitCount_95d88 (lN n) = nI (pN n 64) ∧ pN n 64 ≤ 64 := by
  have p0 := (pf_e (n % 256) (by omega)).2
  have p1 := (pf_e (n / 256 % 256) (by omega)).2
  have p2 := (pf_e (n / 65536 % 256) (by omega)).2
  have p3 := (pf_e (n / 16777216 % 256) (by omega)).2
  have p4 := (pf_e (n / 4294967296 % 256) (by omega)).2
  have p5 := (pf_e (n / 1099511627776 % 256) (by omega)).2
  have p6 := (pf_e (n / 281474976710656 % 256) (by omega)).2
  have p7 := (pf_e (n / 72057594037927936 % 256) (by omega)).2
  have hy := py_e 8 n (by simpa using hn)
  obtain ⟨hf1, hf2⟩ := pc_fin _ _ _ _ _ _ _ _ p0 p1 p2 p3 p4 p5 p6 p7 (pP 8 n) (pP_8 n)
  have hf3 : pP 8 n + pP 8 n / 256 ≤ 1157442765409226768 := by clear hf1; omega
  have hf4 : pP 8 n + pP 8 n / 256 + (pP 8 n + pP 8 n / 256) / 65536 ≤ 2314885530818453536 := by clear hf1; omega
  have e5 : M5 8 = 6148914691236517205 := by decide +kernel
  have e3 : M3 8 = 3689348814741910323 := by decide +kernel
  have eF : MF 8 = 1085102592571150095 := by decide +kernel
  have l1 : (n / 2) &&& 6148914691236517205 ≤ n / 2 := Nat.and_le_left
  have d1 : py1 8 n = n - ((n / 2) &&& 6148914691236517205) := by unfold py1; rw [e5]
  have d2 : py2 8 (py1 8 n) = ((py1 8 n) &&& 3689348814741910323) + ((py1 8 n / 4) &&& 3689348814741910323) := by unfold py2; rw [e3]
  have l2 : (py1 8 n) &&& 3689348814741910323 ≤ 3689348814741910323 := Nat.and_le_right
  have l3 : (py1 8 n / 4) &&& 3689348814741910323 ≤ 3689348814741910323 := Nat.and_le_right
  have d3 : py3 8 (py2 8 (py1 8 n)) = (py2 8 (py1 8 n) + py2 8 (py1 8 n) / 16) &&& 1085102592571150095 := by unfold py3; rw [eF]
  have h64 : (2 : Nat) ^ 64 = 18446744073709551616 := by decide
  rw [h64] at hn
  have q1 : lN n - (((Int64.toUInt64 (lN n) >>> ((Int32.toInt64 1).toUInt64 &&& Int64.toUInt64 63)).toInt64) &&& 6148914691236517205) = lN (py1 8 n) := by
    have a1 := wb_shr (n := n) (k := 1) (by omega) (by decide)
    rw [show ((Int64.toUInt64 (lN n) >>> ((Int32.toInt64 1).toUInt64 &&& Int64.toUInt64 63)).toInt64) = lN (n / 2) from a1, show (6148914691236517205 : Int64) = lN 6148914691236517205 from rfl, wb_and (by omega) (by decide), lN_sub (by omega), d1]
  have q2 : ((lN (py1 8 n)) &&& 3689348814741910323) + (((Int64.toUInt64 (lN (py1 8 n)) >>> ((Int32.toInt64 2).toUInt64 &&& Int64.toUInt64 63)).toInt64) &&& 3689348814741910323) = lN (py2 8 (py1 8 n)) := by
    have a1 := wb_shr (n := py1 8 n) (k := 2) (by omega) (by decide)
    rw [show ((Int64.toUInt64 (lN (py1 8 n)) >>> ((Int32.toInt64 2).toUInt64 &&& Int64.toUInt64 63)).toInt64) = lN (py1 8 n / 4) from a1, show (3689348814741910323 : Int64) = lN 3689348814741910323 from rfl, wb_and (by omega) (by decide), wb_and (by omega) (by decide), lN_add, d2]
  have q3 : ((lN (py2 8 (py1 8 n))) + ((Int64.toUInt64 (lN (py2 8 (py1 8 n))) >>> ((Int32.toInt64 4).toUInt64 &&& Int64.toUInt64 63)).toInt64)) &&& 1085102592571150095 = lN (pP 8 n) := by
    have a1 := wb_shr (n := py2 8 (py1 8 n)) (k := 4) (by omega) (by decide)
    rw [show ((Int64.toUInt64 (lN (py2 8 (py1 8 n))) >>> ((Int32.toInt64 4).toUInt64 &&& Int64.toUInt64 63)).toInt64) = lN (py2 8 (py1 8 n) / 16) from a1, show (1085102592571150095 : Int64) = lN 1085102592571150095 from rfl, lN_add, wb_and (by omega) (by decide), ← d3, hy]
  have q4 : ∀ y, y < 18446744073709551616 → lN y + ((Int64.toUInt64 (lN y) >>> ((Int32.toInt64 8).toUInt64 &&& Int64.toUInt64 63)).toInt64) = lN (y + y / 256) := by
    intro y hy
    have a1 := wb_shr (n := y) (k := 8) (by omega) (by decide)
    rw [show ((Int64.toUInt64 (lN y) >>> ((Int32.toInt64 8).toUInt64 &&& Int64.toUInt64 63)).toInt64) = lN (y / 256) from a1, lN_add]
  have q5 : ∀ y, y < 18446744073709551616 → lN y + ((Int64.toUInt64 (lN y) >>> ((Int32.toInt64 16).toUInt64 &&& Int64.toUInt64 63)).toInt64) = lN (y + y / 65536) := by
    intro y hy
    have a1 := wb_shr (n := y) (k := 16) (by omega) (by decide)
    rw [show ((Int64.toUInt64 (lN y) >>> ((Int32.toInt64 16).toUInt64 &&& Int64.toUInt64 63)).toInt64) = lN (y / 65536) from a1, lN_add]
  have q6 : ∀ y, y < 18446744073709551616 → lN y + ((Int64.toUInt64 (lN y) >>> ((Int32.toInt64 32).toUInt64 &&& Int64.toUInt64 63)).toInt64) = lN (y + y / 4294967296) := by
    intro y hy
    have a1 := wb_shr (n := y) (k := 32) (by omega) (by decide)
    rw [show ((Int64.toUInt64 (lN y) >>> ((Int32.toInt64 32).toUInt64 &&& Int64.toUInt64 63)).toInt64) = lN (y / 4294967296) from a1, lN_add]
  have hs := pN_8 n
  refine ⟨?_, by clear hf1; omega⟩
  unfold m_J13_bitCount_95d88
  dsimp only
  rw [q1, q2, q3, q4 _ (by clear hf1; omega), q5 _ (by clear hf1; omega), q6 _ (by clear hf1; omega), lN_i, nI_a127, hf1, ← hs]
