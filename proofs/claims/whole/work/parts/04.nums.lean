/-! numbers: what a sum, a difference, a multiple is as a whole number; conditions as whole numbers -/
theorem rg_e (a : Int32) : -2147483648 ≤ a.toInt ∧ a.toInt < 2147483648 := ⟨Int32.le_toInt a, Int32.toInt_lt a⟩
theorem bm_e (x : Int) : ∃ t : Int, x.bmod 4294967296 = x + 4294967296 * t := by
  have h : x.bmod 4294967296 = if x % 4294967296 < 2147483648 then x % 4294967296 else x % 4294967296 - 4294967296 := by
    first | rfl | (simp only [Int.bmod_def]; rfl) | (simp [Int.bmod]; done)
  rw [h]
  by_cases g : x % 4294967296 < 2147483648
  · rw [if_pos g]; exact ⟨-(x / 4294967296), by omega⟩
  · rw [if_neg g]; exact ⟨-(x / 4294967296) - 1, by omega⟩
theorem ad_e (a b : Int32) : ∃ t : Int, (a + b).toInt = a.toInt + b.toInt + 4294967296 * t ∧ -2147483648 ≤ (a + b).toInt ∧ (a + b).toInt < 2147483648 := by
  obtain ⟨t, h⟩ := bm_e (a.toInt + b.toInt)
  exact ⟨t, by rw [Int32.toInt_add]; exact h, rg_e _⟩
theorem su_e (a b : Int32) : ∃ t : Int, (a - b).toInt = a.toInt - b.toInt + 4294967296 * t ∧ -2147483648 ≤ (a - b).toInt ∧ (a - b).toInt < 2147483648 := by
  obtain ⟨t, h⟩ := bm_e (a.toInt - b.toInt)
  exact ⟨t, by rw [Int32.toInt_sub]; exact h, rg_e _⟩
theorem mu_e (k : Int) (a b : Int32) (ha : a.toInt = k) : ∃ t : Int, (a * b).toInt = k * b.toInt + 4294967296 * t ∧ -2147483648 ≤ (a * b).toInt ∧ (a * b).toInt < 2147483648 := by
  obtain ⟨t, h⟩ := bm_e (a.toInt * b.toInt)
  exact ⟨t, by rw [Int32.toInt_mul, ← ha]; exact h, rg_e _⟩
theorem ad_o (a b : Int32) : ((a + b).toInt = a.toInt + b.toInt ∨ a.toInt + b.toInt < -2147483648 ∨ 2147483647 < a.toInt + b.toInt) ∧ -2147483648 ≤ (a + b).toInt ∧ (a + b).toInt < 2147483648 := by
  obtain ⟨t, h⟩ := ad_e a b
  omega
theorem su_o (a b : Int32) : ((a - b).toInt = a.toInt - b.toInt ∨ a.toInt - b.toInt < -2147483648 ∨ 2147483647 < a.toInt - b.toInt) ∧ -2147483648 ≤ (a - b).toInt ∧ (a - b).toInt < 2147483648 := by
  obtain ⟨t, h⟩ := su_e a b
  omega
theorem mu_o (k : Int) (a b : Int32) (ha : a.toInt = k) : ((a * b).toInt = k * b.toInt ∨ k * b.toInt < -2147483648 ∨ 2147483647 < k * b.toInt) ∧ -2147483648 ≤ (a * b).toInt ∧ (a * b).toInt < 2147483648 := by
  obtain ⟨t, h⟩ := mu_e k a b ha
  generalize k * b.toInt = z at h ⊢
  omega
theorem mr_o (k : Int) (a b : Int32) (hb : b.toInt = k) : ((a * b).toInt = k * a.toInt ∨ k * a.toInt < -2147483648 ∨ 2147483647 < k * a.toInt) ∧ -2147483648 ≤ (a * b).toInt ∧ (a * b).toInt < 2147483648 := by
  rw [Int32.mul_comm]
  exact mu_o k b a hb
theorem cv_lt {a b : Int32} (h : a < b) : a.toInt < b.toInt := Int32.lt_iff_toInt_lt.mp h
theorem cv_nlt {a b : Int32} (h : ¬ a < b) : b.toInt ≤ a.toInt := Int.not_lt.mp (fun q => h (Int32.lt_iff_toInt_lt.mpr q))
theorem cv_le {a b : Int32} (h : a ≤ b) : a.toInt ≤ b.toInt := Int32.le_iff_toInt_le.mp h
theorem cv_nle {a b : Int32} (h : ¬ a ≤ b) : b.toInt < a.toInt := Int.not_le.mp (fun q => h (Int32.le_iff_toInt_le.mpr q))
theorem cv_eq {a b : Int32} (h : a = b) : a.toInt = b.toInt := by rw [h]
theorem cv_ne {a b : Int32} (h : ¬ a = b) : ¬ a.toInt = b.toInt := fun q => h (Int32.toInt_inj.mp q)
theorem dv_e (k : Int) (x : Int32) {d : Int32} (hd : d.toInt = k) (hk : 0 < k) : 0 ≤ x.toInt → (x / d).toInt = x.toInt / k := by
  intro hx
  have h1 := Int32.toInt_lt x
  rw [Int32.toInt_div, hd]
  have h2 : x.toInt.tdiv k = x.toInt / k := Int.tdiv_eq_ediv_of_nonneg hx
  rw [h2]
  have h3 : 0 ≤ x.toInt / k := Int.ediv_nonneg hx (by omega)
  have h4 : x.toInt / k ≤ x.toInt := Int.ediv_le_self _ hx
  obtain ⟨t, ht⟩ := bm_e (x.toInt / k)
  have h5 : -2147483648 ≤ (x.toInt / k).bmod 4294967296 ∧ (x.toInt / k).bmod 4294967296 < 2147483648 := by
    have := rg_e (x / d)
    rw [Int32.toInt_div, hd, h2] at this
    exact this
  show (x.toInt / k).bmod 4294967296 = _
  omega
theorem rm_e (k : Int) (x : Int32) {d : Int32} (hd : d.toInt = k) (hk : 0 < k) : 0 ≤ x.toInt → (x - x / d * d).toInt = x.toInt % k := by
  intro hx
  have h1 := Int32.toInt_lt x
  have h2 := dv_e k x hd hk hx
  have h3 : 0 ≤ x.toInt % k := Int.emod_nonneg _ (by omega)
  have h4 : x.toInt % k < k := Int.emod_lt_of_pos _ hk
  have h5 := Int.emod_add_mul_ediv x.toInt k
  have h7 := rg_e d
  have h6 : (x / d * d).toInt = k * (x.toInt / k) := by
    obtain ⟨t, ht⟩ := bm_e ((x / d).toInt * d.toInt)
    have h8 := rg_e (x / d * d)
    rw [Int32.toInt_mul] at h8 ⊢
    have h9 : ((x / d).toInt * d.toInt).bmod 4294967296 = (x / d).toInt * d.toInt + 4294967296 * t := ht
    rw [h2, hd, Int.mul_comm (x.toInt / k) k] at h9
    have h10 : ((x / d).toInt * d.toInt).bmod (2 ^ 32) = ((x / d).toInt * d.toInt).bmod 4294967296 := rfl
    have h11 : 0 ≤ k * (x.toInt / k) := Int.mul_nonneg (by omega) (Int.ediv_nonneg hx (by omega))
    rw [h2, hd, Int.mul_comm (x.toInt / k) k] at h10 h8 ⊢
    omega
  obtain ⟨t, ht⟩ := su_e x (x / d * d)
  rw [h6] at ht
  omega
/-- a diamond that leaves one number on the stack -/
theorem jn_w {p : Program} {l : Launch} {e : Env} {R : Room} {s : State} {m : MethodId} {args : Array Value} {below : List Frame} {meth : Method} {c : Code} {H : Heap} {locs : List Loc} {cells slots : Nat} {Q : State → Prop} {ls : Array Slot} {J : Nat} {rest st0 : List Value} {pc0 : Nat} {Wd : Heap → List Loc → Prop} (T : Int32) (hw : Wd H locs)
    (k1 : ∀ (H : Heap) (locs : List Loc), Wd H locs → W p l e R s m args below meth c H locs cells slots Q (F0 m J ls (.int T :: rest)))
    (k2 : (∀ (v : Int32) (H : Heap) (locs : List Loc), T = v → Wd H locs → W p l e R s m args below meth c H locs cells slots Q (F0 m J ls (.int v :: rest))) → W p l e R s m args below meth c H locs cells slots Q (F0 m pc0 ls st0)) : W p l e R s m args below meth c H locs cells slots Q (F0 m pc0 ls st0) := k2 (fun v H locs h hw => by rw [← h]; exact k1 H locs hw)
