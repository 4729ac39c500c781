/-! numbers: what a sum, a difference, a multiple is as a whole number; conditions as whole numbers -/
theorem rg_e (a : Int32) : -2147483648 ≤ a.toInt ∧ a.toInt < 2147483648 := ⟨Int32.le_toInt a, Int32.toInt_lt a⟩
theorem bm_e (x : Int) : ∃ t : Int, x.bmod 4294967296 = x + 4294967296 * t := by
  have h : x.bmod 4294967296 = if x % 4294967296 < 2147483648 then x % 4294967296 else x % 4294967296 - 4294967296 := by
    first | rfl | (simp only [Int.bmod_def]; rfl) | (simp [Int.bmod]; done)
  rw [h]
  by_cases g : x % 4294967296 < 2147483648
  · rw [if_pos g]; exact ⟨-(x / 4294967296), by omega⟩
  · rw [if_neg g]; exact ⟨-(x / 4294967296) - 1, by omega⟩
theorem ad_e (a b : Int32) : ∃ t : Int, (a + b).toInt = a.toInt + b.toInt + 4294967296 * t ∧ -2147483648 ≤ (a + b).toInt ∧ (a + b).toInt < 2147483648 := by
  obtain ⟨t, h⟩ := bm_e (a.toInt + b.toInt)
  exact ⟨t, by rw [Int32.toInt_add]; exact h, rg_e _⟩
theorem su_e (a b : Int32) : ∃ t : Int, (a - b).toInt = a.toInt - b.toInt + 4294967296 * t ∧ -2147483648 ≤ (a - b).toInt ∧ (a - b).toInt < 2147483648 := by
  obtain ⟨t, h⟩ := bm_e (a.toInt - b.toInt)
  exact ⟨t, by rw [Int32.toInt_sub]; exact h, rg_e _⟩
theorem mu_e (k : Int) (a b : Int32) (ha : a.toInt = k) : ∃ t : Int, (a * b).toInt = k * b.toInt + 4294967296 * t ∧ -2147483648 ≤ (a * b).toInt ∧ (a * b).toInt < 2147483648 := by
  obtain ⟨t, h⟩ := bm_e (a.toInt * b.toInt)
  exact ⟨t, by rw [Int32.toInt_mul, ← ha]; exact h, rg_e _⟩
theorem cv_lt {a b : Int32} (h : a < b) : a.toInt < b.toInt := Int32.lt_iff_toInt_lt.mp h
theorem cv_nlt {a b : Int32} (h : ¬ a < b) : b.toInt ≤ a.toInt := Int.not_lt.mp (fun q => h (Int32.lt_iff_toInt_lt.mpr q))
theorem cv_le {a b : Int32} (h : a ≤ b) : a.toInt ≤ b.toInt := Int32.le_iff_toInt_le.mp h
theorem cv_nle {a b : Int32} (h : ¬ a ≤ b) : b.toInt < a.toInt := Int.not_le.mp (fun q => h (Int32.le_iff_toInt_le.mpr q))
theorem cv_eq {a b : Int32} (h : a = b) : a.toInt = b.toInt := by rw [h]
theorem cv_ne {a b : Int32} (h : ¬ a = b) : ¬ a.toInt = b.toInt := fun q => h (Int32.toInt_inj.mp q)
/-- a diamond that leaves one number on the stack -/
theorem jn_i {p : Program} {l : Launch} {e : Env} {R : Room} {s : State} {m : MethodId} {args : Array Value} {below : List Frame} {meth : Method} {c : Code} {H : Heap} {locs : List Loc} {cells slots : Nat} {Q : State → Prop} {ls : Array Slot} {J : Nat} {rest : List Value} {g : JFrame} (T : Int32)
    (k1 : W p l e R s m args below meth c H locs cells slots Q (F0 m J ls (.int T :: rest))) (k2 : W p l e R s m args below meth c H locs cells slots Q (F0 m J ls (.int T :: rest)) → W p l e R s m args below meth c H locs cells slots Q g) : W p l e R s m args below meth c H locs cells slots Q g := k2 k1
