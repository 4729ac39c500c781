/-! the calendar: the office's closed form and the reference's loops give the same days -/
def Bz (r : Int) : Int := if r = 0 then 0 else if r = 1 then 31 else if r = 2 then 59 else if r = 3 then 90 else if r = 4 then 120 else if r = 5 then 151 else if r = 6 then 181 else if r = 7 then 212 else if r = 8 then 243 else if r = 9 then 273 else if r = 10 then 304 else 334
def Lz (y : Int) : Int := y / 4 - y / 100 + y / 400 - 460
def Fz (z : Int) : Int := 365 * (z / 12) + Bz (z % 12) + (if z % 12 < 2 then Lz (1899 + z / 12) else Lz (1900 + z / 12))
def Mz (r y : Int) : Int := if r = 1 then (if y % 4 = 0 ∧ (y % 100 ≠ 0 ∨ y % 400 = 0) then 29 else 28) else if r = 3 then 30 else if r = 5 then 30 else if r = 8 then 30 else if r = 10 then 30 else 31
def Iz (z : Int) : Int := Mz (z % 12) (1900 + z / 12)
theorem Lz_s (y : Int) : Lz (1900 + y) = Lz (1899 + y) + (if (1900 + y) % 4 = 0 ∧ ((1900 + y) % 100 ≠ 0 ∨ (1900 + y) % 400 = 0) then 1 else 0) := by
  unfold Lz
  by_cases h : (1900 + y) % 4 = 0 ∧ ((1900 + y) % 100 ≠ 0 ∨ (1900 + y) % 400 = 0)
  · rw [if_pos h]; omega
  · rw [if_neg h]; omega
theorem Fz_y (y r : Int) (h1 : 0 ≤ r) (h2 : r < 12) : Fz (12 * y + r) = 365 * y + Bz r + (if r < 2 then Lz (1899 + y) else Lz (1900 + y)) := by
  unfold Fz
  rw [show (12 * y + r) / 12 = y by omega, show (12 * y + r) % 12 = r by omega]
theorem Iz_y (y r : Int) (h1 : 0 ≤ r) (h2 : r < 12) : Iz (12 * y + r) = Mz r (1900 + y) := by
  unfold Iz
  rw [show (12 * y + r) / 12 = y by omega, show (12 * y + r) % 12 = r by omega]
theorem Fz_s (z : Int) : Fz (z + 1) = Fz z + Iz z := by
  obtain ⟨y, r, h1, h2, rfl⟩ : ∃ y r : Int, 0 ≤ r ∧ r < 12 ∧ z = 12 * y + r := ⟨z / 12, z % 12, by omega, by omega, by omega⟩
  have hL := Lz_s y
  rw [Fz_y y r h1 h2, Iz_y y r h1 h2]
  have hr : r = 0 ∨ r = 1 ∨ r = 2 ∨ r = 3 ∨ r = 4 ∨ r = 5 ∨ r = 6 ∨ r = 7 ∨ r = 8 ∨ r = 9 ∨ r = 10 ∨ r = 11 := by omega
  rcases hr with rfl | rfl | rfl | rfl | rfl | rfl | rfl | rfl | rfl | rfl | rfl | rfl
  · rw [Int.add_assoc, Fz_y y (0 + 1) (by decide) (by decide)]; simp [Bz, Mz]; omega
  · rw [Int.add_assoc, Fz_y y (1 + 1) (by decide) (by decide)]; simp [Bz, Mz]; rw [hL]; split <;> omega
  · rw [Int.add_assoc, Fz_y y (2 + 1) (by decide) (by decide)]; simp [Bz, Mz]; omega
  · rw [Int.add_assoc, Fz_y y (3 + 1) (by decide) (by decide)]; simp [Bz, Mz]; omega
  · rw [Int.add_assoc, Fz_y y (4 + 1) (by decide) (by decide)]; simp [Bz, Mz]; omega
  · rw [Int.add_assoc, Fz_y y (5 + 1) (by decide) (by decide)]; simp [Bz, Mz]; omega
  · rw [Int.add_assoc, Fz_y y (6 + 1) (by decide) (by decide)]; simp [Bz, Mz]; omega
  · rw [Int.add_assoc, Fz_y y (7 + 1) (by decide) (by decide)]; simp [Bz, Mz]; omega
  · rw [Int.add_assoc, Fz_y y (8 + 1) (by decide) (by decide)]; simp [Bz, Mz]; omega
  · rw [Int.add_assoc, Fz_y y (9 + 1) (by decide) (by decide)]; simp [Bz, Mz]; omega
  · rw [Int.add_assoc, Fz_y y (10 + 1) (by decide) (by decide)]; simp [Bz, Mz]; omega
  · rw [show 12 * y + 11 + 1 = 12 * (y + 1) + 0 by omega, Fz_y (y + 1) 0 (by decide) (by decide)]; simp [Bz, Mz]; rw [show 1899 + (y + 1) = 1900 + y by omega]; omega
theorem Iz_rg (z : Int) : 28 ≤ Iz z ∧ Iz z ≤ 31 := by
  unfold Iz Mz
  repeat' split
  all_goals omega
theorem Fz_mono (a : Int) : ∀ n : Nat, Fz a + 28 * (n : Int) ≤ Fz (a + n) ∧ Fz (a + n) ≤ Fz a + 31 * (n : Int) := by
  intro n
  induction n with
  | zero => simp
  | succ n ih =>
    have h := Fz_s (a + n)
    have h2 := Iz_rg (a + n)
    rw [show a + ((n + 1 : Nat) : Int) = a + n + 1 by omega]
    omega
theorem Fz_lt {a b d : Int} (h1 : Fz a ≤ d) (h2 : d < Fz b) : a < b := by
  apply Int.not_le.mp
  intro h
  obtain ⟨n, hn⟩ := Int.eq_ofNat_of_zero_le (show 0 ≤ a - b by omega)
  have := (Fz_mono b n).1
  rw [show b + (n : Int) = a by omega] at this
  omega
theorem Fz_u {a b d : Int} (h1 : Fz a ≤ d) (h2 : d < Fz (a + 1)) (h3 : Fz b ≤ d) (h4 : d < Fz (b + 1)) : a = b := by
  have := Fz_lt h1 h4
  have := Fz_lt h3 h2
  omega
/-- twenty months, that begin with a January -/
theorem Fz_j (y j : Int) (h1 : 0 ≤ j) (h2 : j ≤ 21) : Fz (12 * y) + 31 * (j + 1) ≤ Fz (12 * y + j + 2) := by
  have hL := Lz_s y
  have hL2 := Lz_s (y + 1)
  rw [show 1899 + (y + 1) = 1900 + y by omega] at hL2
  have e0 := Fz_y y 0 (by decide) (by decide)
  rw [Int.add_zero] at e0
  by_cases c : j + 2 < 12
  · have e1 := Fz_y y (j + 2) (by omega) c
    rw [show 12 * y + (j + 2) = 12 * y + j + 2 by omega] at e1
    rw [e0, e1, if_pos (by decide), if_neg (by omega)]
    have : 31 * (j + 1) ≤ Bz (j + 2) := by unfold Bz; repeat' split <;> omega
    have b0 : Bz 0 = 0 := rfl
    split at hL <;> omega
  · have e1 := Fz_y (y + 1) (j + 2 - 12) (by omega) (by omega)
    rw [show 12 * (y + 1) + (j + 2 - 12) = 12 * y + j + 2 by omega] at e1
    rw [e0, e1, if_pos (by decide)]
    have : 31 * (j + 1) ≤ 365 + Bz (j + 2 - 12) := by unfold Bz; repeat' split <;> omega
    have b0 : Bz 0 = 0 := rfl
    rw [show 1899 + (y + 1) = 1900 + y by omega]
    split <;> split at hL <;> split at hL2 <;> omega
theorem Fz_lo (y : Int) (h : 0 ≤ y) : 365 * y ≤ Fz (12 * y) ∧ Fz (12 * y) ≤ 366 * y ∧ (y ≤ 330 → 366 * y ≤ Fz (12 * y) + 251) := by
  have e0 := Fz_y y 0 (by decide) (by decide)
  rw [Int.add_zero, if_pos (by decide)] at e0
  have b0 : Bz 0 = 0 := rfl
  rw [e0, b0]
  unfold Lz
  omega
theorem bz_e (m : Int32) (h : 0 ≤ m.toInt) : (bmo (Int32.toNatClampNeg (m - m / 12 * 12))).toInt = Bz (m.toInt % 12) := by
  have h1 := rm_e 12 m (d := 12) rfl (by decide) h
  have h2 : ((Int32.toNatClampNeg (m - m / 12 * 12) : Nat) : Int) = m.toInt % 12 := by rw [tn_e (by omega), h1]
  have h3 : m.toInt % 12 < 12 := by omega
  rw [← h2]
  generalize Int32.toNatClampNeg (m - m / 12 * 12) = n at h2
  have hn : n < 12 := by omega
  have : ∀ n, n < 12 → (bmo n).toInt = Bz (n : Int) := by decide +kernel
  exact this n hn
theorem fz_e (m : Int32) (h1 : 0 ≤ m.toInt) (h2 : m.toInt ≤ 100000) : (m_X1_firstOf m).toInt = Fz m.toInt := by
  rw [fo_e m h1 h2, bz_e m h1]
  rfl
theorem iz_e (k : Int32) (h1 : 0 ≤ k.toInt) (h2 : k.toInt ≤ 100000) : (m_X8_inMonth (1900 + (k / 12)) ((k - k / 12 * 12) + 1)).toInt = Iz k.toInt := by
  have a1 := dv_e 12 k (d := 12) rfl (by decide) h1
  have a2 := rm_e 12 k (d := 12) rfl (by decide) h1
  have a3 := ad_o 1900 (k / 12)
  have c1900 : (1900 : Int32).toInt = 1900 := rfl
  have a4 : (1900 + k / 12).toInt = 1900 + k.toInt / 12 := by omega
  have a5 := ad_o (k - k / 12 * 12) 1
  have c1 : (1 : Int32).toInt = 1 := rfl
  have a6 : (k - k / 12 * 12 + 1).toInt = k.toInt % 12 + 1 := by omega
  have b1 := rm_e 4 (1900 + k / 12) (d := 4) rfl (by decide) (by omega)
  have b2 := rm_e 100 (1900 + k / 12) (d := 100) rfl (by decide) (by omega)
  have b3 := rm_e 400 (1900 + k / 12) (d := 400) rfl (by decide) (by omega)
  rw [a4] at b1 b2 b3
  unfold m_X8_inMonth Iz Mz
  generalize hx : k - k / 12 * 12 + 1 = x at a6
  generalize hw : 1900 + k / 12 - (1900 + k / 12) / 4 * 4 = w4 at b1
  generalize hw2 : 1900 + k / 12 - (1900 + k / 12) / 100 * 100 = w100 at b2
  generalize hw3 : 1900 + k / 12 - (1900 + k / 12) / 400 * 400 = w400 at b3
  have E : ∀ (v : Int32) (c : Int32) (z : Int), v.toInt = z → c.toInt = c.toInt → (v = c ↔ z = c.toInt) := by
    intro v c z hv _
    rw [← hv]
    exact ⟨fun h => by rw [h], fun h => Int32.toInt_inj.mp h⟩
  have c2 : (2 : Int32).toInt = 2 := rfl
  have c4 : (4 : Int32).toInt = 4 := rfl
  have c6 : (6 : Int32).toInt = 6 := rfl
  have c9 : (9 : Int32).toInt = 9 := rfl
  have c11 : (11 : Int32).toInt = 11 := rfl
  have c0 : (0 : Int32).toInt = 0 := rfl
  have q2 := E x 2 _ a6 rfl
  have q4 := E x 4 _ a6 rfl
  have q6 := E x 6 _ a6 rfl
  have q9 := E x 9 _ a6 rfl
  have q11 := E x 11 _ a6 rfl
  have p4 := E w4 0 _ b1 rfl
  have p100 := E w100 0 _ b2 rfl
  have p400 := E w400 0 _ b3 rfl
  rw [c2] at q2
  rw [c4] at q4
  rw [c6] at q6
  rw [c9] at q9
  rw [c11] at q11
  rw [c0] at p4 p100 p400
  generalize hy : 1900 + k.toInt / 12 = y at *
  generalize hr : k.toInt % 12 = r at *
  by_cases g2 : r = 1
  · rw [if_pos (q2.mpr (by omega)), if_pos g2]
    by_cases g4 : y % 4 = 0
    · rw [if_pos (p4.mpr g4)]
      by_cases g100 : y % 100 = 0
      · rw [if_pos (p100.mpr g100)]
        by_cases g400 : y % 400 = 0
        · rw [if_pos (p400.mpr g400), if_neg (by decide), if_pos ⟨g4, Or.inr g400⟩]; rfl
        · rw [if_neg (fun q => g400 (p400.mp q)), if_pos rfl, if_neg (by omega)]; rfl
      · rw [if_neg (fun q => g100 (p100.mp q)), if_neg (by decide), if_pos ⟨g4, Or.inl g100⟩]; rfl
    · rw [if_neg (fun q => g4 (p4.mp q)), if_pos rfl, if_neg (by omega)]; rfl
  · rw [if_neg (fun q => g2 (by have := q2.mp q; omega)), if_neg g2]
    by_cases g4 : r = 3
    · rw [if_pos (q4.mpr (by omega)), if_pos g4]; rfl
    · rw [if_neg (fun q => g4 (by have := q4.mp q; omega)), if_neg g4]
      by_cases g6 : r = 5
      · rw [if_pos (q6.mpr (by omega)), if_pos g6]; rfl
      · rw [if_neg (fun q => g6 (by have := q6.mp q; omega)), if_neg g6]
        by_cases g9 : r = 8
        · rw [if_pos (q9.mpr (by omega)), if_pos g9]; rfl
        · rw [if_neg (fun q => g9 (by have := q9.mp q; omega)), if_neg g9]
          by_cases g11 : r = 10
          · rw [if_pos (q11.mpr (by omega)), if_pos g11]; rfl
          · rw [if_neg (fun q => g11 (by have := q11.mp q; omega)), if_neg g11]; rfl
theorem be_lp_e (month : Int32) (hm : month.toInt ≤ 10000) : ∀ (n : Nat) (d k : Int32), 0 ≤ k.toInt → k.toInt ≤ month.toInt → month.toInt - k.toInt < (n : Int) → d.toInt = Fz k.toInt → (m_X8_begin_lp month n d k).toInt = Fz month.toInt := by
  intro n
  induction n with
  | zero => intro d k h1 h2 h3 h4; omega
  | succ n ih =>
    intro d k h1 h2 h3 h4
    rw [m_X8_begin_lp]
    by_cases c : month ≤ k
    · rw [if_pos c, h4]
      have := cv_le c
      rw [show k.toInt = month.toInt by omega]
    · rw [if_neg c]
      have c1 := cv_nle c
      have a1 := ad_o k 1
      have k1 : (1 : Int32).toInt = 1 := rfl
      have e1 : (k + 1).toInt = k.toInt + 1 := by omega
      have a2 := iz_e k h1 (by omega)
      have a3 := Fz_s k.toInt
      have a4 := Iz_rg k.toInt
      have a5 := ad_o d (m_X8_inMonth (1900 + (k / 12)) ((k - k / 12 * 12) + 1))
      obtain ⟨j, hj⟩ := Int.eq_ofNat_of_zero_le h1
      have a6 := Fz_mono 0 j
      have f0 : Fz 0 = 0 := by decide
      rw [f0, ← hj, Int.zero_add, Int.zero_add] at a6
      refine ih _ _ (by omega) (by omega) (by omega) ?_
      rw [e1, a3, ← a2, ← h4]
      omega
theorem be_e (m : Int32) (h1 : 0 ≤ m.toInt) (h2 : m.toInt ≤ 10000) : (m_X8_begin m).toInt = Fz m.toInt := by
  rw [m_X8_begin]
  refine be_lp_e m h2 _ 0 0 (by decide) ?_ ?_ (by decide)
  · have k0 : (0 : Int32).toInt = 0 := rfl
    omega
  · have k0 : (0 : Int32).toInt = 0 := rfl
    omega
theorem mo_lp_e (D : Int) (hD : D ≤ 200000) : ∀ (n : Nat) (a k : Int32), 0 ≤ a.toInt → 0 ≤ k.toInt → a.toInt + 28 * k.toInt ≤ 200000 → a.toInt < (n : Int) → a.toInt = D - Fz k.toInt → Fz (m_X8_monthOf_lp n a k).toInt ≤ D ∧ D < Fz ((m_X8_monthOf_lp n a k).toInt + 1) := by
  intro n
  induction n with
  | zero => intro a k h1 h2 h3 h4; omega
  | succ n ih =>
    intro a k h1 h2 h3 h4 h5
    rw [m_X8_monthOf_lp]
    have a2 := iz_e k h2 (by omega)
    have a3 := Fz_s k.toInt
    have a4 := Iz_rg k.toInt
    by_cases c : a < (m_X8_inMonth (1900 + (k / 12)) ((k - k / 12 * 12) + 1))
    · rw [if_pos c]
      have := cv_lt c
      omega
    · rw [if_neg c]
      have := cv_nlt c
      have a1 := ad_o k 1
      have k1 : (1 : Int32).toInt = 1 := rfl
      have e1 : (k + 1).toInt = k.toInt + 1 := by omega
      have a5 := su_o a (m_X8_inMonth (1900 + (k / 12)) ((k - k / 12 * 12) + 1))
      have e2 : (a - (m_X8_inMonth (1900 + (k / 12)) ((k - k / 12 * 12) + 1))).toInt = a.toInt - Iz k.toInt := by omega
      refine ih _ _ (by omega) (by omega) (by omega) (by omega) ?_
      rw [e1, e2]; omega
theorem mo_e (d : Int32) (h1 : 0 ≤ d.toInt) (h2 : d.toInt ≤ 200000) : Fz (m_X8_monthOf d).toInt ≤ d.toInt ∧ d.toInt < Fz ((m_X8_monthOf d).toInt + 1) := by
  rw [m_X8_monthOf]
  have k0 : (0 : Int32).toInt = 0 := rfl
  have f0 : Fz 0 = 0 := by decide
  refine mo_lp_e d.toInt h2 _ d 0 h1 (by decide) (by omega) (by omega) ?_
  rw [k0, f0]; omega
theorem mf_e (d : Int32) (h1 : 0 ≤ d.toInt) (h2 : d.toInt ≤ 120700) : Fz (m_X1_monthOf d).toInt ≤ d.toInt ∧ d.toInt < Fz ((m_X1_monthOf d).toInt + 1) := by
  have a1 := dv_e 366 d (d := 366) rfl (by decide) h1
  have a2 := mr_o 12 (d / 366) 12 rfl
  have hy : ∃ y : Int, y = d.toInt / 366 := ⟨_, rfl⟩
  obtain ⟨y, hy⟩ := hy
  have e1 : (d / 366 * 12).toInt = 12 * y := by omega
  have f1 := fz_e (d / 366 * 12) (by omega) (by omega)
  rw [e1] at f1
  have g1 := Fz_lo y (by omega)
  have a3 := su_o d (m_X1_firstOf (d / 366 * 12))
  have e3 : (d - (m_X1_firstOf (d / 366 * 12))).toInt = d.toInt - Fz (12 * y) := by omega
  have a4 := dv_e 31 (d - (m_X1_firstOf (d / 366 * 12))) (d := 31) rfl (by decide) (by omega)
  have hj : ∃ j : Int, j = (d.toInt - Fz (12 * y)) / 31 := ⟨_, rfl⟩
  obtain ⟨j, hj⟩ := hj
  rw [e3, ← hj] at a4
  have a5 := ad_o (d / 366 * 12) ((d - (m_X1_firstOf (d / 366 * 12))) / 31)
  have e5 : (((d / 366) * 12) + ((d - (m_X1_firstOf ((d / 366) * 12))) / 31)).toInt = 12 * y + j := by omega
  have a6 := ad_o (((d / 366) * 12) + ((d - (m_X1_firstOf ((d / 366) * 12))) / 31)) 1
  have k1 : (1 : Int32).toInt = 1 := rfl
  have e6 : ((((d / 366) * 12) + ((d - (m_X1_firstOf ((d / 366) * 12))) / 31)) + 1).toInt = 12 * y + j + 1 := by omega
  have f6 := fz_e ((((d / 366) * 12) + ((d - (m_X1_firstOf ((d / 366) * 12))) / 31)) + 1) (by omega) (by omega)
  rw [e6] at f6
  have u1 := Fz_j y j (by omega) (by omega)
  obtain ⟨n, hn⟩ := Int.eq_ofNat_of_zero_le (show 0 ≤ j by omega)
  have u2 := (Fz_mono (12 * y) n).2
  rw [← hn] at u2
  rw [m_X1_monthOf]
  by_cases c : d < (m_X1_firstOf ((((d / 366) * 12) + ((d - (m_X1_firstOf ((d / 366) * 12))) / 31)) + 1))
  · rw [if_pos c, e5]
    have := cv_lt c
    omega
  · rw [if_neg c, e6]
    have := cv_nlt c
    rw [show 12 * y + j + 1 + 1 = 12 * y + j + 2 by omega]
    omega
theorem mz_e (d : Int32) (h1 : 0 ≤ d.toInt) (h2 : d.toInt ≤ 120700) : m_X1_monthOf d = m_X8_monthOf d := by
  have a := mo_e d h1 (by omega)
  have b := mf_e d h1 h2
  exact Int32.toInt_inj.mp (Fz_u b.1 b.2 a.1 a.2)
theorem add_e (d t : Int32) (h1 : 0 ≤ d.toInt) (h2 : d.toInt ≤ 120700) (h3 : 0 ≤ t.toInt) (h4 : t.toInt ≤ 1211) : m_X1_plus d t = m_X8_add d t := by
  have hm := mz_e d h1 h2
  have a := mo_e d h1 (by omega)
  have b := mo_rg d h1 (by omega)
  rw [m_X1_plus, m_X8_add, hm]
  generalize m_X8_monthOf d = M at *
  have c1 := ad_o M t
  have e1 : (M + t).toInt = M.toInt + t.toInt := by omega
  have k1 : (1 : Int32).toInt = 1 := rfl
  have c2 := ad_o (M + t) 1
  have e2 : (M + t + 1).toInt = M.toInt + t.toInt + 1 := by omega
  have f1 := fz_e M (by omega) (by omega)
  have f2 := fz_e (M + t) (by omega) (by omega)
  have f3 := fz_e (M + t + 1) (by omega) (by omega)
  have g1 := be_e M (by omega) (by omega)
  have g2 := be_e (M + t) (by omega) (by omega)
  have i1 := iz_e (M + t) (by omega) (by omega)
  have i2 := Iz_rg (M + t).toInt
  have s1 := Fz_s (M + t).toInt
  rw [show (M + t).toInt + 1 = (M + t + 1).toInt by omega] at s1
  have r1 := be_rg M (by omega) (by omega)
  have r2 := be_rg (M + t) (by omega) (by omega)
  have hb : m_X8_begin M = m_X1_firstOf M := Int32.toInt_inj.mp (by omega)
  have hb2 : m_X8_begin (M + t) = m_X1_firstOf (M + t) := Int32.toInt_inj.mp (by omega)
  rw [hb] at r1 ⊢
  rw [hb2] at r2 ⊢
  generalize m_X8_inMonth (1900 + ((M + t) / 12)) (((M + t) - (M + t) / 12 * 12) + 1) = I at *
  generalize m_X1_firstOf (M + t) = A at *
  generalize m_X1_firstOf (M + t + 1) = B at *
  generalize m_X1_firstOf M = C at *
  have j1 := su_o d C
  have j2 := su_o B 1
  have j3 := su_o I 1
  have j4 := ad_o A (d - C)
  have j5 := ad_o A (I - 1)
  have sC := Fz_s M.toInt
  have iC := Iz_rg M.toInt
  by_cases p : B - 1 < A + (d - C)
  · rw [if_pos p]
    have p' := cv_lt p
    rw [if_pos (Int32.le_iff_toInt_le.mpr (by omega))]
    exact Int32.toInt_inj.mp (by omega)
  · rw [if_neg p]
    have p' := cv_nlt p
    by_cases q : I - 1 ≤ d - C
    · rw [if_pos q]
      have q' := cv_le q
      exact Int32.toInt_inj.mp (by omega)
    · rw [if_neg q]
theorem fe_lp_e (q : qM) (hq : 1 ≤ (q.1 2 0).toInt ∧ (q.1 2 0).toInt ≤ 12) : ∀ (n : Nat) (k : Int32), 0 ≤ k.toInt → k.toInt + (n : Int) ≤ 100000 → n ≤ 12 → (∃ i : Int, 0 ≤ i ∧ i < (n : Int) ∧ (k.toInt + i) % 12 + 1 = (q.1 2 0).toInt) → ((m_X8_fiscalEnd_lp q n k).toInt % 12 + 1 = (q.1 2 0).toInt ∧ k.toInt ≤ (m_X8_fiscalEnd_lp q n k).toInt ∧ (m_X8_fiscalEnd_lp q n k).toInt < k.toInt + (n : Int)) := by
  intro n
  induction n with
  | zero => intro k h1 h2 hn h3; obtain ⟨i, h⟩ := h3; omega
  | succ n ih =>
    intro k h1 h2 hn h3
    obtain ⟨i, h3, h4, h5⟩ := h3
    rw [m_X8_fiscalEnd_lp]
    have a2 := rm_e 12 k (d := 12) rfl (by decide) h1
    have a5 := ad_o (k - k / 12 * 12) 1
    have c1 : (1 : Int32).toInt = 1 := rfl
    have a6 : (k - k / 12 * 12 + 1).toInt = k.toInt % 12 + 1 := by omega
    by_cases c : ((k - k / 12 * 12) + 1) = (q.1 2 0)
    · rw [if_pos c]
      have := cv_eq c
      omega
    · rw [if_neg c]
      have := cv_ne c
      have a7 := ad_o k 1
      have e7 : (k + 1).toInt = k.toInt + 1 := by omega
      have hi : i ≠ 0 := by intro h; rw [h, Int.add_zero] at h5; omega
      have := ih (k + 1) (by omega) (by omega) (by omega) ⟨i - 1, by omega, by omega, by rw [e7, show k.toInt + 1 + (i - 1) = k.toInt + i by omega]; exact h5⟩
      omega
theorem fe_e (q : qM) (d : Int32) (hq : 1 ≤ (q.1 2 0).toInt ∧ (q.1 2 0).toInt ≤ 12) (h1 : 0 ≤ d.toInt) (h2 : d.toInt ≤ 120000) : m_X1_fiscalEnd d (q.1 2 0) = m_X8_fiscalEnd q d ∧ 0 ≤ (m_X8_fiscalEnd q d).toInt ∧ (m_X8_fiscalEnd q d).toInt ≤ 120700 := by
  have hm := mz_e d h1 (by omega)
  have a := mo_e d h1 (by omega)
  have b := mo_rg d h1 (by omega)
  rw [m_X1_fiscalEnd, m_X8_fiscalEnd, hm]
  generalize m_X8_monthOf d = M at *
  have k1 : (1 : Int32).toInt = 1 := rfl
  have k13 : (13 : Int32).toInt = 13 := rfl
  have k12 : (12 : Int32).toInt = 12 := rfl
  have c1 := ad_o M 1
  have e1 : (M + 1).toInt = M.toInt + 1 := by omega
  have c2 := ad_o M 13
  have e2 : (M + 13).toInt = M.toInt + 13 := by omega
  have c3 := su_o (M + 13) (q.1 2 0)
  have e3 : (M + 13 - q.1 2 0).toInt = M.toInt + 13 - (q.1 2 0).toInt := by omega
  have c4 := rm_e 12 (M + 13 - q.1 2 0) (d := 12) rfl (by decide) (by omega)
  rw [e3] at c4
  have c5 := su_o M ((M + 13 - q.1 2 0) - (M + 13 - q.1 2 0) / 12 * 12)
  have e5 : (M - ((M + 13 - q.1 2 0) - (M + 13 - q.1 2 0) / 12 * 12)).toInt = M.toInt - (M.toInt + 13 - (q.1 2 0).toInt) % 12 := by omega
  have c6 := ad_o (M - ((M + 13 - q.1 2 0) - (M + 13 - q.1 2 0) / 12 * 12)) 12
  have e6 : (M - ((M + 13 - q.1 2 0) - (M + 13 - q.1 2 0) / 12 * 12) + 12).toInt = M.toInt - (M.toInt + 13 - (q.1 2 0).toInt) % 12 + 12 := by omega
  have g := fe_lp_e q hq 12 (M + 1) (by omega) (by omega) (by decide) ⟨((q.1 2 0).toInt + 10 - M.toInt) % 12, by omega, by omega, by omega⟩
  have n12 : ((12 : Nat) : Int) = 12 := rfl
  rw [n12] at g
  have hK : M - ((M + 13 - q.1 2 0) - (M + 13 - q.1 2 0) / 12 * 12) + 12 = m_X8_fiscalEnd_lp q 12 (M + 1) := Int32.toInt_inj.mp (by omega)
  rw [hK]
  generalize m_X8_fiscalEnd_lp q 12 (M + 1) = K at *
  have f1 := fz_e K (by omega) (by omega)
  have f2 := be_e K (by omega) (by omega)
  have f3 := be_rg K (by omega) (by omega)
  have hb : m_X8_begin K = m_X1_firstOf K := Int32.toInt_inj.mp (by omega)
  rw [hb] at f3 ⊢
  have c7 := su_o (m_X1_firstOf K) 1
  obtain ⟨n, hn⟩ := Int.eq_ofNat_of_zero_le (show 0 ≤ K.toInt - (M.toInt + 1) by omega)
  have u := Fz_mono (M.toInt + 1) n
  rw [show M.toInt + 1 + (n : Int) = K.toInt by omega] at u
  have s := Fz_s M.toInt
  have i := Iz_rg M.toInt
  refine ⟨rfl, by omega, by omega⟩
