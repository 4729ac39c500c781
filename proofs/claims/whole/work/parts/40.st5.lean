def Dk (a b c k : Int) : Int := (if k ≤ a then 1 else 0) + (if k ≤ b ∧ b ≠ a then 1 else 0) + (if k ≤ c ∧ c ≠ a ∧ c ≠ b then 1 else 0)
theorem Dk_s (a b c k : Int) : Dk a b c k = (if a = k ∨ b = k ∨ c = k then 1 else 0) + Dk a b c (k + 1) := by
  unfold Dk
  have e1 : (if k ≤ a then (1 : Int) else 0) = (if a = k then 1 else 0) + (if k + 1 ≤ a then 1 else 0) := by
    by_cases h : a = k
    · rw [if_pos h, if_pos (by omega), if_neg (by omega)]; rfl
    · rw [if_neg h, Int.zero_add]
      by_cases g : k ≤ a
      · rw [if_pos g, if_pos (by omega)]
      · rw [if_neg g, if_neg (by omega)]
  have e2 : (if k ≤ b ∧ b ≠ a then (1 : Int) else 0) = (if b = k ∧ b ≠ a then 1 else 0) + (if k + 1 ≤ b ∧ b ≠ a then 1 else 0) := by
    by_cases z : b = a
    · rw [if_neg (fun x => x.2 z), if_neg (fun x => x.2 z), if_neg (fun x => x.2 z)]; rfl
    · by_cases h : b = k
      · rw [if_pos ⟨by omega, z⟩, if_pos ⟨h, z⟩, if_neg (fun x => by omega)]; rfl
      · rw [if_neg (c := b = k ∧ b ≠ a) (fun x => h x.1), Int.zero_add]
        by_cases g : k ≤ b
        · rw [if_pos ⟨g, z⟩, if_pos ⟨by omega, z⟩]
        · rw [if_neg (fun x => g x.1), if_neg (fun x => by omega)]
  have e3 : (if k ≤ c ∧ c ≠ a ∧ c ≠ b then (1 : Int) else 0) = (if c = k ∧ c ≠ a ∧ c ≠ b then 1 else 0) + (if k + 1 ≤ c ∧ c ≠ a ∧ c ≠ b then 1 else 0) := by
    by_cases z : c ≠ a ∧ c ≠ b
    · by_cases h : c = k
      · rw [if_pos ⟨by omega, z⟩, if_pos ⟨h, z⟩, if_neg (fun x => by omega)]; rfl
      · rw [if_neg (c := c = k ∧ c ≠ a ∧ c ≠ b) (fun x => h x.1), Int.zero_add]
        by_cases g : k ≤ c
        · rw [if_pos ⟨g, z⟩, if_pos ⟨by omega, z⟩]
        · rw [if_neg (fun x => g x.1), if_neg (fun x => by omega)]
    · rw [if_neg (fun x => z x.2), if_neg (fun x => z x.2), if_neg (fun x => z x.2)]; rfl
  have e4 : (if a = k ∨ b = k ∨ c = k then (1 : Int) else 0) = (if a = k then 1 else 0) + (if b = k ∧ b ≠ a then 1 else 0) + (if c = k ∧ c ≠ a ∧ c ≠ b then 1 else 0) := by
    by_cases h1 : a = k
    · rw [if_pos (Or.inl h1), if_pos h1, if_neg (fun x => x.2 (by omega)), if_neg (fun x => x.2.1 (by omega))]; rfl
    · by_cases h2 : b = k
      · rw [if_pos (Or.inr (Or.inl h2)), if_neg h1, if_pos ⟨h2, by omega⟩, if_neg (fun x => x.2.2 (by omega))]; rfl
      · by_cases h3 : c = k
        · rw [if_pos (Or.inr (Or.inr h3)), if_neg h1, if_neg (fun x => h2 x.1), if_pos ⟨h3, by omega, by omega⟩]; rfl
        · rw [if_neg (by omega), if_neg h1, if_neg (fun x => h2 x.1), if_neg (fun x => h3 x.1)]; rfl
  rw [e1, e2, e3, e4]
  generalize (if a = k then (1 : Int) else 0) = x1
  generalize (if k + 1 ≤ a then (1 : Int) else 0) = x2
  generalize (if b = k ∧ b ≠ a then (1 : Int) else 0) = x3
  generalize (if k + 1 ≤ b ∧ b ≠ a then (1 : Int) else 0) = x4
  generalize (if c = k ∧ c ≠ a ∧ c ≠ b then (1 : Int) else 0) = x5
  generalize (if k + 1 ≤ c ∧ c ≠ a ∧ c ≠ b then (1 : Int) else 0) = x6
  omega
theorem kc_lp {q : qM} {R : Int32} (a b c : Int) (h : ∀ k : Int32, m_X8_hasKey q R k = 0 ↔ ¬ (a = k.toInt ∨ b = k.toInt ∨ c = k.toInt)) (ha : a ≤ 99) (hb : b ≤ 99) (hc : c ≤ 99) : ∀ (n : Nat) (s k : Int32), 0 ≤ k.toInt → k.toInt ≤ 100 → 100 - k.toInt < (n : Int) → 0 ≤ s.toInt → s.toInt ≤ k.toInt → (m_X8_keyCount_lp q R n s k).toInt = s.toInt + Dk a b c k.toInt := by
  intro n
  induction n with
  | zero => intro s k h1 h2 h3; omega
  | succ n ih =>
    intro s k h1 h2 h3 h4 h5
    rw [m_X8_keyCount_lp]
    have k99 : (99 : Int32).toInt = 99 := rfl
    by_cases g : 99 < k
    · rw [if_pos g]
      have := cv_lt g
      unfold Dk
      rw [if_neg (by omega), if_neg (by omega), if_neg (by omega)]
      omega
    · rw [if_neg g]
      have := cv_nlt g
      have a1 := ad_o k 1
      have a2 := ad_o s 1
      have k1 : (1 : Int32).toInt = 1 := rfl
      have e1 : (k + 1).toInt = k.toInt + 1 := by omega
      have d := Dk_s a b c k.toInt
      by_cases g2 : m_X8_hasKey q R k = 0
      · rw [if_pos g2, ih s (k + 1) (by omega) (by omega) (by omega) h4 (by omega), e1, d, if_neg ((h k).mp g2)]
        omega
      · rw [if_neg g2, ih (s + 1) (k + 1) (by omega) (by omega) (by omega) (by omega) (by omega), e1, d, if_pos (Classical.byContradiction fun x => g2 ((h k).mpr x))]
        omega
theorem hk_t (q : qM) (R key : Int32) : m_X8_hasKey q R key = 0 ↔ ¬ ((q.1 17 (Int32.toNatClampNeg (3 * R))).toInt = key.toInt ∨ (q.1 17 (Int32.toNatClampNeg (3 * R + 1))).toInt = key.toInt ∨ (q.1 17 (Int32.toNatClampNeg (3 * R + 2))).toInt = key.toInt) := by
  unfold m_X8_hasKey
  by_cases h1 : q.1 17 (Int32.toNatClampNeg (3 * R)) = key
  · rw [if_pos h1]; exact ⟨fun x => absurd x z10, fun x => absurd (Or.inl (cv_eq h1)) x⟩
  rw [if_neg h1]
  by_cases h2 : q.1 17 (Int32.toNatClampNeg (3 * R + 1)) = key
  · rw [if_pos h2]; exact ⟨fun x => absurd x z10, fun x => absurd (Or.inr (Or.inl (cv_eq h2))) x⟩
  rw [if_neg h2]
  by_cases h3 : q.1 17 (Int32.toNatClampNeg (3 * R + 2)) = key
  · rw [if_pos h3]; exact ⟨fun x => absurd x z10, fun x => absurd (Or.inr (Or.inr (cv_eq h3))) x⟩
  rw [if_neg h3]
  refine ⟨fun _ x => ?_, fun _ => rfl⟩
  rcases x with x | x | x
  · exact h1 (Int32.toInt_inj.mp x)
  · exact h2 (Int32.toInt_inj.mp x)
  · exact h3 (Int32.toInt_inj.mp x)
theorem kc_c {c : qC} {j : Nat} (ha : -1 ≤ (c.1 16 j 3).toInt) (hb : -1 ≤ (c.1 16 j 4).toInt) (hc : -1 ≤ (c.1 16 j 5).toInt) : (m_X3_keyCount c j).toInt = Dk (c.1 16 j 3).toInt (c.1 16 j 4).toInt (c.1 16 j 5).toInt 0 := by
  unfold m_X3_keyCount Dk
  have E : ∀ a b : Int32, (a = b) = (a.toInt = b.toInt) := fun a b => propext ⟨fun h => by rw [h], fun h => Int32.toInt_inj.mp h⟩
  simp only [E, kk_m1]
  generalize (c.1 16 j 3).toInt = x at *
  generalize (c.1 16 j 4).toInt = y at *
  generalize (c.1 16 j 5).toInt = z at *
  have k0 : (0 : Int32).toInt = 0 := rfl
  have k1 : (1 : Int32).toInt = 1 := rfl
  have k2 : (2 : Int32).toInt = 2 := rfl
  have k3 : (3 : Int32).toInt = 3 := rfl
  by_cases h1 : x = -1
  · rw [if_pos h1]
    by_cases h2 : y = -1
    · rw [if_pos h2]
      repeat' split
      all_goals omega
    · rw [if_neg h2]
      repeat' split
      all_goals omega
  · rw [if_neg h1]
    by_cases h2 : y = -1
    · rw [if_pos h2]
      repeat' split
      all_goals omega
    · rw [if_neg h2]
      repeat' split
      all_goals omega
theorem kc_e {c : qC} {q : qM} (h : RI c q) {R : Int32} (h1 : 0 ≤ R.toInt) (h2 : R.toInt ≤ 63) : m_X3_keyCount c (Int32.toNatClampNeg R) = m_X8_keyCount q R := by
  obtain ⟨i0, i1, i2⟩ := ix3 h1 h2
  have g := h.1.2.2.2.2.1.1 (Int32.toNatClampNeg R)
  have g5 := h.1.2.2.2.2.1.2.2
  have ht := hk_t q R
  rw [i0, i1, i2] at ht
  have L := kc_lp _ _ _ ht (g5 _).2 (g5 _).2 (g5 _).2 101 0 0 (by decide) (by decide) (by decide) (by decide) (by decide)
  apply Int32.toInt_inj.mp
  rw [m_X8_keyCount, L, kc_c (by rw [g.2.2.2.1]; exact (g5 _).1) (by rw [g.2.2.2.2.1]; exact (g5 _).1) (by rw [g.2.2.2.2.2.1]; exact (g5 _).1), g.2.2.2.1, g.2.2.2.2.1, g.2.2.2.2.2.1, kk_0]
  omega
theorem st_record {c : qC} {q : qM} (h : RI c q) (r w : Int32) : (m_X8_record q r w).2.1 0 0 = (m_X7_record c r w).1 ∧ ((m_X7_record c r w).1 = 0 → (m_X7_record c r w).2 = (m_X8_record q r w).1) ∧ RI c (m_X8_record q r w).2 := by
  unfold m_X7_record m_X8_record
  rw [kRe h]
  by_cases h1 : m_X8_noRecord q r = 0
  case neg => rw [if_neg h1, if_neg h1, if_neg z10]; exact ⟨rfl, fun x => absurd x z10, RI_t h⟩
  rw [if_pos h1, if_pos h1, if_pos rfl]
  have hr := nr_t h.2.1 h1
  have tn := tn_e hr.1
  have h64 := h.2.1.2.2.2.1
  obtain ⟨f0, f1, f2, f3⟩ := rec_g h (r := Int32.toNatClampNeg r) (by omega)
  have g := h.1.2.2.2.2.1.1 (Int32.toNatClampNeg r)
  rw [f0, g.2.2.2.2.2.2.1, g.2.1, g.2.2.2.2.2.2.2]
  have E : ∀ a b : Int32, (a = b ↔ a.toInt = b.toInt) := fun a b => ⟨fun h => by rw [h], fun h => Int32.toInt_inj.mp h⟩
  have k4 : (4 : Int32).toInt = 4 := rfl
  have k3 : (3 : Int32).toInt = 3 := rfl
  have k2 : (2 : Int32).toInt = 2 := rfl
  have k1 : (1 : Int32).toInt = 1 := rfl
  have k0 : (0 : Int32).toInt = 0 := rfl
  by_cases h2 : m_X8_isIn w 0 4 = 0
  · rw [if_pos h2]
    have n : ∀ x : Int32, 0 ≤ x.toInt → x.toInt ≤ 4 → ¬ w = x := fun x x1 x2 e => by
      rw [e, is_1 (by omega) (by omega)] at h2; exact absurd h2 z10
    rw [if_neg (n 0 (by decide) (by decide)), if_neg (n 1 (by decide) (by decide)), if_neg (n 2 (by decide) (by decide)), if_neg (n 3 (by decide) (by decide)), if_neg (n 4 (by decide) (by decide))]
    exact ⟨rfl, fun x => absurd x z20, RI_t h⟩
  rw [if_neg h2]
  by_cases e0 : w = 0
  · rw [if_pos e0, if_pos e0]; exact ⟨rfl, fun _ => rfl, RI_t h⟩
  rw [if_neg e0, if_neg e0]
  by_cases e1 : w = 1
  · rw [if_pos e1, if_pos e1]; exact ⟨rfl, fun _ => rfl, RI_t h⟩
  rw [if_neg e1, if_neg e1]
  by_cases e2 : w = 2
  · rw [if_pos e2, if_pos e2]; exact ⟨rfl, fun _ => rfl, RI_t h⟩
  rw [if_neg e2, if_neg e2]
  by_cases e3 : w = 3
  · rw [if_pos e3, if_pos e3]
    by_cases e5 : q.1 18 (Int32.toNatClampNeg r) = 0
    · rw [if_pos e5, if_pos e5]; exact ⟨rfl, fun _ => rfl, RI_t h⟩
    · rw [if_neg e5, if_neg e5]; exact ⟨rfl, fun _ => rfl, RI_t h⟩
  rw [if_neg e3, if_neg e3]
  have hw := is_t h2
  have e4 : w = 4 := Int32.toInt_inj.mp (by have := cv_ne e0; have := cv_ne e1; have := cv_ne e2; have := cv_ne e3; omega)
  rw [if_pos e4]
  refine ⟨rfl, fun _ => ?_, RI_t h⟩
  dsimp only
  exact kc_e (RI_t h) hr.1 (by omega)
theorem st_count {c : qC} {q : qM} (h : RI c q) (w : Int32) : (m_X8_count q w).2.1 0 0 = wkT (m_X7_count c w).1 ∧ ((m_X7_count c w).1 = 0 → (m_X7_count c w).2 = (m_X8_count q w).1) ∧ RI c (m_X8_count q w).2 := by
  unfold m_X7_count m_X8_count
  obtain ⟨b1, b2, b3, b4, b5⟩ := h.1.1
  rw [b1, b2, b3, h.1.2.1.1]
  have k4 : (4 : Int32).toInt = 4 := rfl
  have k3 : (3 : Int32).toInt = 3 := rfl
  have k2 : (2 : Int32).toInt = 2 := rfl
  have k1 : (1 : Int32).toInt = 1 := rfl
  have k0 : (0 : Int32).toInt = 0 := rfl
  by_cases h2 : m_X8_isIn w 0 4 = 0
  · rw [if_pos h2]
    have n : ∀ x : Int32, 0 ≤ x.toInt → x.toInt ≤ 4 → ¬ w = x := fun x x1 x2 e => by
      rw [e, is_1 (by omega) (by omega)] at h2; exact absurd h2 z10
    rw [if_neg (n 0 (by decide) (by decide)), if_neg (n 1 (by decide) (by decide)), if_neg (n 2 (by decide) (by decide)), if_neg (n 3 (by decide) (by decide)), if_neg (n 4 (by decide) (by decide))]
    exact ⟨rfl, fun x => absurd x z20, RI_t h⟩
  rw [if_neg h2]
  have hw := is_t h2
  by_cases e0 : w = 0
  · rw [if_pos e0, if_pos e0, if_neg (fun n => by have := cv_le n; have := cv_eq e0; omega)]; exact ⟨rfl, fun _ => rfl, RI_t h⟩
  rw [if_neg e0, if_neg e0]
  by_cases e1 : w = 1
  · rw [if_pos e1, if_pos e1, if_neg (fun n => by have := cv_le n; have := cv_eq e1; omega)]; exact ⟨rfl, fun _ => rfl, RI_t h⟩
  rw [if_neg e1, if_neg e1]
  by_cases e2 : w = 2
  · rw [if_pos e2, if_pos e2, if_neg (fun n => by have := cv_le n; have := cv_eq e2; omega)]; exact ⟨rfl, fun _ => rfl, RI_t h⟩
  rw [if_neg e2, if_neg e2]
  by_cases e3 : w = 3
  · rw [if_pos e3, if_neg (fun n => by have := cv_le n; have := cv_eq e3; omega)]; exact ⟨rfl, fun _ => rfl, RI_t h⟩
  rw [if_neg e3]
  have e4 : w = 4 := Int32.toInt_inj.mp (by have := cv_ne e0; have := cv_ne e1; have := cv_ne e2; have := cv_ne e3; omega)
  rw [if_pos e4, if_pos (Int32.le_iff_toInt_le.mpr (by rw [e4]; decide))]
  refine ⟨rfl, fun _ => ?_, RI_t h⟩
  dsimp only
  have : ∀ (n : Nat) (a x : Int32), m_X7_bytesKept_lp c n a x = m_X8_count_lp (mq_i q 0 0 0) n a x := by
    intro n
    induction n with
    | zero => intro a x; rfl
    | succ n ih =>
      intro a x
      have g := h.1.2.2.2.2.1.1 (Int32.toNatClampNeg x)
      rw [m_X7_bytesKept_lp, m_X8_count_lp, b1, g.2.1, g.2.2.2.2.2.2.2, mq_ne (by decide), mq_ne (by decide), mq_ne (by decide)]
      by_cases f1 : q.1 12 0 ≤ x
      · rw [if_pos f1, if_pos f1]
      · rw [if_neg f1, if_neg f1]
        by_cases f2 : q.1 18 (Int32.toNatClampNeg x) = 0
        · rw [if_pos f2, if_pos f2, ih]
        · rw [if_neg f2, if_neg f2, ih]
  exact this 66 0 0
theorem dg_e {c : qC} {q : qM} (h : RI c q) (r : Int32) : m_X7_digestOf c r = dgw q r := by
  unfold m_X7_digestOf dgw
  rw [h.1.1.1, (h.1.2.2.2.2.1.1 _).2.2.1]
  have e : (if r < 0 then (0 : Int64) else (if r < q.1 12 0 then q.2 16 (Int32.toNatClampNeg r) else 0)) = _ := cx_lt (hi' := q.1 12 0 - 1) (su1 h.2.1.2.2.2.1.1)
  rw [← e]
  by_cases c1 : r < 0
  · rw [if_pos c1, if_pos c1]
  · rw [if_neg c1, if_neg c1]
    by_cases c2 : r < q.1 12 0
    · rw [if_pos c2, if_neg (fun n => by have := cv_le n; have := cv_lt c2; omega)]
    · rw [if_neg c2, if_pos (Int32.le_iff_toInt_le.mpr (cv_nlt c2))]
theorem st_broken {c : qC} {q : qM} (h : RI c q) : (m_X7_broken c) = (m_X8_broken q).1 ∧ RI c (m_X8_broken q).2 := by
  unfold m_X7_broken m_X8_broken
  refine ⟨?_, RI_t h⟩
  dsimp only
  have h := RI_t (v := 0) h
  generalize mq_i q 0 0 0 = q at *
  have : ∀ (n : Nat) (x : Int32), m_X7_broken_lp c n x = m_X8_broken_lp q n x := by
    intro n
    induction n with
    | zero => intro x; rfl
    | succ n ih =>
      intro x
      rw [m_X7_broken_lp, m_X8_broken_lp, h.1.2.1.1, h.1.2.1.2.2, lk_e h.1.2.1.2.1 h.1.2.1.2.2 x _ (fun _ => by rw [dg_e h]; unfold m_X0_number; rw [h.1.2.1.2.1]), ih]
  exact this 402 0
theorem fi_z {lf k bf : Int32} (e : lf.toInt = k.toInt - bf.toInt) (b : 0 ≤ bf.toInt) (b3 : bf.toInt ≤ k.toInt) : (lf + (-1)).toInt = lf.toInt - 1 := by
  have a3 := ad_o lf (-1)
  have r1 := rg_e k
  rw [kk_m1] at a3
  generalize (lf + (-1)).toInt = w at a3 ⊢
  omega
theorem st_find {c : qC} {q : qM} (h : RI c q) (key fi la k : Int32) : (m_X8_find q key fi la k).2.1 0 0 = wkT (m_X7_find c key fi la k).1 ∧ ((m_X7_find c key fi la k).1 = 0 → (m_X7_find c key fi la k).2 = (m_X8_find q key fi la k).1) ∧ RI c (m_X8_find q key fi la k).2 := by
  unfold m_X7_find m_X8_find
  rw [cx_gt]
  by_cases h1 : m_X8_isIn key 0 99 = 0
  · rw [if_pos h1, if_pos h1]
    split <;> exact ⟨rfl, fun x => absurd x z20, RI_t h⟩
  rw [if_neg h1, if_neg h1]
  by_cases h2 : k < 0
  · rw [if_pos h2, if_neg (c := 0 ≤ k) (fun n => by have := cv_lt h2; have := cv_le n; omega)]
    split <;> exact ⟨rfl, fun x => absurd x z20, RI_t h⟩
  rw [if_neg h2, if_pos (Int32.le_iff_toInt_le.mpr (cv_nlt h2))]
  refine ⟨rfl, fun _ => ?_, RI_t h⟩
  dsimp only
  have t0 : (mq_i q 0 0 0).1 0 0 = 0 := mq_same _ _ _ _
  have h := RI_t (v := 0) h
  have hk := cv_nlt h2
  generalize mq_i q 0 0 0 = q at *
  have h64 := h.2.1.2.2.2.1
  have k0 : (0 : Int32).toInt = 0 := rfl
  have k1 : (1 : Int32).toInt = 1 := rfl
  have km : (-1 : Int32).toInt = -1 := rfl
  have : ∀ (n : Nat) (lf bf x : Int32), 0 ≤ x.toInt → x.toInt ≤ 64 → 0 ≤ bf.toInt → bf.toInt ≤ x.toInt → bf.toInt ≤ k.toInt → lf.toInt = k.toInt - bf.toInt → m_X7_find_lp c key fi la k n bf x = m_X8_find_lp q key fi la n lf x := by
    intro n
    induction n with
    | zero => intro lf bf x _ _ _ _ _ _; rfl
    | succ n ih =>
      intro lf bf x x1 x2 b1 b2 b3 e
      have a1 := ad_o x 1
      rw [m_X7_find_lp, m_X8_find_lp, h.1.1.1, t0]
      by_cases f1 : q.1 12 0 ≤ x
      · rw [if_pos f1, if_pos f1, if_pos (by decide)]
      have f1' := cv_nle f1
      have e1 : (x + 1).toInt = x.toInt + 1 := by omega
      rw [if_neg f1, if_neg f1, if_pos rfl, (h.1.2.2.2.2.1.1 _).2.2.2.2.2.2.2, hk_e h x1 (by omega), if_e h]
      by_cases f2 : q.1 18 (Int32.toNatClampNeg x) = 0
      case neg => rw [if_neg f2, if_neg f2]; exact ih _ _ _ (by omega) (by omega) b1 (by omega) b3 e
      rw [if_pos f2, if_pos f2]
      by_cases f3 : m_X8_hasKey q x key = 0
      · rw [if_pos f3, if_pos f3]; exact ih _ _ _ (by omega) (by omega) b1 (by omega) b3 e
      rw [if_neg f3, if_neg f3]
      by_cases f4 : m_X8_isIn (q.1 14 (Int32.toNatClampNeg x)) fi la = 0
      · rw [if_pos f4, if_pos f4]; exact ih _ _ _ (by omega) (by omega) b1 (by omega) b3 e
      rw [if_neg f4, if_neg f4]
      by_cases f5 : bf = k
      · have z0 : lf = 0 := Int32.toInt_inj.mp (by rw [e, f5, kk_0, Int.sub_self])
        rw [if_pos f5, if_pos z0]
      · have f5' := cv_ne f5
        have z0 : ¬ lf = 0 := fun z => f5' (by have z1 := cv_eq z; rw [e, kk_0] at z1; omega)
        rw [if_neg f5, if_neg z0]
        have e2 : (bf + 1).toInt = bf.toInt + 1 := by
          have a2 := ad_o bf 1
          clear ih h t0 z0 f5'
          omega
        have e3 : (lf + (-1)).toInt = lf.toInt - 1 := fi_z e b1 b3
        refine ih _ _ _ ?_ ?_ ?_ ?_ ?_ ?_
        · omega
        · omega
        · omega
        · omega
        · rw [e2]; exact Int.add_one_le_of_lt (Int.lt_iff_le_and_ne.mpr ⟨b3, f5'⟩)
        · rw [e3, e2, e]; omega
  exact this 66 k 0 0 (by decide) (by decide) (by decide) (by decide) hk (by rw [kk_0, Int.sub_zero])
