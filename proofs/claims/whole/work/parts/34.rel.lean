/-! office and reference side by side -/
def lst (q : qM) (l : Nat) : List Nat := (List.range (Int32.toNatClampNeg (q.1 27 l))).map (fun k => Int32.toNatClampNeg (q.1 26 (64 * l + k)))
def bts (n : Nat) : List Nat := (List.range 64).filter (fun r => n.testBit r)
def G1 (c : qC) (q : qM) : Prop := c.1 0 0 7 = q.1 12 0 ∧ c.1 0 0 8 = q.1 25 0 ∧ c.1 0 0 9 = q.1 3 0 ∧ c.1 0 0 10 = q.1 2 0 ∧ c.1 1 0 = q.1 1
def G2 (c : qC) (q : qM) : Prop := c.1 7 0 2 = q.1 31 0 ∧ c.1 8 0 = q.1 32 ∧ c.2 9 0 = q.2 33
def G3 (c : qC) (q : qM) : Prop := (∀ j, c.1 10 j 3 = q.1 4 j ∧ c.1 10 j 4 = q.1 5 j ∧ 0 ≤ (q.1 4 j).toInt ∧ (q.1 4 j).toInt ≤ 3) ∧ (∀ j i, i < 6 → c.1 11 j i = q.1 7 (6 * j + i) ∧ c.1 12 j i = q.1 6 (6 * j + i) ∧ c.1 13 j i = q.1 8 (6 * j + i)) ∧ (∀ (j a b : Nat), a ≤ b → (b : Int) < (q.1 5 j).toInt → (q.1 7 (6 * j + a)).toInt ≤ (q.1 7 (6 * j + b)).toInt)
def G4 (c : qC) (q : qM) : Prop := ∀ f, f < 16 → (c.1 3 0 f = 0 ↔ q.1 9 f = -1) ∧ (c.1 3 0 f = 0 → q.1 10 f = -1 ∧ q.1 11 f = -1) ∧ (¬ c.1 3 0 f = 0 → c.1 14 f 0 = nI f ∧ c.1 14 f 1 = q.1 9 f ∧ c.1 14 f 2 = q.1 10 f ∧ c.1 14 f 3 = q.1 11 f)
def G5 (c : qC) (q : qM) : Prop := (∀ r, c.1 16 r 0 = q.1 13 r ∧ c.1 16 r 1 = q.1 15 r ∧ c.2 16 r 2 = q.2 16 r ∧ c.1 16 r 3 = q.1 17 (3 * r) ∧ c.1 16 r 4 = q.1 17 (3 * r + 1) ∧ c.1 16 r 5 = q.1 17 (3 * r + 2) ∧ c.1 16 r 6 = q.1 14 r ∧ c.1 16 r 7 = q.1 18 r) ∧ (∀ r : Nat, (q.1 12 0).toInt ≤ (r : Int) → q.1 18 r = 0) ∧ (∀ i, -1 ≤ (q.1 17 i).toInt ∧ (q.1 17 i).toInt ≤ 99)
def G6 (c : qC) (q : qM) : Prop := ∀ h, c.1 15 h 0 = q.1 19 h ∧ c.1 15 h 1 = q.1 20 h ∧ c.1 15 h 2 = q.1 21 h ∧ c.1 15 h 3 = q.1 22 h ∧ c.1 15 h 4 = q.1 23 h ∧ c.1 15 h 5 = q.1 24 h
def G7 (c : qC) (q : qM) : Prop := (∀ l, c.1 17 l 0 = q.1 28 l ∧ c.1 17 l 2 = q.1 29 l ∧ 0 ≤ (q.1 29 l).toInt ∧ (q.1 29 l).toInt ≤ 255) ∧ (∀ l : Nat, (q.1 25 0).toInt ≤ (l : Int) → q.1 29 l = 0 ∧ q.1 30 l = 0) ∧ (∀ l : Nat, (l : Int) < (q.1 25 0).toInt → (c.1 17 l 3 = 0 ↔ ¬ q.1 30 l = 0)) ∧ (∀ l, l < 16 → ∃ n, n < 2 ^ 64 ∧ c.2 17 l 1 = lN n ∧ lst q l = bts n)
def Rl (c : qC) (q : qM) : Prop := G1 c q ∧ G2 c q ∧ G3 c q ∧ G4 c q ∧ G5 c q ∧ G6 c q ∧ G7 c q
/-- alike on some kinds, on some fields -/
def ek (K : List Nat) (c c' : qC) : Prop := ∀ k, k ∈ K → c.1 k = c'.1 k ∧ c.2 k = c'.2 k
def em (F : List Nat) (q q' : qM) : Prop := ∀ f, f ∈ F → q.1 f = q'.1 f ∧ q.2 f = q'.2 f
theorem ek_rf {K : List Nat} (c : qC) : ek K c c := fun _ _ => ⟨rfl, rfl⟩
theorem em_rf {K : List Nat} (c : qM) : em K c c := fun _ _ => ⟨rfl, rfl⟩
theorem ek_tr {K : List Nat} {a b c : qC} (h : ek K a b) (h2 : ek K b c) : ek K a c := fun k hk => ⟨(h k hk).1.trans (h2 k hk).1, (h k hk).2.trans (h2 k hk).2⟩
theorem em_tr {K : List Nat} {a b c : qM} (h : em K a b) (h2 : em K b c) : em K a c := fun k hk => ⟨(h k hk).1.trans (h2 k hk).1, (h k hk).2.trans (h2 k hk).2⟩
theorem ek_i {K : List Nat} {c c' : qC} {k j i : Nat} {v : Int32} (hk : K.contains k = false) (h : ek K c c') : ek K (cq_i c k j i v) c' := by
  refine ek_tr (fun a ha => ?_) h
  have : a ≠ k := fun e => by subst e; rw [List.contains_iff_mem.mpr ha] at hk; cases hk
  exact ⟨cq_nk this, rfl⟩
theorem ek_l {K : List Nat} {c c' : qC} {k j i : Nat} {v : Int64} (hk : K.contains k = false) (h : ek K c c') : ek K (cq_l c k j i v) c' := by
  refine ek_tr (fun a ha => ?_) h
  have : a ≠ k := fun e => by subst e; rw [List.contains_iff_mem.mpr ha] at hk; cases hk
  exact ⟨rfl, funext fun b => cl_nj (fun e => this e.1)⟩
theorem em_i {K : List Nat} {c c' : qM} {k i : Nat} {v : Int32} (hk : K.contains k = false) (h : em K c c') : em K (mq_i c k i v) c' := by
  refine em_tr (fun a ha => ?_) h
  have : a ≠ k := fun e => by subst e; rw [List.contains_iff_mem.mpr ha] at hk; cases hk
  exact ⟨mq_i_ne c v this, rfl⟩
theorem em_l {K : List Nat} {c c' : qM} {k i : Nat} {v : Int64} (hk : K.contains k = false) (h : em K c c') : em K (mq_l c k i v) c' := by
  refine em_tr (fun a ha => ?_) h
  have : a ≠ k := fun e => by subst e; rw [List.contains_iff_mem.mpr ha] at hk; cases hk
  exact ⟨rfl, mq_l_ne c v this⟩
theorem ek_w {K : List Nat} {c c' : qC} {kd a b n : Int32} {dg : Int64} (h7 : K.contains 7 = false) (h8 : K.contains 8 = false) (h9 : K.contains 9 = false) (h : ek K c c') : ek K (m_X0_write c kd a b n dg) c' := by
  unfold m_X0_write m_X0_setNumber
  exact ek_i h7 (ek_l h9 (ek_i h8 (ek_i h8 (ek_i h8 (ek_i h8 h)))))
theorem em_w {K : List Nat} {c c' : qM} {kd a b n : Int32} (h7 : K.contains 31 = false) (h8 : K.contains 32 = false) (h9 : K.contains 33 = false) (h : em K c c') : em K (m_X8_write c kd a b n) c' := by
  unfold m_X8_write
  exact em_i h7 (em_l h9 (em_i h8 (em_i h8 (em_i h8 (em_i h8 h)))))
theorem G1_fr {c c' : qC} {q q' : qM} (h : G1 c' q') (hc : ek [0, 1] c c') (hq : em [1, 2, 3, 12, 25] q q') : G1 c q := by
  unfold G1 at h ⊢
  rw [(hc 0 (by decide)).1, (hc 1 (by decide)).1, (hq 1 (by decide)).1, (hq 2 (by decide)).1, (hq 3 (by decide)).1, (hq 12 (by decide)).1, (hq 25 (by decide)).1]
  exact h
theorem G2_fr {c c' : qC} {q q' : qM} (h : G2 c' q') (hc : ek [7, 8, 9] c c') (hq : em [31, 32, 33] q q') : G2 c q := by
  unfold G2 at h ⊢
  rw [(hc 7 (by decide)).1, (hc 8 (by decide)).1, (hc 9 (by decide)).2, (hq 31 (by decide)).1, (hq 32 (by decide)).1, (hq 33 (by decide)).2]
  exact h
theorem G3_fr {c c' : qC} {q q' : qM} (h : G3 c' q') (hc : ek [10, 11, 12, 13] c c') (hq : em [4, 5, 6, 7, 8] q q') : G3 c q := by
  unfold G3 at h ⊢
  rw [(hc 10 (by decide)).1, (hc 11 (by decide)).1, (hc 12 (by decide)).1, (hc 13 (by decide)).1, (hq 4 (by decide)).1, (hq 5 (by decide)).1, (hq 6 (by decide)).1, (hq 7 (by decide)).1, (hq 8 (by decide)).1]
  exact h
theorem G4_fr {c c' : qC} {q q' : qM} (h : G4 c' q') (hc : ek [3, 14] c c') (hq : em [9, 10, 11] q q') : G4 c q := by
  unfold G4 at h ⊢
  rw [(hc 3 (by decide)).1, (hc 14 (by decide)).1, (hq 9 (by decide)).1, (hq 10 (by decide)).1, (hq 11 (by decide)).1]
  exact h
theorem G5_fr {c c' : qC} {q q' : qM} (h : G5 c' q') (hc : ek [16] c c') (hq : em [12, 13, 14, 15, 16, 17, 18] q q') : G5 c q := by
  unfold G5 at h ⊢
  rw [(hc 16 (by decide)).1, (hc 16 (by decide)).2, (hq 12 (by decide)).1, (hq 13 (by decide)).1, (hq 14 (by decide)).1, (hq 15 (by decide)).1, (hq 16 (by decide)).2, (hq 17 (by decide)).1, (hq 18 (by decide)).1]
  exact h
theorem G6_fr {c c' : qC} {q q' : qM} (h : G6 c' q') (hc : ek [15] c c') (hq : em [19, 20, 21, 22, 23, 24] q q') : G6 c q := by
  unfold G6 at h ⊢
  rw [(hc 15 (by decide)).1, (hq 19 (by decide)).1, (hq 20 (by decide)).1, (hq 21 (by decide)).1, (hq 22 (by decide)).1, (hq 23 (by decide)).1, (hq 24 (by decide)).1]
  exact h
theorem G7_fr {c c' : qC} {q q' : qM} (h : G7 c' q') (hc : ek [17] c c') (hq : em [25, 26, 27, 28, 29, 30] q q') : G7 c q := by
  unfold G7 lst at h ⊢
  rw [(hc 17 (by decide)).1, (hc 17 (by decide)).2, (hq 25 (by decide)).1, (hq 26 (by decide)).1, (hq 27 (by decide)).1, (hq 28 (by decide)).1, (hq 29 (by decide)).1, (hq 30 (by decide)).1]
  exact h
/-- the number that says what was thrown is none of the relation's -/
theorem Rl_t {c : qC} {q : qM} {v : Int32} (h : Rl c q) : Rl c (mq_i q 0 0 v) :=
  ⟨G1_fr h.1 (ek_rf _) (em_i rfl (em_rf _)), G2_fr h.2.1 (ek_rf _) (em_i rfl (em_rf _)), G3_fr h.2.2.1 (ek_rf _) (em_i rfl (em_rf _)), G4_fr h.2.2.2.1 (ek_rf _) (em_i rfl (em_rf _)), G5_fr h.2.2.2.2.1 (ek_rf _) (em_i rfl (em_rf _)), G6_fr h.2.2.2.2.2.1 (ek_rf _) (em_i rfl (em_rf _)), G7_fr h.2.2.2.2.2.2 (ek_rf _) (em_i rfl (em_rf _))⟩
/-- links -/
theorem lk_m (a b : Int64) : m_X0_mix a b = m_X8_linked a b := rfl
def dgw (q : qM) (r : Int32) : Int64 := if m_X8_isIn r 0 (q.1 12 0 - 1) = 0 then 0 else q.2 16 (Int32.toNatClampNeg r)
theorem i4_0 (i : Int32) : 4 * i + 0 = 4 * i := by simp
theorem lk_e {c : qC} {q : qM} (h8 : c.1 8 0 = q.1 32) (h9 : c.2 9 0 = q.2 33) (i : Int32) (dg : Int64) (hd : q.1 32 (Int32.toNatClampNeg (4 * i)) = 5 ∨ q.1 32 (Int32.toNatClampNeg (4 * i)) = 11 → dg = dgw q (q.1 32 (Int32.toNatClampNeg (4 * i + 1)))) : m_X0_linkFor c i dg = m_X8_linkOf q i := by
  unfold m_X0_linkFor m_X8_linkOf m_X0_number
  rw [h8, h9, i4_0]
  simp only [lk_m]
  unfold dgw at hd
  by_cases c0 : i = 0
  · rw [if_pos c0, if_pos c0]
    by_cases c5 : q.1 32 (Int32.toNatClampNeg (4 * i)) = 5
    · rw [if_pos c5, if_pos c5, hd (Or.inl c5)]
      split <;> rfl
    · rw [if_neg c5, if_neg c5]
      by_cases c11 : q.1 32 (Int32.toNatClampNeg (4 * i)) = 11
      · rw [if_pos c11, if_pos c11, hd (Or.inr c11)]
        split <;> rfl
      · rw [if_neg c11, if_neg c11]
  · rw [if_neg c0, if_neg c0]
    by_cases c5 : q.1 32 (Int32.toNatClampNeg (4 * i)) = 5
    · rw [if_pos c5, if_pos c5, hd (Or.inl c5)]
      split <;> rfl
    · rw [if_neg c5, if_neg c5]
      by_cases c11 : q.1 32 (Int32.toNatClampNeg (4 * i)) = 11
      · rw [if_pos c11, if_pos c11, hd (Or.inr c11)]
        split <;> rfl
      · rw [if_neg c11, if_neg c11]
theorem i4_e {s : Int32} (h1 : 0 ≤ s.toInt) (h2 : s.toInt ≤ 400) (w : Int32) (k : Int) (hw : w.toInt = k) (hk : 0 ≤ k) (hk2 : k ≤ 3) : ((Int32.toNatClampNeg (4 * s + w) : Nat) : Int) = 4 * s.toInt + k := by
  have a1 := mu_o 4 4 s rfl
  have a2 := ad_o (4 * s) w
  rw [tn_e (by omega)]
  omega
theorem i4_f {s : Int32} (h1 : 0 ≤ s.toInt) (h2 : s.toInt ≤ 400) : ((Int32.toNatClampNeg (4 * s) : Nat) : Int) = 4 * s.toInt := by
  have := i4_e h1 h2 0 0 rfl (by decide) (by decide)
  rw [i4_0] at this
  omega
theorem G2_w {c : qC} {q : qM} {kd a b n : Int32} {dg : Int64} (h : G2 c q) (hs : 0 ≤ (q.1 31 0).toInt ∧ (q.1 31 0).toInt ≤ 399) (hd : kd = 5 ∨ kd = 11 → dg = dgw q a) : G2 (m_X0_write c kd a b n dg) (m_X8_write q kd a b n) := by
  obtain ⟨h1, h2, h3⟩ := h
  unfold m_X0_write m_X0_setNumber m_X8_write
  rw [h1, i4_0]
  have e0 := i4_f hs.1 (show (q.1 31 0).toInt ≤ 400 by omega)
  have e1 := i4_e hs.1 (show (q.1 31 0).toInt ≤ 400 by omega) 1 1 rfl (by decide) (by decide)
  have e2 := i4_e hs.1 (show (q.1 31 0).toInt ≤ 400 by omega) 2 2 rfl (by decide) (by decide)
  have e3 := i4_e hs.1 (show (q.1 31 0).toInt ≤ 400 by omega) 3 3 rfl (by decide) (by decide)
  generalize hi0 : Int32.toNatClampNeg (4 * q.1 31 0) = i0 at *
  generalize hi1 : Int32.toNatClampNeg (4 * q.1 31 0 + 1) = i1 at *
  generalize hi2 : Int32.toNatClampNeg (4 * q.1 31 0 + 2) = i2 at *
  generalize hi3 : Int32.toNatClampNeg (4 * q.1 31 0 + 3) = i3 at *
  have m8 : (cq_i (cq_i (cq_i (cq_i c 8 0 i0 kd) 8 0 i1 a) 8 0 i2 b) 8 0 i3 n).1 8 0 = (mq_i (mq_i (mq_i (mq_i q 32 i0 kd) 32 i1 a) 32 i2 b) 32 i3 n).1 32 := by
    rw [cq_cell, cq_cell, cq_cell, cq_cell, mq_i_self, mq_i_self, mq_i_self, mq_i_self, h2]
  have m9 : (cq_i (cq_i (cq_i (cq_i c 8 0 i0 kd) 8 0 i1 a) 8 0 i2 b) 8 0 i3 n).2 9 0 = (mq_i (mq_i (mq_i (mq_i q 32 i0 kd) 32 i1 a) 32 i2 b) 32 i3 n).2 33 := h3
  have u0 : (mq_i (mq_i (mq_i (mq_i q 32 i0 kd) 32 i1 a) 32 i2 b) 32 i3 n).1 32 i0 = kd := by
    rw [mq_i_self, mq_i_self, mq_i_self, mq_i_self]
    unfold upd
    rw [if_neg (by omega), if_neg (by omega), if_neg (by omega), if_pos rfl]
  have u1 : (mq_i (mq_i (mq_i (mq_i q 32 i0 kd) 32 i1 a) 32 i2 b) 32 i3 n).1 32 i1 = a := by
    rw [mq_i_self, mq_i_self, mq_i_self, mq_i_self]
    unfold upd
    rw [if_neg (by omega), if_neg (by omega), if_pos rfl]
  have d0 : dgw (mq_i (mq_i (mq_i (mq_i q 32 i0 kd) 32 i1 a) 32 i2 b) 32 i3 n) a = dgw q a := by
    unfold dgw
    rw [mq_ne (by decide), mq_ne (by decide), mq_ne (by decide), mq_ne (by decide)]
    rfl
  have L := lk_e m8 m9 (q.1 31 0) dg (fun hk => by rw [hi1, u1, d0]; rw [hi0, u0] at hk; exact hd hk)
  refine ⟨?_, ?_, ?_⟩
  · rw [cq_same, mq_same, cq_ne (by decide), cq_ne (by decide), cq_ne (by decide), cq_ne (by decide), h1]
  · rw [cq_nk (by decide), mq_i_ne _ _ (by decide)]
    exact m8
  · show (cq_l _ 9 0 _ _).2 9 0 = (mq_l _ 33 _ _).2 33
    rw [cq_cell_l, mq_l_self, m9, L]
theorem Rl_w {c : qC} {q : qM} {kd a b n : Int32} {dg : Int64} (h : Rl c q) (hs : 0 ≤ (q.1 31 0).toInt ∧ (q.1 31 0).toInt ≤ 399) (hd : kd = 5 ∨ kd = 11 → dg = dgw q a) : Rl (m_X0_write c kd a b n dg) (m_X8_write q kd a b n) :=
  ⟨G1_fr h.1 (ek_w rfl rfl rfl (ek_rf _)) (em_w rfl rfl rfl (em_rf _)), G2_w h.2.1 hs hd, G3_fr h.2.2.1 (ek_w rfl rfl rfl (ek_rf _)) (em_w rfl rfl rfl (em_rf _)), G4_fr h.2.2.2.1 (ek_w rfl rfl rfl (ek_rf _)) (em_w rfl rfl rfl (em_rf _)), G5_fr h.2.2.2.2.1 (ek_w rfl rfl rfl (ek_rf _)) (em_w rfl rfl rfl (em_rf _)), G6_fr h.2.2.2.2.2.1 (ek_w rfl rfl rfl (ek_rf _)) (em_w rfl rfl rfl (em_rf _)), G7_fr h.2.2.2.2.2.2 (ek_w rfl rfl rfl (ek_rf _)) (em_w rfl rfl rfl (em_rf _))⟩
