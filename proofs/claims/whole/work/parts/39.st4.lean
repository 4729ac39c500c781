/-! what is only looked at -/
theorem z20' : ¬ (2 : Int32) = 0 := by decide
theorem kk_m1 : (-1 : Int32).toInt = -1 := rfl
theorem kk_0 : (0 : Int32).toInt = 0 := rfl
theorem kk_1 : (1 : Int32).toInt = 1 := rfl
theorem st_later {c : qC} {q : qM} (h : RI c q) (d y m : Int32) : (m_X8_later q d y m).2.1 0 0 = wkT (m_X7_later d y m).1 ∧ ((m_X7_later d y m).1 = 0 → (m_X7_later d y m).2 = (m_X8_later q d y m).1) ∧ RI c (m_X8_later q d y m).2 := by
  unfold m_X7_later m_X8_later
  rw [kDa, kTe]
  by_cases h1 : m_X8_isIn d 0 120000 = 0
  · rw [if_pos h1, if_pos h1, if_neg z20]; exact ⟨rfl, fun x => absurd x z20, RI_t h⟩
  rw [if_neg h1, if_neg h1, if_pos rfl]
  by_cases h2 : m_X8_isTerm y m = 0
  · rw [if_pos h2, if_pos h2, if_neg z20]; exact ⟨rfl, fun x => absurd x z20, RI_t h⟩
  rw [if_neg h2, if_neg h2, if_pos rfl]
  have hd := is_t h1
  have k1 : (120000 : Int32).toInt = 120000 := rfl
  have k0 : (0 : Int32).toInt = 0 := rfl
  have htm := tm_t h2
  have e12 := mu_o 12 12 y rfl
  have e13 := ad_o (12 * y) m
  refine ⟨rfl, fun _ => ?_, RI_t h⟩
  dsimp only
  rw [Int32.mul_comm y 12]
  exact add_e d _ (by omega) (by omega) (by omega) (by omega)
theorem st_act {c : qC} {q : qM} (h : RI c q) (i w : Int32) : (m_X8_act q i w).2.1 0 0 = (m_X7_act c i w).1 ∧ ((m_X7_act c i w).1 = 0 → (m_X7_act c i w).2 = (m_X8_act q i w).1) ∧ RI c (m_X8_act q i w).2 := by
  unfold m_X7_act m_X8_act
  rw [kAc h, kNu]
  by_cases h1 : m_X8_noAct q i = 0
  case neg => rw [if_neg h1, if_neg h1, if_neg z10]; exact ⟨rfl, fun x => absurd x z10, RI_t h⟩
  rw [if_pos h1, if_pos h1, if_pos rfl]
  by_cases h2 : m_X8_isIn w 0 3 = 0
  · rw [if_pos h2, if_pos h2, if_neg z20]; exact ⟨rfl, fun x => absurd x z20, RI_t h⟩
  rw [if_neg h2, if_neg h2, if_pos rfl]
  refine ⟨rfl, fun _ => ?_, RI_t h⟩
  dsimp only [m_X0_number]
  rw [h.1.2.1.2.1]
theorem st_link {c : qC} {q : qM} (h : RI c q) (i : Int32) : (m_X8_link q i).2.1 0 0 = (m_X7_link c i).1 ∧ ((m_X7_link c i).1 = 0 → (m_X7_link c i).2 = (m_X8_link q i).1) ∧ RI c (m_X8_link q i).2 := by
  unfold m_X7_link m_X8_link
  rw [kAc h]
  by_cases h1 : m_X8_noAct q i = 0
  case neg => rw [if_neg h1, if_neg h1, if_neg z10]; exact ⟨rfl, fun x => absurd x z10, RI_t h⟩
  rw [if_pos h1, if_pos h1, if_pos rfl]
  refine ⟨rfl, fun _ => ?_, RI_t h⟩
  dsimp only
  rw [h.1.2.1.2.2]
theorem st_read {c : qC} {q : qM} (h : RI c q) (r : Int32) : (m_X8_read q r).2.1 0 0 = wkO (m_X7_read c r).1 ∧ ((m_X7_read c r).1 = 0 → (m_X7_read c r).2 = (m_X8_read q r).1) ∧ RI c (m_X8_read q r).2 := by
  unfold m_X7_read m_X8_read
  have g5 := h.1.2.2.2.2.1.1 (Int32.toNatClampNeg r)
  rw [kRe h, g5.2.2.2.2.2.2.2, g5.2.2.1]
  by_cases h1 : m_X8_noRecord q r = 0
  case neg => rw [if_neg h1, if_neg h1, if_neg z10]; exact ⟨rfl, fun x => absurd x z10, RI_t h⟩
  rw [if_pos h1, if_pos h1, if_pos rfl]
  by_cases h2 : q.1 18 (Int32.toNatClampNeg r) = 0
  · rw [if_pos h2, if_pos h2]; exact ⟨rfl, fun _ => rfl, RI_t h⟩
  · rw [if_neg h2, if_neg h2]; exact ⟨rfl, fun x => absurd x z30, RI_t h⟩
/-- a record that is there, its folder -/
theorem rec_f {c : qC} {q : qM} (h : RI c q) {r : Nat} (hr : (r : Int) < (q.1 12 0).toInt) : Int32.toNatClampNeg (q.1 13 r) < 16 ∧ ¬ c.1 3 0 (Int32.toNatClampNeg (q.1 13 r)) = 0 ∧ nI (Int32.toNatClampNeg (q.1 13 r)) = q.1 13 r := by
  obtain ⟨hR, hg, hl, hc⟩ := h
  have h13 := hg.2.2.1 r
  have tn := tn_e (r := q.1 13 r) h13.1
  have hp := hc.2.2.2.2.2.2.1 r (by rw [hR.1.1]; exact hr)
  have hf := hc.1 r hp
  rw [(hR.2.2.2.2.1.1 r).1] at hf
  exact ⟨by omega, hf, Int32.toInt_inj.mp (by rw [nI_toInt (by omega)]; omega)⟩
theorem rec_g {c : qC} {q : qM} (h : RI c q) {r : Nat} (hr : (r : Int) < (q.1 12 0).toInt) : c.1 14 (Int32.toNatClampNeg (c.1 16 r 0)) 0 = q.1 13 r ∧ c.1 14 (Int32.toNatClampNeg (c.1 16 r 0)) 1 = q.1 9 (Int32.toNatClampNeg (q.1 13 r)) ∧ c.1 14 (Int32.toNatClampNeg (c.1 16 r 0)) 2 = q.1 10 (Int32.toNatClampNeg (q.1 13 r)) ∧ c.1 14 (Int32.toNatClampNeg (c.1 16 r 0)) 3 = q.1 11 (Int32.toNatClampNeg (q.1 13 r)) := by
  obtain ⟨a, b, d⟩ := rec_f h hr
  have h4 := (h.1.2.2.2.1 _ a).2.2 b
  rw [(h.1.2.2.2.2.1.1 r).1]
  exact ⟨h4.1.trans d, h4.2⟩
theorem ix3 {R : Int32} (h1 : 0 ≤ R.toInt) (h2 : R.toInt ≤ 63) : Int32.toNatClampNeg (3 * R) = 3 * Int32.toNatClampNeg R ∧ Int32.toNatClampNeg (3 * R + 1) = 3 * Int32.toNatClampNeg R + 1 ∧ Int32.toNatClampNeg (3 * R + 2) = 3 * Int32.toNatClampNeg R + 2 := by
  have a1 := mu_o 3 3 R rfl
  have a2 := ad_o (3 * R) 1
  have a3 := ad_o (3 * R) 2
  have k1 : (1 : Int32).toInt = 1 := rfl
  have k2 : (2 : Int32).toInt = 2 := rfl
  have e0 := tn_e h1
  have e1 := tn_e (r := 3 * R) (by omega)
  have e2 := tn_e (r := 3 * R + 1) (by omega)
  have e3 := tn_e (r := 3 * R + 2) (by omega)
  omega
theorem hk_e {c : qC} {q : qM} (h : RI c q) {R : Int32} (h1 : 0 ≤ R.toInt) (h2 : R.toInt ≤ 63) (key : Int32) : m_X3_hasKey c (Int32.toNatClampNeg R) key = m_X8_hasKey q R key := by
  unfold m_X3_hasKey m_X8_hasKey
  obtain ⟨i0, i1, i2⟩ := ix3 h1 h2
  have g := h.1.2.2.2.2.1.1 (Int32.toNatClampNeg R)
  rw [i0, i1, i2, g.2.2.2.1, g.2.2.2.2.1, g.2.2.2.2.2.1]
theorem if_e {c : qC} {q : qM} (h : RI c q) (r : Nat) (a b : Int32) : m_X3_isFiledFrom c r a b = m_X8_isIn (q.1 14 r) a b := by
  unfold m_X3_isFiledFrom m_X8_isIn
  rw [(h.1.2.2.2.2.1.1 r).2.2.2.2.2.2.1]
theorem cov_e {c : qC} {q : qM} (h : RI c q) {R : Int32} (h1 : 0 ≤ R.toInt) (h2 : R.toInt < (q.1 12 0).toInt) (H : Nat) (n9 : Int32) : ((if (q.1 19 H) = 0 then n9 else (if ((if (q.1 20 H) = (-1) then 1 else (if (q.1 20 H) = (q.1 13 (Int32.toNatClampNeg R)) then 1 else 0)) : Int32) = 0 then n9 else (if ((if (q.1 21 H) = (-1) then 1 else (if (q.1 21 H) = (q.1 9 (Int32.toNatClampNeg (q.1 13 (Int32.toNatClampNeg R)))) then 1 else 0)) : Int32) = 0 then n9 else (if ((if (q.1 22 H) = (-1) then 1 else (if (m_X8_hasKey q R (q.1 22 H)) = 0 then 0 else 1)) : Int32) = 0 then n9 else (if (m_X8_isIn (q.1 14 (Int32.toNatClampNeg R)) (q.1 23 H) (q.1 24 H)) = 0 then n9 else (n9 + 1)))))) : Int32) = if m_X5_covers c H (Int32.toNatClampNeg R) = 0 then n9 else n9 + 1 := by
  have h64 := h.2.1.2.2.2.1
  have tn := tn_e h1
  obtain ⟨f0, f1, f2, f3⟩ := rec_g h (r := Int32.toNatClampNeg R) (by omega)
  obtain ⟨a0, a1, a2, a3, a4, a5⟩ := h.1.2.2.2.2.2.1 H
  unfold m_X5_covers
  rw [a0, a1, a2, a3, a4, a5, f0, f1, hk_e h h1 (by omega), if_e h]
  by_cases b0 : q.1 19 H = 0
  · rw [if_pos b0, if_pos b0, if_pos rfl]
  rw [if_neg b0, if_neg b0]
  by_cases b5 : m_X8_isIn (q.1 14 (Int32.toNatClampNeg R)) (q.1 23 H) (q.1 24 H) = 0
  · simp only [b5, if_true]
    repeat' split
    all_goals first | rfl | (exfalso; contradiction) | skip
    all_goals simp_all
  · simp only [b5, if_false]
    by_cases b1 : q.1 20 H = -1
    · simp only [b1, if_true, z10, if_false]
      by_cases b2 : q.1 21 H = -1
      · simp only [b2, if_true, z10, if_false]
      · simp only [b2, if_false]
        by_cases b2' : q.1 21 H = q.1 9 (Int32.toNatClampNeg (q.1 13 (Int32.toNatClampNeg R)))
        · simp only [b2', if_true, z10, if_false]
        · simp only [b2', if_false, if_true]
    · simp only [b1, if_false]
      by_cases b1' : q.1 20 H = q.1 13 (Int32.toNatClampNeg R)
      · simp only [b1', if_true, z10, if_false]
        by_cases b2 : q.1 21 H = -1
        · simp only [b2, if_true, z10, if_false]
        · simp only [b2, if_false]
          by_cases b2' : q.1 21 H = q.1 9 (Int32.toNatClampNeg (q.1 13 (Int32.toNatClampNeg R)))
          · simp only [b2', if_true, z10, if_false]
          · simp only [b2', if_false, if_true]
      · simp only [b1', if_false, if_true]
theorem ho_e {c : qC} {q : qM} (h : RI c q) {R : Int32} (h1 : 0 ≤ R.toInt) (h2 : R.toInt < (q.1 12 0).toInt) : m_X7_holdsOver c (Int32.toNatClampNeg R) = m_X8_holds q R := by
  unfold m_X7_holdsOver m_X8_holds
  have : ∀ (n : Nat) (a x : Int32), m_X7_holdsOver_lp c (Int32.toNatClampNeg R) n a x = m_X8_holds_lp q R n a x := by
    intro n
    induction n with
    | zero => intro a x; rfl
    | succ n ih =>
      intro a x
      rw [m_X7_holdsOver_lp, m_X8_holds_lp, cov_e h h1 h2]
      by_cases e : 8 ≤ x
      · rw [if_pos e, if_pos e]
      · rw [if_neg e, if_neg e]
        by_cases e2 : m_X5_covers c (Int32.toNatClampNeg x) (Int32.toNatClampNeg R) = 0
        · rw [if_pos e2, if_pos e2, ih]
        · rw [if_neg e2, if_neg e2, ih]
  exact this 9 0 0
theorem st_covered {c : qC} {q : qM} (h : RI c q) (r : Int32) : (m_X8_covered q r).2.1 0 0 = (m_X7_covered c r).1 ∧ ((m_X7_covered c r).1 = 0 → (m_X7_covered c r).2 = (m_X8_covered q r).1) ∧ RI c (m_X8_covered q r).2 := by
  unfold m_X7_covered m_X8_covered
  rw [kRe h]
  by_cases h1 : m_X8_noRecord q r = 0
  case neg => rw [if_neg h1, if_neg h1, if_neg z10]; exact ⟨rfl, fun x => absurd x z10, RI_t h⟩
  rw [if_pos h1, if_pos h1, if_pos rfl]
  have hr := nr_t h.2.1 h1
  refine ⟨rfl, fun _ => ?_, RI_t h⟩
  dsimp only
  exact ho_e (RI_t h) hr.1 hr.2
/-- a loop that keeps the last place at which something holds -/
theorem scan_e {g : Nat → Int32 → Int32 → Int32} {N : Int32} {S : Int32 → Prop} [DecidablePred S] (hg : ∀ n a k, g (n + 1) a k = if N ≤ k then a else g n (if S k then k else a) (k + 1)) (hN2 : N.toInt ≤ 100) : ∀ (n : Nat) (a k : Int32), 0 ≤ k.toInt → k.toInt ≤ 100 → N.toInt - k.toInt < (n : Int) → 0 < n → (g n a k = a ∧ ∀ x : Int32, k.toInt ≤ x.toInt → x.toInt < N.toInt → ¬ S x) ∨ (k.toInt ≤ (g n a k).toInt ∧ (g n a k).toInt < N.toInt ∧ S (g n a k) ∧ ∀ x : Int32, (g n a k).toInt < x.toInt → x.toInt < N.toInt → ¬ S x) := by
  intro n
  induction n with
  | zero => intro a k h1 h2 h3 h4; omega
  | succ n ih =>
    intro a k h1 h2 h3 h4
    rw [hg]
    by_cases c : N ≤ k
    · rw [if_pos c]
      have := cv_le c
      exact Or.inl ⟨rfl, fun x _ _ => by omega⟩
    · rw [if_neg c]
      have c1 := cv_nle c
      have a1 := ad_o k 1
      have k1 : (1 : Int32).toInt = 1 := rfl
      have e1 : (k + 1).toInt = k.toInt + 1 := by omega
      have := ih (if S k then k else a) (k + 1) (by omega) (by omega) (by omega) (by omega)
      rcases this with ⟨r1, r2⟩ | ⟨r1, r2, r3, r4⟩
      · by_cases s : S k
        · rw [if_pos s] at r1 ⊢
          rw [r1]
          exact Or.inr ⟨Int.le_refl _, c1, s, fun x hx hx2 => r2 x (by omega) hx2⟩
        · rw [if_neg s] at r1 ⊢
          rw [r1]
          refine Or.inl ⟨rfl, fun x hx hx2 => ?_⟩
          by_cases e : x = k
          · rw [e]; exact s
          · have := cv_ne e
            exact r2 x (by omega) hx2
      · exact Or.inr ⟨by omega, r2, r3, r4⟩
theorem tf_e {c : qC} {q : qM} (h : RI c q) {cl : Int32} (h1 : 0 ≤ cl.toInt) (h2 : cl.toInt ≤ 7) (day : Int32) : m_X6_termFor c (Int32.toNatClampNeg cl) day = m_X8_termFor q cl day := by
  have g3 := h.1.2.2.1
  have hs := h.2.1.1 (Int32.toNatClampNeg cl)
  have k0 : (0 : Int32).toInt = 0 := rfl
  have k1 : (1 : Int32).toInt = 1 := rfl
  have tc := tn_e h1
  unfold m_X6_termFor m_X8_termFor
  have O := scan_e (g := m_X6_termFor_lp c (Int32.toNatClampNeg cl) day) (N := q.1 5 (Int32.toNatClampNeg cl)) (S := fun k => c.1 11 (Int32.toNatClampNeg cl) (Int32.toNatClampNeg k) ≤ day ∨ ¬ c.1 13 (Int32.toNatClampNeg cl) (Int32.toNatClampNeg k) = 0) (fun n a k => by
    rw [m_X6_termFor_lp, (g3.1 _).2.1]
    by_cases e : q.1 5 (Int32.toNatClampNeg cl) ≤ k
    · rw [if_pos e, if_pos e]
    rw [if_neg e, if_neg e]
    by_cases e1 : c.1 11 (Int32.toNatClampNeg cl) (Int32.toNatClampNeg k) ≤ day
    · rw [if_pos e1, if_pos (Or.inl e1)]
    rw [if_neg e1]
    by_cases e2 : c.1 13 (Int32.toNatClampNeg cl) (Int32.toNatClampNeg k) = 0
    · rw [if_pos e2, if_neg (fun x => by rcases x with x | x; exact e1 x; exact x e2)]
    · rw [if_neg e2, if_pos (Or.inr e2)]) (by omega) 8 0 1 (by decide) (by decide) (by omega) (by decide)
  have V := scan_e (g := m_X8_termFor_lp1 q cl day) (N := q.1 5 (Int32.toNatClampNeg cl)) (S := fun k => ¬ day < q.1 7 (Int32.toNatClampNeg (6 * cl + k))) (fun n a k => by
    rw [m_X8_termFor_lp1]
    by_cases e : q.1 5 (Int32.toNatClampNeg cl) ≤ k
    · rw [if_pos e, if_pos e]
    rw [if_neg e, if_neg e]
    by_cases e1 : day < q.1 7 (Int32.toNatClampNeg (6 * cl + k))
    · rw [if_pos e1, if_neg (fun x => x e1)]
    · rw [if_neg e1, if_pos e1]) (by omega) 8 0 0 (by decide) (by decide) (by omega) (by decide)
  generalize hv : m_X8_termFor_lp1 q cl day 8 0 0 = v at V ⊢
  generalize ho : m_X6_termFor_lp c (Int32.toNatClampNeg cl) day 8 0 1 = o at O ⊢
  have v1 : 0 ≤ v.toInt ∧ v.toInt ≤ 6 := by
    rcases V with ⟨e, _⟩ | ⟨e1, e2, _⟩
    · rw [e]; decide
    · omega
  have av := ad_o v 1
  have B := scan_e (g := m_X8_termFor_lp2 q cl day) (N := q.1 5 (Int32.toNatClampNeg cl)) (S := fun k => ¬ q.1 8 (Int32.toNatClampNeg (6 * cl + k)) = 0) (fun n a k => by
    rw [m_X8_termFor_lp2]
    by_cases e : q.1 5 (Int32.toNatClampNeg cl) ≤ k
    · rw [if_pos e, if_pos e]
    rw [if_neg e, if_neg e]
    by_cases e1 : q.1 8 (Int32.toNatClampNeg (6 * cl + k)) = 0
    · rw [if_pos e1, if_neg (fun x => x e1)]
    · rw [if_neg e1, if_pos e1]) (by omega) 8 v (v + 1) (by omega) (by omega) (by omega) (by decide)
  generalize hb : m_X8_termFor_lp2 q cl day 8 v (v + 1) = b at B ⊢
  -- S's in the same words
  have P : ∀ k : Int32, 0 ≤ k.toInt → k.toInt < (q.1 5 (Int32.toNatClampNeg cl)).toInt → (c.1 11 (Int32.toNatClampNeg cl) (Int32.toNatClampNeg k) ≤ day ↔ ¬ day < q.1 7 (Int32.toNatClampNeg (6 * cl + k))) ∧ (c.1 13 (Int32.toNatClampNeg cl) (Int32.toNatClampNeg k) = q.1 8 (Int32.toNatClampNeg (6 * cl + k))) := by
    intro k a1 a2
    have tk := tn_e a1
    rw [ix6 h1 h2 a1 (by omega), (g3.2.1 _ _ (show Int32.toNatClampNeg k < 6 by omega)).1, (g3.2.1 _ _ (show Int32.toNatClampNeg k < 6 by omega)).2.2]
    refine ⟨⟨fun x y => ?_, fun x => ?_⟩, rfl⟩
    · have := cv_le x; have := cv_lt y; omega
    · exact Int32.le_iff_toInt_le.mpr (cv_nlt x)
  have M : ∀ a b : Int32, 0 ≤ a.toInt → a.toInt ≤ b.toInt → b.toInt < (q.1 5 (Int32.toNatClampNeg cl)).toInt → ¬ day < q.1 7 (Int32.toNatClampNeg (6 * cl + b)) → ¬ day < q.1 7 (Int32.toNatClampNeg (6 * cl + a)) := by
    intro a b a1 a2 a3 a4 a5
    have ta := tn_e a1
    have tb := tn_e (r := b) (by omega)
    rw [ix6 h1 h2 (by omega) (by omega)] at a4 a5
    have := g3.2.2 (Int32.toNatClampNeg cl) (Int32.toNatClampNeg a) (Int32.toNatClampNeg b) (by omega) (by omega)
    have := cv_nlt a4
    have := cv_lt a5
    omega
  have e : o = b := by
    have i0 : ∀ x : Int32, x = v → x.toInt = v.toInt := fun x e => by rw [e]
    rcases B with ⟨b1, b2⟩ | ⟨b1, b2, b3, b4⟩
    · -- no later version for all
      subst b1
      rcases V with ⟨v2, v3⟩ | ⟨v2, v3, v4, v5⟩
      · subst v2
        rcases O with ⟨o1, o2⟩ | ⟨o1, o2, o3, o4⟩
        · exact o1
        · exfalso
          rcases o3 with o3 | o3
          · exact v3 o (by omega) o2 ((P o (by omega) o2).1.mp o3)
          · rw [(P o (by omega) o2).2] at o3
            exact b2 o (by omega) o2 o3
      · rcases O with ⟨o1, o2⟩ | ⟨o1, o2, o3, o4⟩
        · by_cases z : b.toInt = 0
          · rw [o1]; exact (Int32.toInt_inj.mp (by omega)).symm
          · exact absurd (Or.inl ((P b (by omega) v3).1.mpr v4)) (o2 b (by omega) v3)
        · apply Int32.toInt_inj.mp
          apply Classical.byContradiction
          intro ne
          by_cases lt : o.toInt < b.toInt
          · exact o4 b lt v3 (Or.inl ((P b (by omega) v3).1.mpr v4))
          · rcases o3 with o3 | o3
            · exact v5 o (by omega) o2 ((P o (by omega) o2).1.mp o3)
            · rw [(P o (by omega) o2).2] at o3
              exact b2 o (by omega) o2 o3
    · rcases O with ⟨o1, o2⟩ | ⟨o1, o2, o3, o4⟩
      · exfalso
        refine o2 b (by omega) b2 (Or.inr ?_)
        rw [(P b (by omega) b2).2]; exact b3
      · apply Int32.toInt_inj.mp
        apply Classical.byContradiction
        intro ne
        by_cases lt : o.toInt < b.toInt
        · refine o4 b lt b2 (Or.inr ?_)
          rw [(P b (by omega) b2).2]; exact b3
        · rcases o3 with o3 | o3
          · have o3' := (P o (by omega) o2).1.mp o3
            rcases V with ⟨v2, v3⟩ | ⟨v2, v3, v4, v5⟩
            · exact v3 o (by omega) o2 o3'
            · exact v5 o (by omega) o2 o3'
          · rw [(P o (by omega) o2).2] at o3
            exact b4 o (by omega) o2 o3
  rw [e]
  have b6 : 0 ≤ b.toInt ∧ b.toInt < 6 := by
    rcases B with ⟨b1, b2⟩ | ⟨b1, b2, b3, b4⟩
    · rw [b1]
      rcases V with ⟨v2, v3⟩ | ⟨v2, v3, v4, v5⟩
      · rw [v2]; decide
      · omega
    · omega
  have tb := tn_e b6.1
  rw [ix6 h1 h2 b6.1 (by omega)]
  exact (g3.2.1 _ _ (by omega)).2.1
theorem du_e {c : qC} {q : qM} (h : RI c q) {R : Int32} (h1 : 0 ≤ R.toInt) (h2 : R.toInt < (q.1 12 0).toInt) : m_X7_dueDay c (Int32.toNatClampNeg R) = m_X8_dueOf q R := by
  have tn := tn_e h1
  have hgI := h.2.1
  obtain ⟨f0, f1, f2, f3⟩ := rec_g h (r := Int32.toNatClampNeg R) (by omega)
  have cg := cg_e (r := R) h.2.1 ⟨h1, h2⟩
  have c7 := hgI.2.1 (Int32.toNatClampNeg (q.1 13 (Int32.toNatClampNeg R)))
  have g3 := h.1.2.2.1.1 (Int32.toNatClampNeg (q.1 9 (Int32.toNatClampNeg (q.1 13 (Int32.toNatClampNeg R)))))
  have hd := hgI.2.2.2.2.1 (Int32.toNatClampNeg R)
  have hcl := hgI.2.2.2.2.2.1 (Int32.toNatClampNeg (q.1 13 (Int32.toNatClampNeg R)))
  have hle := hgI.2.2.2.2.2.2.1 (Int32.toNatClampNeg (q.1 13 (Int32.toNatClampNeg R)))
  have hfm := hgI.2.2.2.2.2.2.2.2.1
  have fe := fe_e q (q.1 14 (Int32.toNatClampNeg R)) hfm hd.1 hd.2
  have g5 := (h.1.2.2.2.2.1.1 (Int32.toNatClampNeg R)).2.2.2.2.2.2.1
  unfold m_X7_dueDay m_X8_dueOf m_X7_eventDay
  rw [f1, f2, f3, g3.1, h.1.1.2.2.2.1, g5, fe.1]
  have ev := g3.2.2
  generalize hE : q.1 4 (Int32.toNatClampNeg (q.1 9 (Int32.toNatClampNeg (q.1 13 (Int32.toNatClampNeg R))))) = E at *
  have tf : ∀ d, m_X6_termFor c (Int32.toNatClampNeg (q.1 9 (Int32.toNatClampNeg (q.1 13 (Int32.toNatClampNeg R))))) d = m_X8_termFor q (q.1 9 (Int32.toNatClampNeg (q.1 13 (Int32.toNatClampNeg R)))) d := fun d => tf_e h cg c7.2 d
  have k0 : (0 : Int32).toInt = 0 := rfl
  have k1 : (1 : Int32).toInt = 1 := rfl
  have k2 : (2 : Int32).toInt = 2 := rfl
  have k3 : (3 : Int32).toInt = 3 := rfl
  have km : (-1 : Int32).toInt = -1 := rfl
  have fin : ∀ d : Int32, -1 ≤ d.toInt → d.toInt ≤ 120700 → (if d = -1 then (-1 : Int32) else m_X1_plus d (m_X6_termFor c (Int32.toNatClampNeg (q.1 9 (Int32.toNatClampNeg (q.1 13 (Int32.toNatClampNeg R))))) d)) = (if d = -1 then (-1 : Int32) else m_X8_add d (m_X8_termFor q (q.1 9 (Int32.toNatClampNeg (q.1 13 (Int32.toNatClampNeg R)))) d)) := by
    intro d d1 d2
    by_cases e : d = -1
    · rw [if_pos e, if_pos e]
    · rw [if_neg e, if_neg e, tf]
      have := cv_ne e
      have tr := tf_rg hgI (q.1 9 (Int32.toNatClampNeg (q.1 13 (Int32.toNatClampNeg R)))) d
      exact add_e d _ (by omega) d2 tr.1 tr.2
  by_cases e0 : E = 0
  · rw [if_pos e0, if_neg (c := E = 1) (by rw [e0]; decide), if_neg (c := E = 2) (by rw [e0]; decide), if_neg (c := E = 3) (by rw [e0]; decide)]
    exact fin _ (by omega) (by omega)
  rw [if_neg e0]
  by_cases e1 : E = 1
  · rw [if_pos e1, if_pos e1]
    exact fin _ (by omega) (by omega)
  rw [if_neg e1, if_neg e1]
  by_cases e2 : E = 2
  · rw [if_pos e2, if_pos e2]
    exact fin _ (by omega) (by omega)
  rw [if_neg e2, if_neg e2]
  have e3 : E = 3 := Int32.toInt_inj.mp (by have := cv_ne e0; have := cv_ne e1; have := cv_ne e2; omega)
  rw [if_pos e3]
  exact fin _ (by omega) (by omega)
theorem st_due {c : qC} {q : qM} (h : RI c q) (r : Int32) : (m_X8_due q r).2.1 0 0 = (m_X7_due c r).1 ∧ ((m_X7_due c r).1 = 0 → (m_X7_due c r).2 = (m_X8_due q r).1) ∧ RI c (m_X8_due q r).2 := by
  unfold m_X7_due m_X8_due
  rw [kRe h]
  by_cases h1 : m_X8_noRecord q r = 0
  case neg => rw [if_neg h1, if_neg h1, if_neg z10]; exact ⟨rfl, fun x => absurd x z10, RI_t h⟩
  rw [if_pos h1, if_pos h1, if_pos rfl]
  have hr := nr_t h.2.1 h1
  refine ⟨rfl, fun _ => ?_, RI_t h⟩
  dsimp only
  exact du_e (RI_t h) hr.1 hr.2
