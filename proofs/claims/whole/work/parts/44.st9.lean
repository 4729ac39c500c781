/-- may record r be destroyed -/
def may (q : qM) (day : Int32) (r : Nat) : Bool := decide (¬ m_X8_mayGo q (nI r) day = 0)
theorem may_0 (q : qM) (day : Int32) (r : Nat) : m_X8_mayGo q (nI r) day = 0 ↔ may q day r = false := by
  unfold may
  by_cases h : m_X8_mayGo q (nI r) day = 0
  · simp [h]
  · simp [h]
theorem d1_lp {q : qM} {o day : Int32} {rc : Nat} (hrc : (q.1 12 0).toInt = (rc : Int)) (h64 : rc ≤ 64) : ∀ (fuel r s : Nat), r ≤ rc → rc - r < fuel → s ≤ r → m_X8_draw_lp1 q o day fuel (nI s) (nI r) = nI (s + ((List.range' r (rc - r)).filter (may q day)).length) := by
  intro fuel
  induction fuel with
  | zero => intro r s h1 h2; omega
  | succ n ih =>
    intro r s h1 h2 h3
    rw [m_X8_draw_lp1]
    have e := nI_toInt (n := r) (by omega)
    by_cases g : q.1 12 0 ≤ nI r
    · rw [if_pos g]
      have := cv_le g
      have : rc - r = 0 := by omega
      rw [this]; rfl
    · rw [if_neg g]
      have := cv_nle g
      have er : rc - r = (rc - (r + 1)) + 1 := by omega
      rw [er, List.range'_succ, ← nI_succ r]
      by_cases m : m_X8_mayGo q (nI r) day = 0
      · rw [if_pos m, List.filter_cons_of_neg (by rw [(may_0 q day r).mp m]; decide)]
        exact ih (r + 1) s (by omega) (by omega) (by omega)
      · rw [if_neg m, List.filter_cons_of_pos (by unfold may; simp [m]), ← nI_succ s, ih (r + 1) (s + 1) (by omega) (by omega) (by omega), List.length_cons, Nat.add_assoc, Nat.add_comm 1]
theorem may_sg {q q' : qM} (h : sg q q') (h2 : q.1 18 = q'.1 18) (day : Int32) (r : Nat) : may q day r = may q' day r := by
  unfold may
  rw [sg_mayGo h _ _ (by rw [h2])]
theorem d2_lp {q0 : qM} {day dl : Int32} {rc D : Nat} (hrc : (q0.1 12 0).toInt = (rc : Int)) (h64 : rc ≤ 64) (hD : Int32.toNatClampNeg dl = D) (d0 : 0 ≤ dl.toInt) (d15 : dl.toInt ≤ 15) : ∀ (fuel r : Nat) (q1 : qM), r ≤ rc → rc - r < fuel → sg q1 q0 → q1.1 18 = q0.1 18 → q1.1 12 = q0.1 12 → 0 ≤ (q1.1 27 D).toInt → (q1.1 27 D).toInt ≤ (r : Int) → (∀ j, 0 ≤ (q1.1 26 j).toInt ∧ (q1.1 26 j).toInt ≤ 63) →
    (∀ f, f ≠ 26 → f ≠ 27 → (m_X8_draw_lp2 day dl fuel (nI r) q1).1 f = q1.1 f) ∧ (m_X8_draw_lp2 day dl fuel (nI r) q1).2 = q1.2 ∧ (∀ j, j ≠ D → (m_X8_draw_lp2 day dl fuel (nI r) q1).1 27 j = q1.1 27 j) ∧ (∀ j, (j < 64 * D ∨ 64 * D + 64 ≤ j) → (m_X8_draw_lp2 day dl fuel (nI r) q1).1 26 j = q1.1 26 j) ∧
    lst (m_X8_draw_lp2 day dl fuel (nI r) q1) D = lst q1 D ++ (List.range' r (rc - r)).filter (may q0 day) ∧ (∀ j, 0 ≤ ((m_X8_draw_lp2 day dl fuel (nI r) q1).1 26 j).toInt ∧ ((m_X8_draw_lp2 day dl fuel (nI r) q1).1 26 j).toInt ≤ 63) ∧ 0 ≤ ((m_X8_draw_lp2 day dl fuel (nI r) q1).1 27 D).toInt ∧ ((m_X8_draw_lp2 day dl fuel (nI r) q1).1 27 D).toInt ≤ 64 := by
  intro fuel
  induction fuel with
  | zero => intro r q1 h1 h2; omega
  | succ n ih =>
    intro r q1 h1 h2 h3 h4 h5 h6 h7 h8
    rw [m_X8_draw_lp2, h5]
    have e := nI_toInt (n := r) (by omega)
    have tl := tn_e h6
    by_cases g : q0.1 12 0 ≤ nI r
    · rw [if_pos g]
      have := cv_le g
      have : rc - r = 0 := by omega
      rw [this]
      exact ⟨fun _ _ _ => rfl, rfl, fun _ _ => rfl, fun _ _ => rfl, by simp, h8, h6, by omega⟩
    · rw [if_neg g]
      have := cv_nle g
      have er : rc - r = (rc - (r + 1)) + 1 := by omega
      rw [er, List.range'_succ, ← nI_succ, sg_mayGo h3 _ _ (by rw [h4])]
      by_cases m : m_X8_mayGo q0 (nI r) day = 0
      · rw [if_pos m, List.filter_cons_of_neg (by rw [(may_0 q0 day r).mp m]; decide)]
        exact ih (r + 1) q1 (by omega) (by omega) h3 h4 h5 h6 (by omega) h8
      · rw [if_neg m, List.filter_cons_of_pos (by unfold may; simp [m]), hD, ix64 d0 d15 h6 (by omega), hD]
        have a1 := ad_o (q1.1 27 D) 1
        have k1 : (1 : Int32).toInt = 1 := rfl
        have e1 : (q1.1 27 D + 1).toInt = (q1.1 27 D).toInt + 1 := by omega
        have te := tn_e (r := q1.1 27 D + 1) (by omega)
        have q26 : ∀ j, (mq_i (mq_i q1 26 (64 * D + Int32.toNatClampNeg (q1.1 27 D)) (nI r)) 27 D (q1.1 27 D + 1)).1 26 j = if j = 64 * D + Int32.toNatClampNeg (q1.1 27 D) then nI r else q1.1 26 j := fun j => by
          rw [mq_ne (by decide), mq_i_self]; rfl
        have q27 : ∀ j, (mq_i (mq_i q1 26 (64 * D + Int32.toNatClampNeg (q1.1 27 D)) (nI r)) 27 D (q1.1 27 D + 1)).1 27 j = if j = D then q1.1 27 D + 1 else q1.1 27 j := fun j => by
          rw [mq_i_self]; unfold upd; rw [mq_ne (by decide)]
        have row : lst (mq_i (mq_i q1 26 (64 * D + Int32.toNatClampNeg (q1.1 27 D)) (nI r)) 27 D (q1.1 27 D + 1)) D = lst q1 D ++ [r] := by
          apply List.ext_getElem?
          intro k
          rw [lst_at, q27, if_pos rfl, q26]
          by_cases c1 : k < Int32.toNatClampNeg (q1.1 27 D)
          · have A1 : k < Int32.toNatClampNeg (q1.1 27 D + 1) := by omega
            have A2 : ¬ 64 * D + k = 64 * D + Int32.toNatClampNeg (q1.1 27 D) := by omega
            rw [if_pos A1, if_neg A2, List.getElem?_append_left (by rw [lst_len]; exact c1), lst_at, if_pos c1]
          · rw [List.getElem?_append_right (by rw [lst_len]; omega), lst_len]
            by_cases c2 : k = Int32.toNatClampNeg (q1.1 27 D)
            · have A1 : k < Int32.toNatClampNeg (q1.1 27 D + 1) := by omega
              have A2 : 64 * D + k = 64 * D + Int32.toNatClampNeg (q1.1 27 D) := by omega
              rw [if_pos A1, if_pos A2, nI_clamp (by omega), c2, Nat.sub_self]; rfl
            · have A1 : ¬ k < Int32.toNatClampNeg (q1.1 27 D + 1) := by omega
              rw [if_neg A1]
              have : k - Int32.toNatClampNeg (q1.1 27 D) = (k - Int32.toNatClampNeg (q1.1 27 D) - 1) + 1 := by omega
              rw [this]; rfl
        obtain ⟨i1, i2, i3, i4, i5, i6, i7, i8⟩ := ih (r + 1) (mq_i (mq_i q1 26 (64 * D + Int32.toNatClampNeg (q1.1 27 D)) (nI r)) 27 D (q1.1 27 D + 1)) (by omega) (by omega) (sg_tr (sg_i rfl) (sg_tr (sg_i rfl) h3)) (by rw [mq_i_ne _ _ (by decide), mq_i_ne _ _ (by decide), h4]) (by rw [mq_i_ne _ _ (by decide), mq_i_ne _ _ (by decide), h5]) (by rw [q27, if_pos rfl]; omega) (by rw [q27, if_pos rfl]; omega) (fun j => by
          rw [q26]
          split
          · omega
          · exact h8 j)
        refine ⟨fun f a b => by rw [i1 f a b, mq_i_ne _ _ b, mq_i_ne _ _ a], by rw [i2]; rfl, fun j hj => by rw [i3 j hj, q27, if_neg hj], fun j hj => ?_, by rw [i5, row, List.append_assoc]; rfl, i6, i7, i8⟩
        rw [i4 j hj, q26, if_neg (by omega)]
theorem rg_cut (p : Nat → Bool) (rc : Nat) : ∀ k, rc ≤ k → (List.range k).filter (fun j => decide (j < rc) && p j) = (List.range rc).filter p := by
  intro k
  induction k with
  | zero => intro h; have : rc = 0 := by omega
            subst this; rfl
  | succ k ih =>
    intro h
    by_cases e : rc = k + 1
    · subst e
      refine List.filter_congr (fun x hx => ?_)
      rw [List.mem_range] at hx
      simp [hx]
    · rw [List.range_succ, List.filter_append, ih (by omega)]
      have : ¬ k < rc := by omega
      simp [this]
/-- the office's bits of what may go -/
theorem mg_e {c : qC} {q : qM} (h : RI c q) {R : Int32} (h1 : 0 ≤ R.toInt) (h2 : R.toInt < (q.1 12 0).toInt) (day : Int32) {α : Type} (A B : α) : (if (c.1 16 (Int32.toNatClampNeg R) 7) = 0 then (if (m_X7_holdsOver c (Int32.toNatClampNeg R)) = 0 then (if (m_X7_dueDay c (Int32.toNatClampNeg R)) = (-1) then A else (if day < (m_X7_dueDay c (Int32.toNatClampNeg R)) then A else B)) else A) else A) = if m_X8_mayGo q R day = 0 then A else B := by
  rw [ho_e h h1 h2, du_e h h1 h2, (h.1.2.2.2.2.1.1 _).2.2.2.2.2.2.2]
  unfold m_X8_mayGo
  by_cases a1 : q.1 18 (Int32.toNatClampNeg R) = 0
  case neg => rw [if_neg a1, if_neg a1, if_pos rfl]
  rw [if_pos a1, if_pos a1]
  by_cases a2 : m_X8_dueOf q R = -1
  · rw [if_pos a2, if_pos a2, if_pos rfl]; split <;> rfl
  rw [if_neg a2, if_neg a2]
  by_cases a3 : day < m_X8_dueOf q R
  · rw [if_pos a3, if_pos a3, if_pos rfl]; split <;> rfl
  rw [if_neg a3, if_neg a3]
  by_cases a4 : m_X8_holds q R = 0
  · rw [if_pos a4, if_pos a4, if_neg z10]
  · rw [if_neg a4, if_neg a4, if_pos rfl]
theorem ri_lp {c : qC} {q : qM} (h : RI c q) (day : Int32) {rc : Nat} (hrc : (q.1 12 0).toInt = (rc : Int)) (h64 : rc ≤ 64) : ∀ (fuel r m : Nat), r ≤ rc → rc - r < fuel → m < 2 ^ 64 → ∃ n, n < 2 ^ 64 ∧ m_X7_ripeOn_lp c day fuel (lN m) (nI r) = lN n ∧ ∀ j, n.testBit j = (m.testBit j || (decide (r ≤ j) && (decide (j < rc) && may q day j))) := by
  intro fuel
  induction fuel with
  | zero => intro r m h1 h2; omega
  | succ n ih =>
    intro r m h1 h2 h3
    rw [m_X7_ripeOn_lp, h.1.1.1]
    have e := nI_toInt (n := r) (by omega)
    by_cases g : q.1 12 0 ≤ nI r
    · rw [if_pos g]
      have := cv_le g
      refine ⟨m, h3, rfl, fun j => ?_⟩
      have : (decide (r ≤ j) && (decide (j < rc) && may q day j)) = false := by
        by_cases c1 : r ≤ j
        · have : ¬ j < rc := by omega
          simp [this]
        · simp [c1]
      rw [this, Bool.or_false]
    · rw [if_neg g]
      have g' := cv_nle g
      rw [mg_e h (R := nI r) (by omega) g', ← nI_succ]
      by_cases m0 : m_X8_mayGo q (nI r) day = 0
      · rw [if_pos m0]
        obtain ⟨k, k1, k2, k3⟩ := ih (r + 1) m (by omega) (by omega) h3
        refine ⟨k, k1, k2, fun j => ?_⟩
        rw [k3 j]
        by_cases e1 : j = r
        · subst e1
          have := (may_0 q day j).mp m0
          simp [this]
        · have : decide (r + 1 ≤ j) = decide (r ≤ j) := by
            by_cases c1 : r ≤ j
            · simp [c1]; omega
            · simp [c1]; omega
          rw [this]
      · rw [if_neg m0]
        have r64 : r < 64 := by omega
        have e1 : (1 : Int64) <<< ((nI r).toInt64 &&& 63) = lN (2 ^ r) := by
          have := wb_shl 1 r64
          rw [Nat.one_mul] at this
          exact this
        have p : 2 ^ r < 2 ^ 64 := wb_lt2 r64
        rw [e1, wb_or h3 p]
        obtain ⟨k, k1, k2, k3⟩ := ih (r + 1) (m ||| 2 ^ r) (by omega) (by omega) (Nat.or_lt_two_pow h3 p)
        refine ⟨k, k1, k2, fun j => ?_⟩
        rw [k3 j, Nat.testBit_or, Nat.testBit_two_pow]
        by_cases e2 : j = r
        · subst e2
          have hm : may q day j = true := by unfold may; simp [m0]
          have hj : j < rc := by omega
          simp [hm, hj]
        · have : decide (r + 1 ≤ j) = decide (r ≤ j) := by
            by_cases c1 : r ≤ j
            · simp [c1]; omega
            · simp [c1]; omega
          have e3 : ¬ r = j := fun x => e2 x.symm
          rw [this]
          simp [e3]
theorem ri_e {c : qC} {q : qM} (h : RI c q) (day : Int32) : ∃ n rc : Nat, (q.1 12 0).toInt = (rc : Int) ∧ rc ≤ 64 ∧ n < 2 ^ 64 ∧ m_X7_ripeOn c day = lN n ∧ (∀ j, n.testBit j = (decide (j < rc) && may q day j)) ∧ bts n = (List.range rc).filter (may q day) := by
  have h64 := h.2.1.2.2.2.1
  have tn := tn_e h64.1
  obtain ⟨n, n1, n2, n3⟩ := ri_lp h day (rc := Int32.toNatClampNeg (q.1 12 0)) tn.symm (by omega) 66 0 0 (by omega) (by omega) (by decide)
  have n3' : ∀ j, n.testBit j = (decide (j < Int32.toNatClampNeg (q.1 12 0)) && may q day j) := fun j => by rw [n3 j]; simp
  refine ⟨n, Int32.toNatClampNeg (q.1 12 0), tn.symm, by omega, n1, ?_, n3', ?_⟩
  · rw [nI_0] at n2; exact n2
  · unfold bts
    rw [← rg_cut (may q day) _ 64 (by omega)]
    exact List.filter_congr (fun x _ => n3' x)
theorem G7_d {c : qC} {q qd : qM} {D n : Nat} {o l1 : Int32} (h : G7 c q) (hD : (q.1 25 0).toInt = (D : Int)) (hl1 : l1.toInt = (D : Int) + 1) (hn : n < 2 ^ 64) (e25 : qd.1 25 0 = l1) (e28 : ∀ j, qd.1 28 j = if j = D then o else q.1 28 j) (e29 : qd.1 29 = q.1 29) (e30 : qd.1 30 = q.1 30) (rowD : lst qd D = bts n) (rowO : ∀ l, l ≠ D → lst qd l = lst q l) :
    G7 (cq_i (cq_i (cq_i (cq_l (cq_i c 17 D 0 o) 17 D 1 (lN n)) 17 D 2 0) 17 D 3 1) 6 0 D 1) qd := by
  obtain ⟨b1, b2, b3, b4⟩ := h
  have z29 := b2 D (by omega)
  have oth : ∀ l, l ≠ D → (cq_i (cq_i (cq_i (cq_l (cq_i c 17 D 0 o) 17 D 1 (lN n)) 17 D 2 0) 17 D 3 1) 6 0 D 1).1 17 l = c.1 17 l := fun l e => by
    have en : ¬ (17 = 17 ∧ l = D) := fun x => e x.2
    rw [cq_nk (by decide), cq_nj en, cq_nj en]
    show (cq_i c 17 D 0 o).1 17 l = c.1 17 l
    rw [cq_nj en]
  refine ⟨fun l => ?_, fun l hl => ?_, fun l hl => ?_, fun l hl => ?_⟩
  · rw [e28, e29]
    by_cases e : l = D
    · subst e
      rw [if_pos rfl]
      refine ⟨?_, ?_, (b1 l).2.2⟩
      · rw [cq_ne (by decide), cq_ni (by decide), cq_ni (by decide), cq_nel, cq_same]
      · rw [cq_ne (by decide), cq_ni (by decide), cq_same, z29.1]
    · rw [if_neg e, oth l e]
      exact b1 l
  · rw [e25, hl1] at hl
    rw [e29, e30]
    exact b2 l (by omega)
  · rw [e25, hl1] at hl
    rw [e30]
    by_cases e : l = D
    · subst e
      rw [cq_ne (by decide), cq_same, z29.2]
      exact ⟨fun x => absurd x z10, fun x => absurd rfl x⟩
    · rw [oth l e]
      exact b3 l (by omega)
  · by_cases e : l = D
    · subst e
      refine ⟨n, hn, ?_, rowD⟩
      rw [cl_nei, cl_nei, cl_nei, cq_same_l]
    · obtain ⟨m, m1, m2, m3⟩ := b4 l hl
      refine ⟨m, m1, ?_, by rw [rowO l e]; exact m3⟩
      rw [cl_nei, cl_nei, cl_nei, cl_nj (fun x => e x.2)]
      exact m2
theorem st_draw {c : qC} {q : qM} (h : RI c q) (o day : Int32) : (m_X8_draw q o day).2.1 0 0 = (m_X7_draw c o day).1 ∧ ((m_X7_draw c o day).1 = 0 → (m_X7_draw c o day).2.1 = (m_X8_draw q o day).1) ∧ RI (m_X7_draw c o day).2.2 (m_X8_draw q o day).2 := by
  unfold m_X7_draw m_X8_draw
  rw [kOf2, kDo h, kRi h, kRo1 h]
  by_cases h1 : m_X8_noOfficer o = 0
  case neg => rw [if_neg h1, if_neg h1, if_neg z10]; exact ⟨rfl, fun x => absurd x z10, RI_t h⟩
  rw [if_pos h1, if_pos h1, if_pos rfl]
  by_cases h2 : m_X8_isDay q day = 0
  · rw [if_pos h2, if_pos h2, if_neg z20]; exact ⟨rfl, fun x => absurd x z20, RI_t h⟩
  rw [if_neg h2, if_neg h2, if_pos rfl]
  by_cases h4 : m_X8_hasRight q o 1 = 0
  · rw [if_pos h4, if_pos h4, if_neg z30]; exact ⟨rfl, fun x => absurd x z30, RI_t h⟩
  rw [if_neg h4, if_neg h4, if_pos rfl]
  obtain ⟨n, rc, hrc, r64, hn, hri, htb, hbt⟩ := ri_e h day
  have d1 := d1_lp (q := q) (o := o) (day := day) hrc r64 66 0 0 (by omega) (by omega) (by omega)
  rw [nI_0, Nat.sub_zero, ← List.range_eq_range', Nat.zero_add, ← hbt] at d1
  rw [d1, hri]
  have hlen := (bc_b hn).2
  have lz : lg_cmp (lN n) 0 = 0 ↔ nI (bts n).length = 0 := by
    constructor
    · intro x
      have e : n = 0 := by
        unfold lg_cmp at x
        by_cases g : lN n > 0
        · rw [if_pos g] at x; exact absurd x (by decide)
        · rw [if_neg g] at x
          by_cases g2 : lN n = 0
          · have := congrArg (fun v : Int64 => v.toBitVec.toNat) g2
            simp only [wb_tn hn] at this
            exact this
          · rw [if_neg g2] at x; exact absurd x (by decide)
      subst e; decide
    · intro x
      have e : (bts n).length = 0 := by
        have t := nI_toInt (n := (bts n).length) (by omega)
        rw [x] at t
        have k0 := kk_0
        omega
      have e2 : n = 0 := by
        apply Nat.eq_of_testBit_eq
        intro i
        rw [Nat.zero_testBit]
        by_cases c1 : i < 64
        · cases tb : n.testBit i
          · rfl
          · have := (bt_mem n i).mpr ⟨c1, tb⟩
            rw [List.length_eq_zero_iff.mp e] at this
            cases this
        · exact Nat.testBit_lt_two_pow (Nat.lt_of_lt_of_le hn (Nat.pow_le_pow_right (by decide) (by omega)))
      subst e2; decide
  have hl16 := h.2.2.1.1
  have k16 : (16 : Int32).toInt = 16 := rfl
  have l25 := h.1.1.2.1
  rw [l25]
  by_cases h5 : nI (bts n).length = 0
  · rw [if_pos h5]
    by_cases h6 : m_X8_hasRoom q 1 = 0
    · rw [if_pos h6, if_neg z30]; exact ⟨rfl, fun x => absurd x z30, RI_t h⟩
    rw [if_neg h6, if_pos rfl]
    by_cases h7 : q.1 25 0 < 16
    · rw [if_pos h7, if_pos (lz.mpr h5)]; exact ⟨rfl, fun x => absurd x z30, RI_t h⟩
    · rw [if_neg h7]; exact ⟨rfl, fun x => absurd x z30, RI_t h⟩
  rw [if_neg h5]
  by_cases h7 : q.1 25 0 = 16
  · rw [if_pos h7]
    by_cases h6 : m_X8_hasRoom q 1 = 0
    · rw [if_pos h6, if_neg z30]; exact ⟨rfl, fun x => absurd x z30, RI_t h⟩
    · rw [if_neg h6, if_pos rfl, if_neg (fun x => by have := cv_lt x; rw [h7] at this; exact absurd this (by decide))]; exact ⟨rfl, fun x => absurd x z30, RI_t h⟩
  rw [if_neg h7]
  have h7' := cv_ne h7
  by_cases h6 : m_X8_hasRoom q 1 = 0
  · rw [if_pos h6, if_pos h6, if_neg z30]; exact ⟨rfl, fun x => absurd x z30, RI_t h⟩
  rw [if_neg h6, if_neg h6, if_pos rfl, if_pos (Int32.lt_iff_toInt_lt.mpr (by omega)), if_neg (fun x => h5 (lz.mp x))]
  have hroom := hr1 h.2.2.1 h6
  have hd := dy_t h2
  have td := tn_e hl16.1
  have a1 := ad_o (q.1 25 0) 1
  have k1 : (1 : Int32).toInt = 1 := rfl
  have z27 := h.2.2.1.2.2.2.2.1 (Int32.toNatClampNeg (q.1 25 0)) (by omega)
  have q0_12 : (mq_i (mq_i (mq_i q 0 0 0) 25 0 (q.1 25 0 + 1)) 28 (Int32.toNatClampNeg (q.1 25 0)) o).1 12 0 = q.1 12 0 := by rw [mq_ne (by decide), mq_ne (by decide), mq_ne (by decide)]
  have q0_27 : ∀ j, (mq_i (mq_i (mq_i q 0 0 0) 25 0 (q.1 25 0 + 1)) 28 (Int32.toNatClampNeg (q.1 25 0)) o).1 27 j = q.1 27 j := fun j => by rw [mq_ne (by decide), mq_ne (by decide), mq_ne (by decide)]
  have q0_26 : ∀ j, (mq_i (mq_i (mq_i q 0 0 0) 25 0 (q.1 25 0 + 1)) 28 (Int32.toNatClampNeg (q.1 25 0)) o).1 26 j = q.1 26 j := fun j => by rw [mq_ne (by decide), mq_ne (by decide), mq_ne (by decide)]
  obtain ⟨i1, i2, i3, i4, i5, i6, i7, i8⟩ := d2_lp (q0 := mq_i (mq_i (mq_i q 0 0 0) 25 0 (q.1 25 0 + 1)) 28 (Int32.toNatClampNeg (q.1 25 0)) o) (day := day) (dl := q.1 25 0) (rc := rc) (D := Int32.toNatClampNeg (q.1 25 0)) (by rw [q0_12]; exact hrc) r64 rfl hl16.1 (by omega) 66 0 (mq_i (mq_i (mq_i q 0 0 0) 25 0 (q.1 25 0 + 1)) 28 (Int32.toNatClampNeg (q.1 25 0)) o) (by omega) (by omega) (sg_rf _) rfl rfl (by rw [q0_27]; omega) (by rw [q0_27]; omega) (fun j => by rw [q0_26]; exact h.2.2.1.2.2.1 j)
  rw [nI_0] at i1 i2 i3 i4 i5 i6 i7 i8
  have mayeq : may (mq_i (mq_i (mq_i q 0 0 0) 25 0 (q.1 25 0 + 1)) 28 (Int32.toNatClampNeg (q.1 25 0)) o) day = may q day := funext fun r => may_sg (sg_tr (sg_i rfl) (sg_tr (sg_i rfl) (sg_i rfl))) (by rw [mq_i_ne _ _ (by decide), mq_i_ne _ _ (by decide), mq_i_ne _ _ (by decide)]) day r
  have emp : lst (mq_i (mq_i (mq_i q 0 0 0) 25 0 (q.1 25 0 + 1)) 28 (Int32.toNatClampNeg (q.1 25 0)) o) (Int32.toNatClampNeg (q.1 25 0)) = [] := by
    apply List.length_eq_zero_iff.mp
    rw [lst_len, q0_27]
    have := tn_e (r := q.1 27 (Int32.toNatClampNeg (q.1 25 0))) (by omega)
    omega
  rw [mayeq, emp, List.nil_append, Nat.sub_zero, ← List.range_eq_range', ← hbt] at i5
  generalize hqd : m_X8_draw_lp2 day (q.1 25 0) 66 0 (mq_i (mq_i (mq_i q 0 0 0) 25 0 (q.1 25 0 + 1)) 28 (Int32.toNatClampNeg (q.1 25 0)) o) = qd at *
  generalize hDD : Int32.toNatClampNeg (q.1 25 0) = D at *
  have ef : ∀ f, f ≠ 26 → f ≠ 27 → f ≠ 0 → f ≠ 25 → f ≠ 28 → qd.1 f = q.1 f := fun f a b d e g => by rw [i1 f a b, mq_i_ne _ _ g, mq_i_ne _ _ e, mq_i_ne _ _ d]
  have e0 : qd.1 0 0 = 0 := by rw [i1 0 (by decide) (by decide), mq_ne (by decide), mq_ne (by decide), mq_same]
  have e25 : qd.1 25 0 = q.1 25 0 + 1 := by rw [i1 25 (by decide) (by decide), mq_ne (by decide), mq_same]
  have e28 : ∀ j, qd.1 28 j = if j = D then o else q.1 28 j := fun j => by rw [i1 28 (by decide) (by decide), mq_i_self]; unfold upd; rw [mq_ne (by decide), mq_ne (by decide)]
  have e2 : qd.2 = q.2 := i2
  have e27 : ∀ j, j ≠ D → qd.1 27 j = q.1 27 j := fun j hj => by rw [i3 j hj, q0_27]
  have e26 : ∀ j, (j < 64 * D ∨ 64 * D + 64 ≤ j) → qd.1 26 j = q.1 26 j := fun j hj => by rw [i4 j hj, q0_26]
  have hme : ∀ {K : List Nat}, K.contains 0 = false → K.contains 26 = false → K.contains 27 = false → K.contains 25 = false → K.contains 28 = false → K.contains 3 = false → em K (mq_i qd 3 0 day) q := fun {K} a b d e g i => em_i i (fun f hf => by
    have t : ∀ x, K.contains x = false → f ≠ x := fun x hx e => by subst e; rw [List.contains_iff_mem.mpr hf] at hx; cases hx
    exact ⟨ef f (t 26 b) (t 27 d) (t 0 a) (t 25 e) (t 28 g), by rw [e2]⟩)
  have rowO : ∀ l, l ≠ D → lst qd l = lst q l := by
    intro l hne
    apply List.ext_getElem?
    intro k
    rw [lst_at, lst_at, e27 l hne]
    by_cases c1 : k < Int32.toNatClampNeg (q.1 27 l)
    · have hl64 := h.2.2.1.2.1 l
      have := tn_e hl64.1
      rw [if_pos c1, if_pos c1, e26 _ (by omega)]
    · rw [if_neg c1, if_neg c1]
  have size_e : m_X2_size (cq_i (cq_i (cq_i (cq_i (cq_i (cq_l (cq_i c 17 D 0 o) 17 D 1 (lN n)) 17 D 2 0) 17 D 3 1) 6 0 D 1) 0 0 8 (q.1 25 0 + 1)) 0 0 9 day) D = nI (bts n).length := by
    unfold m_X2_size
    rw [cl_nei, cl_nei, cl_nei, cl_nei, cl_nei, cq_same_l]
    exact (bc_b hn).1
  rw [size_e]
  refine ⟨?_, fun _ => rfl, ?_⟩
  · dsimp only
    rw [wr_1 (by decide) (by decide), mq_i_ne _ _ (by decide), e0]
  · dsimp only
    refine RI_w ?_ (by rw [mq_ne (by decide), ef 31 (by decide) (by decide) (by decide) (by decide) (by decide)]; exact hroom) (fun hk => by rcases hk with hk | hk <;> exact absurd hk (by decide))
    obtain ⟨⟨g1, g2, g3, g4, g5, g6, g7⟩, hg, hl, hc⟩ := h
    have hcc : ∀ {K : List Nat}, K.contains 17 = false → K.contains 6 = false → K.contains 0 = false → ek K (cq_i (cq_i (cq_i (cq_i (cq_i (cq_l (cq_i c 17 D 0 o) 17 D 1 (lN n)) 17 D 2 0) 17 D 3 1) 6 0 D 1) 0 0 8 (q.1 25 0 + 1)) 0 0 9 day) c := fun a b d => ek_i d (ek_i d (ek_i b (ek_i a (ek_i a (ek_l a (ek_i a (ek_rf _)))))))
    refine ⟨⟨?_, G2_fr g2 (hcc rfl rfl rfl) (hme rfl rfl rfl rfl rfl rfl), G3_fr g3 (hcc rfl rfl rfl) (hme rfl rfl rfl rfl rfl rfl), G4_fr g4 (hcc rfl rfl rfl) (hme rfl rfl rfl rfl rfl rfl), G5_fr g5 (hcc rfl rfl rfl) (hme rfl rfl rfl rfl rfl rfl), G6_fr g6 (hcc rfl rfl rfl) (hme rfl rfl rfl rfl rfl rfl), ?_⟩, ?_, ?_, ?_⟩
    · obtain ⟨b1, b2, b3, b4, b5⟩ := g1
      refine ⟨?_, ?_, ?_, ?_, ?_⟩
      · rw [cq_ni (by decide), cq_ni (by decide), cq_ne (by decide), cq_ne (by decide), cq_ne (by decide), cq_nel, cq_ne (by decide), mq_ne (by decide), ef 12 (by decide) (by decide) (by decide) (by decide) (by decide)]; exact b1
      · rw [cq_ni (by decide), cq_same, mq_ne (by decide), e25]
      · rw [cq_same, mq_same]
      · rw [cq_ni (by decide), cq_ni (by decide), cq_ne (by decide), cq_ne (by decide), cq_ne (by decide), cq_nel, cq_ne (by decide), mq_ne (by decide), ef 2 (by decide) (by decide) (by decide) (by decide) (by decide)]; exact b4
      · rw [(hcc (K := [1]) rfl rfl rfl 1 (by decide)).1, (hme (K := [1]) rfl rfl rfl rfl rfl rfl 1 (by decide)).1]; exact b5
    · refine G7_fr (G7_d (c := c) (q := q) (qd := qd) (D := D) (n := n) (o := o) (l1 := q.1 25 0 + 1) g7 (by omega) (by omega) hn e25 e28 (ef 29 (by decide) (by decide) (by decide) (by decide) (by decide)) (ef 30 (by decide) (by decide) (by decide) (by decide) (by decide)) i5 rowO) (ek_i rfl (ek_i rfl (ek_rf _))) (em_i rfl (em_rf _))
    · refine gI_i rfl ?_
      unfold gI
      rw [ef 5 (by decide) (by decide) (by decide) (by decide) (by decide), ef 9 (by decide) (by decide) (by decide) (by decide) (by decide), ef 13 (by decide) (by decide) (by decide) (by decide) (by decide), ef 12 (by decide) (by decide) (by decide) (by decide) (by decide), ef 14 (by decide) (by decide) (by decide) (by decide) (by decide), ef 10 (by decide) (by decide) (by decide) (by decide) (by decide), ef 11 (by decide) (by decide) (by decide) (by decide) (by decide), ef 6 (by decide) (by decide) (by decide) (by decide) (by decide), ef 2 (by decide) (by decide) (by decide) (by decide) (by decide)]
      exact hg
    · refine lI_i rfl ?_
      obtain ⟨a1', a2, a3, a4, a5, a6⟩ := hl
      unfold lI
      rw [e25, ef 12 (by decide) (by decide) (by decide) (by decide) (by decide), ef 31 (by decide) (by decide) (by decide) (by decide) (by decide)]
      refine ⟨by omega, fun j => ?_, i6, fun a k x0 x1 x2 x3 => ?_, fun j hj => ?_, a6⟩
      · by_cases e : j = D
        · rw [e]; exact ⟨i7, i8⟩
        · rw [e27 j e]; exact a2 j
      · have ta := tn_e x0
        have tk := tn_e x2
        by_cases e : Int32.toNatClampNeg a = D
        · rw [e] at x3
          have t27 := tn_e i7
          rw [ix64 x0 x1 x2 (by omega), e]
          have hget : (lst qd D)[Int32.toNatClampNeg k]? = some (Int32.toNatClampNeg (qd.1 26 (64 * D + Int32.toNatClampNeg k))) := by
            rw [lst_at, if_pos (by omega)]
          rw [i5] at hget
          have hmem := List.mem_of_getElem? hget
          rw [hbt, List.mem_filter, List.mem_range] at hmem
          have := tn_e (i6 (64 * D + Int32.toNatClampNeg k)).1
          omega
        · have k64 := a2 (Int32.toNatClampNeg a)
          rw [e27 _ e] at x3
          have := a4 a k x0 x1 x2 x3
          rw [ix64 x0 x1 x2 (by omega)] at this ⊢
          rw [e26 _ (by omega)]
          exact this
      · have e : j ≠ D := fun e => by rw [e] at hj; omega
        rw [e27 j e]
        exact a5 j (by omega)
    · have e08 : (cq_i (cq_i (cq_i (cq_l (cq_i c 17 D 0 o) 17 D 1 (lN n)) 17 D 2 0) 17 D 3 1) 6 0 D 1).1 0 0 8 = q.1 25 0 := by
        rw [cq_ne (by decide), cq_ne (by decide), cq_ne (by decide), cq_nel, cq_ne (by decide)]; exact l25
      have w1 := cI_08 (cI_6 (J := D) (cI_i (k := 17) (j := D) (i := 3) (v := 1) rfl (cI_i (k := 17) (j := D) (i := 2) (v := 0) rfl (cI_l (k := 17) (j := D) (i := 1) (v := lN n) rfl (cI_i (k := 17) (j := D) (i := 0) (v := o) rfl hc))))) (by rw [e08]; omega) (by rw [e08, hDD, cq_same]; decide)
      rw [e08] at w1
      exact cI_i rfl w1
