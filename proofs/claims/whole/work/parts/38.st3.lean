theorem ix6 {a n : Int32} (h1 : 0 ≤ a.toInt) (h2 : a.toInt ≤ 7) (h3 : 0 ≤ n.toInt) (h4 : n.toInt ≤ 6) : Int32.toNatClampNeg (6 * a + n) = 6 * Int32.toNatClampNeg a + Int32.toNatClampNeg n := by
  have a1 := mu_o 6 6 a rfl
  have a2 := ad_o (6 * a) n
  have e1 := tn_e h1
  have e2 := tn_e h3
  have e3 := tn_e (r := 6 * a + n) (by omega)
  omega
theorem ix6' {a n : Int32} (h1 : 0 ≤ a.toInt) (h2 : a.toInt ≤ 7) (h3 : 1 ≤ n.toInt) (h4 : n.toInt ≤ 6) : Int32.toNatClampNeg (6 * a + n - 1) = 6 * Int32.toNatClampNeg a + (Int32.toNatClampNeg n - 1) ∧ Int32.toNatClampNeg (n - 1) = Int32.toNatClampNeg n - 1 := by
  have a1 := mu_o 6 6 a rfl
  have a2 := ad_o (6 * a) n
  have k1 : (1 : Int32).toInt = 1 := rfl
  have a3 := su_o (6 * a + n) 1
  have a4 := su_o n 1
  have e1 := tn_e h1
  have e2 := tn_e (r := n) (by omega)
  have e3 := tn_e (r := 6 * a + n - 1) (by omega)
  have e4 := tn_e (r := n - 1) (by omega)
  omega
theorem kVe {c : qC} {q : qM} (h : RI c q) {cl : Int32} (hc : ¬ m_X8_isIn cl 0 7 = 0) (ev yr mo day : Int32) : m_X8_isVersion q cl ev yr mo day = (if m_X8_isTerm yr mo = 0 then 0 else (if m_X8_isIn day 0 120000 = 0 then 0 else (if m_X8_isIn ev 0 3 = 0 then 0 else m_X6_goesOnWith c (Int32.toNatClampNeg cl) ev day))) := by
  unfold m_X8_isVersion m_X6_goesOnWith
  have hcl := is_t hc
  have k0 : (0 : Int32).toInt = 0 := rfl
  have k7 : (7 : Int32).toInt = 7 := rfl
  have g3 := h.1.2.2.1
  have hs := h.2.1.1 (Int32.toNatClampNeg cl)
  rw [(g3.1 _).1, (g3.1 _).2.1]
  by_cases h1 : q.1 5 (Int32.toNatClampNeg cl) = 0
  · rw [if_pos h1, if_pos h1]
    by_cases a1 : m_X8_isTerm yr mo = 0
    · rw [if_pos a1, if_pos a1]; split <;> rfl
    rw [if_neg a1, if_neg a1]
    by_cases a2 : m_X8_isIn day 0 120000 = 0
    · rw [if_pos a2, if_pos a2]; split <;> rfl
    rw [if_neg a2, if_neg a2]
  rw [if_neg h1, if_neg h1]
  have h1' := cv_ne h1
  obtain ⟨i1, i2⟩ := ix6' (a := cl) (n := q.1 5 (Int32.toNatClampNeg cl)) (by omega) (by omega) (by omega) (by omega)
  have tn := tn_e (r := q.1 5 (Int32.toNatClampNeg cl)) (by omega)
  rw [i1, i2, (g3.2.1 _ _ (show Int32.toNatClampNeg (q.1 5 (Int32.toNatClampNeg cl)) - 1 < 6 by omega)).1]
  by_cases a1 : m_X8_isTerm yr mo = 0
  · rw [if_pos a1, if_pos a1]; repeat' split
    all_goals rfl
  rw [if_neg a1, if_neg a1]
  by_cases a2 : m_X8_isIn day 0 120000 = 0
  · rw [if_pos a2, if_pos a2]; repeat' split
    all_goals rfl
  rw [if_neg a2, if_neg a2]
  by_cases a3 : m_X8_isIn ev 0 3 = 0
  · rw [if_pos a3, if_pos a3]; repeat' split
    all_goals rfl
  simp only [if_neg a1, if_neg a2, if_neg a3]
theorem G3_v {c : qC} {q : qM} (h : G3 c q) {CL N : Nat} {ev day term fa n1 : Int32} (hN : (q.1 5 CL).toInt = (N : Int)) (hN6 : N < 6) (h56 : ∀ j, (q.1 5 j).toInt ≤ 6) (hev : 0 ≤ ev.toInt ∧ ev.toInt ≤ 3) (hn1 : n1.toInt = (N : Int) + 1)
    (hfit : 0 < N → (q.1 7 (6 * CL + (N - 1))).toInt ≤ day.toInt) :
    G3 (cq_i (cq_i (cq_i (cq_i (cq_i c 10 CL 3 ev) 11 CL N day) 12 CL N term) 13 CL N fa) 10 CL 4 n1) (mq_i (mq_i (mq_i (mq_i (mq_i q 4 CL ev) 6 (6 * CL + N) term) 7 (6 * CL + N) day) 8 (6 * CL + N) fa) 5 CL n1) := by
  obtain ⟨g1, g2, g3⟩ := h
  have e5 : ∀ j, (mq_i (mq_i (mq_i (mq_i (mq_i q 4 CL ev) 6 (6 * CL + N) term) 7 (6 * CL + N) day) 8 (6 * CL + N) fa) 5 CL n1).1 5 j = if j = CL then n1 else q.1 5 j := fun j => by
    rw [mq_i_self]; unfold upd; rw [mq_ne (by decide), mq_ne (by decide), mq_ne (by decide), mq_ne (by decide)]
  have e4 : ∀ j, (mq_i (mq_i (mq_i (mq_i (mq_i q 4 CL ev) 6 (6 * CL + N) term) 7 (6 * CL + N) day) 8 (6 * CL + N) fa) 5 CL n1).1 4 j = if j = CL then ev else q.1 4 j := fun j => by
    rw [mq_ne (by decide), mq_ne (by decide), mq_ne (by decide), mq_ne (by decide), mq_i_self]; unfold upd; rfl
  have e7 : ∀ j, (mq_i (mq_i (mq_i (mq_i (mq_i q 4 CL ev) 6 (6 * CL + N) term) 7 (6 * CL + N) day) 8 (6 * CL + N) fa) 5 CL n1).1 7 j = if j = 6 * CL + N then day else q.1 7 j := fun j => by
    rw [mq_ne (by decide), mq_ne (by decide), mq_i_self]; unfold upd; rw [mq_ne (by decide), mq_ne (by decide)]
  have e6 : ∀ j, (mq_i (mq_i (mq_i (mq_i (mq_i q 4 CL ev) 6 (6 * CL + N) term) 7 (6 * CL + N) day) 8 (6 * CL + N) fa) 5 CL n1).1 6 j = if j = 6 * CL + N then term else q.1 6 j := fun j => by
    rw [mq_ne (by decide), mq_ne (by decide), mq_ne (by decide), mq_i_self]; unfold upd; rw [mq_ne (by decide)]
  have e8 : ∀ j, (mq_i (mq_i (mq_i (mq_i (mq_i q 4 CL ev) 6 (6 * CL + N) term) 7 (6 * CL + N) day) 8 (6 * CL + N) fa) 5 CL n1).1 8 j = if j = 6 * CL + N then fa else q.1 8 j := fun j => by
    rw [mq_ne (by decide), mq_i_self]; unfold upd; rw [mq_ne (by decide), mq_ne (by decide), mq_ne (by decide)]
  refine ⟨fun j => ?_, fun j i hi => ?_, fun j a b hab hb => ?_⟩
  · rw [e4, e5]
    by_cases e : j = CL
    · rw [if_pos e, if_pos e, e]
      refine ⟨?_, cq_same _ _ _ _ _, hev⟩
      rw [cq_ni (by decide), cq_ne (by decide), cq_ne (by decide), cq_ne (by decide), cq_same]
    · rw [if_neg e, if_neg e]
      have en : ¬ (10 = 10 ∧ j = CL) := fun x => e x.2
      rw [cq_nj en, cq_nk (by decide), cq_nk (by decide), cq_nk (by decide), cq_nj en]
      exact g1 j
  · rw [e7, e6, e8]
    by_cases e : j = CL ∧ i = N
    · obtain ⟨rfl, rfl⟩ := e
      rw [if_pos rfl, if_pos rfl, if_pos rfl]
      refine ⟨?_, ?_, ?_⟩
      · rw [cq_ne (by decide), cq_ne (by decide), cq_ne (by decide), cq_same]
      · rw [cq_ne (by decide), cq_ne (by decide), cq_same]
      · rw [cq_ne (by decide), cq_same]
    · have ne : ¬ 6 * j + i = 6 * CL + N := fun x => e (by omega)
      rw [if_neg ne, if_neg ne, if_neg ne]
      have u : ∀ (c : qC) (k : Nat) (v : Int32), (cq_i c k CL N v).1 k j i = c.1 k j i := fun c k v => by
        by_cases e1 : j = CL
        · rw [cq_ni (fun x => e ⟨e1, x⟩)]
        · rw [cq_nj (fun x => e1 x.2)]
      refine ⟨?_, ?_, ?_⟩
      · rw [cq_ne (by decide), cq_ne (by decide), cq_ne (by decide), u, cq_ne (by decide)]; exact (g2 j i hi).1
      · rw [cq_ne (by decide), cq_ne (by decide), u, cq_ne (by decide), cq_ne (by decide)]; exact (g2 j i hi).2.1
      · rw [cq_ne (by decide), u, cq_ne (by decide), cq_ne (by decide), cq_ne (by decide)]; exact (g2 j i hi).2.2
  · rw [e5] at hb
    rw [e7, e7]
    by_cases e : j = CL
    · rw [if_pos e, hn1] at hb
      subst e
      by_cases eb : b = N
      · subst eb
        rw [if_pos rfl]
        by_cases ea : a = b
        · rw [ea, if_pos rfl]; exact Int.le_refl _
        · rw [if_neg (by omega)]
          exact Int.le_trans (g3 j a (b - 1) (by omega) (by omega)) (hfit (by omega))
      · rw [if_neg (by omega), if_neg (by omega)]
        exact g3 j a b hab (by omega)
    · rw [if_neg e] at hb
      have := h56 j
      rw [if_neg (by omega), if_neg (by omega)]
      exact g3 j a b hab hb
theorem wg_t {c : qC} {j : Nat} {ev day : Int32} (h : ¬ m_X6_goesOnWith c j ev day = 0) : c.1 10 j 4 = 0 ∨ (c.1 11 j (Int32.toNatClampNeg (c.1 10 j 4 - 1))).toInt ≤ day.toInt := by
  unfold m_X6_goesOnWith at h
  by_cases h1 : c.1 10 j 4 = 0
  · exact Or.inl h1
  · rw [if_neg h1] at h
    right
    by_cases h2 : ev = c.1 10 j 3
    · rw [if_pos h2] at h
      by_cases h3 : day < c.1 11 j (Int32.toNatClampNeg (c.1 10 j 4 - 1))
      · rw [if_pos h3] at h; exact absurd rfl h
      · exact cv_nlt h3
    · rw [if_neg h2] at h; exact absurd rfl h
theorem st_version {c : qC} {q : qM} (h : RI c q) (cl ev yr mo fa day : Int32) : (m_X8_version q cl ev yr mo fa day).2.1 0 0 = (m_X7_version c cl ev yr mo fa day).1 ∧ ((m_X7_version c cl ev yr mo fa day).1 = 0 → (m_X7_version c cl ev yr mo fa day).2.1 = (m_X8_version q cl ev yr mo fa day).1) ∧ RI (m_X7_version c cl ev yr mo fa day).2.2 (m_X8_version q cl ev yr mo fa day).2 := by
  unfold m_X7_version m_X8_version
  rw [kCl, kTe, kDa, kRo1 h, cx_gt]
  by_cases h1 : m_X8_isIn cl 0 7 = 0
  · rw [if_pos h1, if_pos h1, if_neg z10]; exact ⟨rfl, fun x => absurd x z10, RI_t h⟩
  rw [if_neg h1, if_neg h1, if_pos rfl, kVe h h1]
  by_cases h2 : m_X8_isTerm yr mo = 0
  · rw [if_pos h2, if_pos h2, if_neg z20, if_pos rfl]; exact ⟨rfl, fun x => absurd x z20, RI_t h⟩
  rw [if_neg h2, if_neg h2, if_pos rfl]
  by_cases h3 : m_X8_isIn day 0 120000 = 0
  · rw [if_pos h3, if_pos h3, if_neg z20, if_pos rfl]; exact ⟨rfl, fun x => absurd x z20, RI_t h⟩
  rw [if_neg h3, if_neg h3, if_pos rfl]
  by_cases h4 : m_X8_isIn ev 0 3 = 0
  · rw [if_pos h4, if_pos h4, if_pos rfl]; exact ⟨rfl, fun x => absurd x z20, RI_t h⟩
  rw [if_neg h4, if_neg h4]
  by_cases h5 : m_X6_goesOnWith c (Int32.toNatClampNeg cl) ev day = 0
  · rw [if_pos h5, if_pos h5]; exact ⟨rfl, fun x => absurd x z20, RI_t h⟩
  rw [if_neg h5, if_neg h5]
  have g3 := h.1.2.2.1
  have hs := h.2.1.1 (Int32.toNatClampNeg cl)
  have k6 : (6 : Int32).toInt = 6 := rfl
  have hw := wg_t h5
  rw [(g3.1 _).2.1] at hw ⊢
  by_cases h6 : m_X8_hasRoom q 1 = 0
  · rw [if_pos h6, if_pos h6, if_neg z30]
    by_cases h7 : q.1 5 (Int32.toNatClampNeg cl) = 6
    · rw [if_pos h7]; exact ⟨rfl, fun x => absurd x z30, RI_t h⟩
    · rw [if_neg h7]; exact ⟨rfl, fun x => absurd x z30, RI_t h⟩
  rw [if_neg h6, if_neg h6, if_pos rfl]
  by_cases h7 : q.1 5 (Int32.toNatClampNeg cl) = 6
  · rw [if_pos h7, if_neg (fun n => by have := cv_lt n; rw [h7] at this; exact absurd this (by decide))]
    exact ⟨rfl, fun x => absurd x z30, RI_t h⟩
  have h7' := cv_ne h7
  rw [if_neg h7, if_pos (Int32.lt_iff_toInt_lt.mpr (by omega))]
  have hcl := is_t h1
  have hev := is_t h4
  have hda := is_t h3
  have htm := tm_t h2
  have k0 : (0 : Int32).toInt = 0 := rfl
  have k1 : (1 : Int32).toInt = 1 := rfl
  have k7 : (7 : Int32).toInt = 7 := rfl
  have k3 : (3 : Int32).toInt = 3 := rfl
  have hr := hr1 h.2.2.1 h6
  rw [ix6 (a := cl) (n := q.1 5 (Int32.toNatClampNeg cl)) (by omega) (by omega) (by omega) (by omega), Int32.mul_comm yr 12]
  have e12 := mu_o 12 12 yr rfl
  have e13 := ad_o (12 * yr) mo
  have en := ad_o (q.1 5 (Int32.toNatClampNeg cl)) 1
  have tn := tn_e (r := q.1 5 (Int32.toNatClampNeg cl)) hs.1
  have ter : 0 ≤ (12 * yr + mo).toInt ∧ (12 * yr + mo).toInt ≤ 1211 := by omega
  refine ⟨?_, fun _ => ?_, ?_⟩
  · dsimp only
    rw [wr_1 (by decide) (by decide), mq_i_ne _ _ (by decide), mq_i_ne _ _ (by decide), mq_i_ne _ _ (by decide), mq_i_ne _ _ (by decide), mq_i_ne _ _ (by decide), mq_same]
  · dsimp only
    rw [wr_1 (by decide) (by decide), mq_same]
  · have hfit : 0 < Int32.toNatClampNeg (q.1 5 (Int32.toNatClampNeg cl)) → (q.1 7 (6 * Int32.toNatClampNeg cl + (Int32.toNatClampNeg (q.1 5 (Int32.toNatClampNeg cl)) - 1))).toInt ≤ day.toInt := by
      intro hp
      rcases hw with hw | hw
      · rw [hw] at hp; exact absurd hp (by decide)
      · obtain ⟨i1, i2⟩ := ix6' (a := cl) (n := q.1 5 (Int32.toNatClampNeg cl)) (by omega) (by omega) (by omega) (by omega)
        rw [i2, (g3.2.1 _ _ (show Int32.toNatClampNeg (q.1 5 (Int32.toNatClampNeg cl)) - 1 < 6 by omega)).1] at hw
        exact hw
    dsimp only
    refine RI_w ?_ (by rw [mq_ne (by decide), mq_ne (by decide), mq_ne (by decide), mq_ne (by decide), mq_ne (by decide), mq_ne (by decide)]; exact hr) (fun hk => by rcases hk with hk | hk <;> exact absurd hk (by decide))
    obtain ⟨⟨g1, g2, g3, g4, g5, g6, g7⟩, hg, hl, hc⟩ := h
    generalize hN : Int32.toNatClampNeg (q.1 5 (Int32.toNatClampNeg cl)) = N at *
    generalize hC : Int32.toNatClampNeg cl = CL at *
    have hcc : ∀ {K : List Nat}, K.contains 10 = false → K.contains 11 = false → K.contains 12 = false → K.contains 13 = false → ek K (cq_i (cq_i (cq_i (cq_i (cq_i c 10 CL 3 ev) 11 CL N day) 12 CL N (12 * yr + mo)) 13 CL N fa) 10 CL 4 (q.1 5 CL + 1)) c := fun a b d e => ek_i a (ek_i e (ek_i d (ek_i b (ek_i a (ek_rf _)))))
    have hm : ∀ {K : List Nat}, K.contains 0 = false → K.contains 4 = false → K.contains 5 = false → K.contains 6 = false → K.contains 7 = false → K.contains 8 = false → em K (mq_i (mq_i (mq_i (mq_i (mq_i (mq_i q 0 0 0) 4 CL ev) 6 (6 * CL + N) (12 * yr + mo)) 7 (6 * CL + N) day) 8 (6 * CL + N) fa) 5 CL (q.1 5 CL + 1)) q := fun a b c d e f => em_i c (em_i f (em_i e (em_i d (em_i b (em_i a (em_rf _))))))
    refine ⟨⟨G1_fr g1 (hcc rfl rfl rfl rfl) (hm rfl rfl rfl rfl rfl rfl), G2_fr g2 (hcc rfl rfl rfl rfl) (hm rfl rfl rfl rfl rfl rfl), ?_, G4_fr g4 (hcc rfl rfl rfl rfl) (hm rfl rfl rfl rfl rfl rfl), G5_fr g5 (hcc rfl rfl rfl rfl) (hm rfl rfl rfl rfl rfl rfl), G6_fr g6 (hcc rfl rfl rfl rfl) (hm rfl rfl rfl rfl rfl rfl), G7_fr g7 (hcc rfl rfl rfl rfl) (hm rfl rfl rfl rfl rfl rfl)⟩, gI_5 (by omega) (gI_i rfl (gI_i rfl (gI_6 ter (gI_i rfl (gI_i rfl hg))))), lI_i rfl (lI_i rfl (lI_i rfl (lI_i rfl (lI_i rfl (lI_i rfl hl))))), cI_104 (by omega) (cI_i rfl (cI_12 ter (cI_i rfl (cI_i rfl hc))))⟩
    exact G3_v (G3_fr g3 (ek_rf _) (em_i rfl (em_rf _))) (by show (q.1 5 CL).toInt = _; omega) (by omega) (fun j => (hg.1 j).2) (by omega) (by omega) hfit
