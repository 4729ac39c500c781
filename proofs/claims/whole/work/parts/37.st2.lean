theorem nf_2 {q : qM} {f : Int32} (hg : gI q) (h : m_X8_noFolder q f = 0) : Int32.toNatClampNeg f < 16 ∧ ¬ q.1 9 (Int32.toNatClampNeg f) = -1 ∧ 0 ≤ (q.1 9 (Int32.toNatClampNeg f)).toInt := by
  have h1 := nf_t h
  have h2 := tn_e (r := f) h1.1
  have h3 := hg.2.1 (Int32.toNatClampNeg f)
  refine ⟨by omega, fun e => h1.2.2 (by rw [e]; rfl), by omega⟩
theorem st_close {c : qC} {q : qM} (h : RI c q) (f day : Int32) : (m_X8_close q f day).1 0 0 = (m_X7_close c f day).1 ∧ RI (m_X7_close c f day).2 (m_X8_close q f day) := by
  unfold m_X7_close m_X8_close
  rw [kFo h, kDo h, kRo1 h]
  by_cases h1 : m_X8_noFolder q f = 0
  case neg => rw [if_neg h1, if_neg h1, if_neg z10]; exact ⟨rfl, RI_t h⟩
  rw [if_pos h1, if_pos h1, if_pos rfl]
  by_cases h2 : m_X8_isDay q day = 0
  · rw [if_pos h2, if_pos h2, if_neg z20]; exact ⟨rfl, RI_t h⟩
  rw [if_neg h2, if_neg h2, if_pos rfl]
  obtain ⟨f16, f9, f9'⟩ := nf_2 h.2.1 h1
  have h4 := h.1.2.2.2.1 _ f16
  have hth : ¬ c.1 3 0 (Int32.toNatClampNeg f) = 0 := fun x => f9 (h4.1.mp x)
  rw [(h4.2.2 hth).2.2.1]
  by_cases h7 : m_X8_hasRoom q 1 = 0
  · rw [if_pos h7, if_pos h7, if_neg z30]
    refine ⟨?_, ?_⟩
    · split <;> rfl
    · split <;> exact RI_t h
  rw [if_neg h7, if_neg h7, if_pos rfl]
  by_cases h5 : q.1 10 (Int32.toNatClampNeg f) = -1
  case neg => rw [if_neg h5, if_neg h5]; exact ⟨rfl, RI_t h⟩
  rw [if_pos h5, if_pos h5]
  have hr := hr1 h.2.2.1 h7
  have hd := dy_t h2
  refine ⟨by rw [wr_1 (by decide) (by decide), mq_i_ne _ _ (by decide), mq_i_ne _ _ (by decide), mq_same], ?_⟩
  refine RI_w ?_ (by rw [mq_ne (by decide), mq_ne (by decide), mq_ne (by decide)]; exact hr) (fun hk => by rcases hk with hk | hk <;> exact absurd hk (by decide))
  obtain ⟨⟨g1, g2, g3, g4, g5, g6, g7⟩, hg, hl, hc⟩ := h
  have hcc : ∀ {K : List Nat}, K.contains 14 = false → K.contains 0 = false → ek K (cq_i (cq_i c 14 (Int32.toNatClampNeg f) 2 day) 0 0 9 day) c := fun a b => ek_i b (ek_i a (ek_rf _))
  have hm : ∀ {K : List Nat}, K.contains 0 = false → K.contains 10 = false → K.contains 3 = false → em K (mq_i (mq_i (mq_i q 0 0 0) 10 (Int32.toNatClampNeg f) day) 3 0 day) q := fun a b c => em_i c (em_i b (em_i a (em_rf _)))
  refine ⟨⟨?_, G2_fr g2 (hcc rfl rfl) (hm rfl rfl rfl), G3_fr g3 (hcc rfl rfl) (hm rfl rfl rfl), ?_, G5_fr g5 (hcc rfl rfl) (hm rfl rfl rfl), G6_fr g6 (hcc rfl rfl) (hm rfl rfl rfl), G7_fr g7 (hcc rfl rfl) (hm rfl rfl rfl)⟩, gI_i rfl (gI_10 (by omega) (gI_i rfl hg)), lI_i rfl (lI_i rfl (lI_i rfl hl)), cI_i rfl (cI_142 (by omega) hc)⟩
  · obtain ⟨b1, b2, b3, b4, b5⟩ := g1
    exact ⟨b1, b2, rfl, b4, b5⟩
  · refine fun g hg16 => ?_
    rw [cq_nk (c := cq_i c 14 (Int32.toNatClampNeg f) 2 day) (a := 3) (by decide), cq_nk (a := 3) (by decide), cq_nk (c := cq_i c 14 (Int32.toNatClampNeg f) 2 day) (a := 14) (by decide), mq_i_ne _ _ (show 9 ≠ 3 by decide), mq_i_ne _ _ (show 10 ≠ 3 by decide), mq_i_ne _ _ (show 11 ≠ 3 by decide), mq_i_ne _ _ (show 9 ≠ 10 by decide), mq_i_ne _ _ (show 11 ≠ 10 by decide), mq_i_ne _ _ (show 9 ≠ 0 by decide), mq_i_ne _ _ (show 11 ≠ 0 by decide)]
    by_cases e : g = Int32.toNatClampNeg f
    · subst e
      rw [cq_ni (show 0 ≠ 2 by decide), cq_ni (show 1 ≠ 2 by decide), cq_ni (show 3 ≠ 2 by decide), cq_same, mq_same]
      exact ⟨h4.1, fun x => absurd x hth, fun x => ⟨(h4.2.2 hth).1, (h4.2.2 hth).2.1, rfl, (h4.2.2 hth).2.2.2⟩⟩
    · rw [cq_nj (fun x => e x.2), mq_i_self]
      have : upd ((mq_i q 0 0 0).1 10) (Int32.toNatClampNeg f) day g = q.1 10 g := by unfold upd; rw [if_neg e]; rfl
      rw [this]
      exact g4 g hg16
theorem st_left {c : qC} {q : qM} (h : RI c q) (f day : Int32) : (m_X8_left q f day).1 0 0 = (m_X7_left c f day).1 ∧ RI (m_X7_left c f day).2 (m_X8_left q f day) := by
  unfold m_X7_left m_X8_left
  rw [kFo h, kDo h, kRo1 h]
  by_cases h1 : m_X8_noFolder q f = 0
  case neg => rw [if_neg h1, if_neg h1, if_neg z10]; exact ⟨rfl, RI_t h⟩
  rw [if_pos h1, if_pos h1, if_pos rfl]
  by_cases h2 : m_X8_isDay q day = 0
  · rw [if_pos h2, if_pos h2, if_neg z20]; exact ⟨rfl, RI_t h⟩
  rw [if_neg h2, if_neg h2, if_pos rfl]
  obtain ⟨f16, f9, f9'⟩ := nf_2 h.2.1 h1
  have h4 := h.1.2.2.2.1 _ f16
  have hth : ¬ c.1 3 0 (Int32.toNatClampNeg f) = 0 := fun x => f9 (h4.1.mp x)
  rw [(h4.2.2 hth).2.2.2]
  by_cases h7 : m_X8_hasRoom q 1 = 0
  · rw [if_pos h7, if_pos h7, if_neg z30]
    refine ⟨?_, ?_⟩
    · split <;> rfl
    · split <;> exact RI_t h
  rw [if_neg h7, if_neg h7, if_pos rfl]
  by_cases h5 : q.1 11 (Int32.toNatClampNeg f) = -1
  case neg => rw [if_neg h5, if_neg h5]; exact ⟨rfl, RI_t h⟩
  rw [if_pos h5, if_pos h5]
  have hr := hr1 h.2.2.1 h7
  have hd := dy_t h2
  refine ⟨by rw [wr_1 (by decide) (by decide), mq_i_ne _ _ (by decide), mq_i_ne _ _ (by decide), mq_same], ?_⟩
  refine RI_w ?_ (by rw [mq_ne (by decide), mq_ne (by decide), mq_ne (by decide)]; exact hr) (fun hk => by rcases hk with hk | hk <;> exact absurd hk (by decide))
  obtain ⟨⟨g1, g2, g3, g4, g5, g6, g7⟩, hg, hl, hc⟩ := h
  have hcc : ∀ {K : List Nat}, K.contains 14 = false → K.contains 0 = false → ek K (cq_i (cq_i c 14 (Int32.toNatClampNeg f) 3 day) 0 0 9 day) c := fun a b => ek_i b (ek_i a (ek_rf _))
  have hm : ∀ {K : List Nat}, K.contains 0 = false → K.contains 11 = false → K.contains 3 = false → em K (mq_i (mq_i (mq_i q 0 0 0) 11 (Int32.toNatClampNeg f) day) 3 0 day) q := fun a b c => em_i c (em_i b (em_i a (em_rf _)))
  refine ⟨⟨?_, G2_fr g2 (hcc rfl rfl) (hm rfl rfl rfl), G3_fr g3 (hcc rfl rfl) (hm rfl rfl rfl), ?_, G5_fr g5 (hcc rfl rfl) (hm rfl rfl rfl), G6_fr g6 (hcc rfl rfl) (hm rfl rfl rfl), G7_fr g7 (hcc rfl rfl) (hm rfl rfl rfl)⟩, gI_i rfl (gI_11 (by omega) (gI_i rfl hg)), lI_i rfl (lI_i rfl (lI_i rfl hl)), cI_i rfl (cI_143 (by omega) hc)⟩
  · obtain ⟨b1, b2, b3, b4, b5⟩ := g1
    exact ⟨b1, b2, rfl, b4, b5⟩
  · refine fun g hg16 => ?_
    rw [cq_nk (c := cq_i c 14 (Int32.toNatClampNeg f) 3 day) (a := 3) (by decide), cq_nk (a := 3) (by decide), cq_nk (c := cq_i c 14 (Int32.toNatClampNeg f) 3 day) (a := 14) (by decide), mq_i_ne _ _ (show 9 ≠ 3 by decide), mq_i_ne _ _ (show 10 ≠ 3 by decide), mq_i_ne _ _ (show 11 ≠ 3 by decide), mq_i_ne _ _ (show 9 ≠ 11 by decide), mq_i_ne _ _ (show 10 ≠ 11 by decide), mq_i_ne _ _ (show 9 ≠ 0 by decide), mq_i_ne _ _ (show 10 ≠ 0 by decide)]
    by_cases e : g = Int32.toNatClampNeg f
    · subst e
      rw [cq_ni (show 0 ≠ 3 by decide), cq_ni (show 1 ≠ 3 by decide), cq_ni (show 2 ≠ 3 by decide), cq_same, mq_same]
      exact ⟨h4.1, fun x => absurd x hth, fun x => ⟨(h4.2.2 hth).1, (h4.2.2 hth).2.1, (h4.2.2 hth).2.2.1, rfl⟩⟩
    · rw [cq_nj (fun x => e x.2), mq_i_self]
      have : upd ((mq_i q 0 0 0).1 11) (Int32.toNatClampNeg f) day g = q.1 11 g := by unfold upd; rw [if_neg e]; rfl
      rw [this]
      exact g4 g hg16
theorem st_lift {c : qC} {q : qM} (h : RI c q) (x : Int32) : (m_X8_lift q x).1 0 0 = wkO (m_X7_lift c x).1 ∧ RI (m_X7_lift c x).2 (m_X8_lift q x) := by
  unfold m_X7_lift m_X8_lift
  rw [kHo, kRo1 h, (h.1.2.2.2.2.2.1 _).1]
  by_cases h1 : m_X8_isIn x 0 7 = 0
  · rw [if_pos h1, if_pos h1, if_neg z10]; exact ⟨rfl, RI_t h⟩
  rw [if_neg h1, if_neg h1, if_pos rfl]
  by_cases h7 : m_X8_hasRoom q 1 = 0
  · rw [if_pos h7, if_pos h7, if_neg z30]
    refine ⟨?_, ?_⟩
    · split <;> rfl
    · split <;> exact RI_t h
  rw [if_neg h7, if_neg h7, if_pos rfl]
  by_cases h5 : q.1 19 (Int32.toNatClampNeg x) = 0
  · rw [if_pos h5, if_pos h5]; exact ⟨rfl, RI_t h⟩
  rw [if_neg h5, if_neg h5]
  have hr := hr1 h.2.2.1 h7
  refine ⟨by rw [wr_1 (by decide) (by decide), mq_i_ne _ _ (by decide), mq_same]; rfl, ?_⟩
  refine RI_w ?_ (by rw [mq_ne (by decide), mq_ne (by decide)]; exact hr) (fun hk => by rcases hk with hk | hk <;> exact absurd hk (by decide))
  obtain ⟨⟨g1, g2, g3, g4, g5, g6, g7⟩, hg, hl, hc⟩ := h
  refine ⟨⟨G1_fr g1 (ek_i rfl (ek_rf _)) (em_i rfl (em_i rfl (em_rf _))), G2_fr g2 (ek_i rfl (ek_rf _)) (em_i rfl (em_i rfl (em_rf _))), G3_fr g3 (ek_i rfl (ek_rf _)) (em_i rfl (em_i rfl (em_rf _))), G4_fr g4 (ek_i rfl (ek_rf _)) (em_i rfl (em_i rfl (em_rf _))), G5_fr g5 (ek_i rfl (ek_rf _)) (em_i rfl (em_i rfl (em_rf _))), ?_, G7_fr g7 (ek_i rfl (ek_rf _)) (em_i rfl (em_i rfl (em_rf _)))⟩, gI_i rfl (gI_i rfl hg), lI_i rfl (lI_i rfl hl), cI_i rfl hc⟩
  intro g
  by_cases e : g = Int32.toNatClampNeg x
  · subst e
    rw [cq_same, mq_same]
    exact ⟨rfl, by rw [cq_ni (by decide)]; exact (g6 _).2.1, by rw [cq_ni (by decide)]; exact (g6 _).2.2.1, by rw [cq_ni (by decide)]; exact (g6 _).2.2.2.1, by rw [cq_ni (by decide)]; exact (g6 _).2.2.2.2.1, by rw [cq_ni (by decide)]; exact (g6 _).2.2.2.2.2⟩
  · rw [cq_nj (fun x => e x.2), mq_i_self]
    have : upd ((mq_i q 0 0 0).1 19) (Int32.toNatClampNeg x) 0 g = q.1 19 g := by unfold upd; rw [if_neg e]; rfl
    rw [this]
    exact g6 g
theorem iKe {v : Int32} : m_X8_isIn v (-1) 15 = 0 ↔ (v < -1 ∨ 16 ≤ v) := by
  have k15 : (15 : Int32).toInt = 15 := rfl
  have k16 : (16 : Int32).toInt = 16 := rfl
  constructor
  · intro h
    by_cases c1 : v < -1
    · exact Or.inl c1
    · by_cases c2 : 16 ≤ v
      · exact Or.inr c2
      · have := cv_nlt c1
        have := cv_nle c2
        rw [is_1 (by omega) (by omega)] at h
        exact absurd h z10
  · intro h
    refine is_0 ?_
    rcases h with h | h
    · exact Or.inl (cv_lt h)
    · have := cv_le h; omega
theorem iCl {v : Int32} : m_X8_isIn v (-1) 7 = 0 ↔ (¬ v = -1 ∧ m_X8_isIn v 0 7 = 0) := by
  have k7 : (7 : Int32).toInt = 7 := rfl
  have k0 : (0 : Int32).toInt = 0 := rfl
  have k1 : (-1 : Int32).toInt = -1 := rfl
  constructor
  · intro h
    have e : ¬ v = -1 := fun e => by rw [e] at h; exact absurd h (by decide)
    refine ⟨e, is_0 ?_⟩
    have := cv_ne e
    apply Classical.byContradiction
    intro n
    rw [is_1 (by omega) (by omega)] at h
    exact absurd h z10
  · intro h
    refine is_0 ?_
    have := cv_ne h.1
    apply Classical.byContradiction
    intro n
    have h2 := h.2
    rw [is_1 (by omega) (by omega)] at h2
    exact absurd h2 z10
theorem hold_c {c : qC} {q : qM} (h : RI c q) (x f cl key fi la : Int32) : m_X7_hold c x f cl key fi la = (if m_X8_isIn x 0 7 = 0 then (1, c) else (if m_X8_isIn f (-1) 15 = 0 then (1, c) else (if m_X8_isIn cl (-1) 7 = 0 then (1, c) else (if m_X8_isIn key (-1) 99 = 0 then (2, c) else (if m_X8_isIn fi 0 120000 = 0 then (2, c) else (if m_X8_isIn la 0 120000 = 0 then (2, c) else (if la < fi then (2, c) else (if q.1 19 (Int32.toNatClampNeg x) = 0 then (if m_X8_hasRoom q 1 = 0 then (3, c) else (0, (m_X0_write (cq_i (cq_i (cq_i (cq_i (cq_i (cq_i c 15 (Int32.toNatClampNeg x) 0 1) 15 (Int32.toNatClampNeg x) 1 f) 15 (Int32.toNatClampNeg x) 2 cl) 15 (Int32.toNatClampNeg x) 3 key) 15 (Int32.toNatClampNeg x) 4 fi) 15 (Int32.toNatClampNeg x) 5 la) 6 x (f + 1) (cl + 1) 0))) else (3, c)))))))))  := by
  unfold m_X7_hold
  rw [kHo, kKe, kDa, kDa, kRo1 h, kCl, (h.1.2.2.2.2.2.1 _).1]
  by_cases h1 : m_X8_isIn x 0 7 = 0
  · rw [if_pos h1, if_pos h1, if_neg z10]
  rw [if_neg h1, if_neg h1, if_pos rfl]
  by_cases h2 : f < -1
  · rw [if_pos h2, if_pos (iKe.mpr (Or.inl h2))]
  rw [if_neg h2]
  by_cases h3 : f < 16
  case neg => rw [if_neg h3, if_pos (iKe.mpr (Or.inr (Int32.le_iff_toInt_le.mpr (cv_nlt h3))))]
  rw [if_pos h3, if_neg (c := m_X8_isIn f (-1) 15 = 0) (fun n => by rcases iKe.mp n with n | n; exact h2 n; have := cv_le n; have := cv_lt h3; omega)]
  have key2 : ∀ (X : Int32 × qC), (if (if m_X8_isIn key (-1) 99 = 0 then (2 : Int32) else 0) = 0 then (if (if m_X8_isIn fi 0 120000 = 0 then (2 : Int32) else 0) = 0 then (if (if m_X8_isIn la 0 120000 = 0 then (2 : Int32) else 0) = 0 then (if fi ≤ la then (if (if m_X8_hasRoom q 1 = 0 then (3 : Int32) else 0) = 0 then (if q.1 19 (Int32.toNatClampNeg x) = 0 then X else (3, c)) else ((if m_X8_hasRoom q 1 = 0 then (3 : Int32) else 0), c)) else (2, c)) else ((if m_X8_isIn la 0 120000 = 0 then (2 : Int32) else 0), c)) else ((if m_X8_isIn fi 0 120000 = 0 then (2 : Int32) else 0), c)) else ((if m_X8_isIn key (-1) 99 = 0 then (2 : Int32) else 0), c)) = (if m_X8_isIn key (-1) 99 = 0 then (2, c) else (if m_X8_isIn fi 0 120000 = 0 then (2, c) else (if m_X8_isIn la 0 120000 = 0 then (2, c) else (if la < fi then (2, c) else (if q.1 19 (Int32.toNatClampNeg x) = 0 then (if m_X8_hasRoom q 1 = 0 then (3, c) else X) else (3, c)))))) := by
    intro X
    by_cases a1 : m_X8_isIn key (-1) 99 = 0
    · rw [if_pos a1, if_pos a1, if_neg z20]
    rw [if_neg a1, if_neg a1, if_pos rfl]
    by_cases a2 : m_X8_isIn fi 0 120000 = 0
    · rw [if_pos a2, if_pos a2, if_neg z20]
    rw [if_neg a2, if_neg a2, if_pos rfl]
    by_cases a3 : m_X8_isIn la 0 120000 = 0
    · rw [if_pos a3, if_pos a3, if_neg z20]
    rw [if_neg a3, if_neg a3, if_pos rfl]
    by_cases a4 : la < fi
    · rw [if_pos a4, if_neg (fun n => by have := cv_le n; have := cv_lt a4; omega)]
    rw [if_neg a4, if_pos (Int32.le_iff_toInt_le.mpr (cv_nlt a4))]
    by_cases a5 : m_X8_hasRoom q 1 = 0
    · rw [if_pos a5, if_pos a5, if_neg z30]; split <;> rfl
    rw [if_neg a5, if_neg a5, if_pos rfl]
  by_cases h4 : cl = -1
  · rw [if_pos h4, if_neg (c := m_X8_isIn cl (-1) 7 = 0) (fun n => (iCl.mp n).1 h4)]
    exact key2 _
  · rw [if_neg h4]
    by_cases h5 : m_X8_isIn cl 0 7 = 0
    · rw [if_pos h5, if_neg z10, if_pos (c := m_X8_isIn cl (-1) 7 = 0) (iCl.mpr ⟨h4, h5⟩)]
    · rw [if_neg h5, if_pos rfl, if_neg (c := m_X8_isIn cl (-1) 7 = 0) (fun n => h5 (iCl.mp n).2)]
      exact key2 _
theorem st_hold {c : qC} {q : qM} (h : RI c q) (x f cl key fi la : Int32) : (m_X8_hold q x f cl key fi la).1 0 0 = (m_X7_hold c x f cl key fi la).1 ∧ RI (m_X7_hold c x f cl key fi la).2 (m_X8_hold q x f cl key fi la) := by
  rw [hold_c h]
  unfold m_X8_hold
  have s1 : ∀ (p1 p2 p3 p4 : Prop) [Decidable p1] [Decidable p2] [Decidable p3] [Decidable p4], (if p1 then (mq_i q 0 0 1) else (if p2 then (mq_i q 0 0 1) else (if p3 then (mq_i q 0 0 1) else (if p4 then (mq_i q 0 0 1) else (mq_i q 0 0 1))))) = mq_i q 0 0 1 := by
    intros; repeat' split
    all_goals rfl
  rw [s1]
  by_cases h1 : m_X8_isIn x 0 7 = 0
  · rw [if_pos h1, if_pos h1]; exact ⟨rfl, RI_t h⟩
  rw [if_neg h1, if_neg h1]
  by_cases h2 : m_X8_isIn f (-1) 15 = 0
  · rw [if_pos h2, if_pos h2]; exact ⟨rfl, RI_t h⟩
  rw [if_neg h2, if_neg h2]
  by_cases h3 : m_X8_isIn cl (-1) 7 = 0
  · rw [if_pos h3, if_pos h3]; exact ⟨rfl, RI_t h⟩
  rw [if_neg h3, if_neg h3]
  by_cases h4 : m_X8_isIn key (-1) 99 = 0
  · rw [if_pos h4, if_pos h4]; exact ⟨rfl, RI_t h⟩
  rw [if_neg h4, if_neg h4]
  by_cases h5 : m_X8_isIn fi 0 120000 = 0
  · rw [if_pos h5, if_pos h5]; exact ⟨rfl, RI_t h⟩
  rw [if_neg h5, if_neg h5]
  by_cases h6 : m_X8_isIn la 0 120000 = 0
  · rw [if_pos h6, if_pos h6]; exact ⟨rfl, RI_t h⟩
  rw [if_neg h6, if_neg h6]
  by_cases h7 : la < fi
  · rw [if_pos h7, if_pos h7]; exact ⟨rfl, RI_t h⟩
  rw [if_neg h7, if_neg h7]
  by_cases h8 : q.1 19 (Int32.toNatClampNeg x) = 0
  case neg => rw [if_neg h8, if_neg h8]; exact ⟨rfl, RI_t h⟩
  rw [if_pos h8, if_pos h8]
  by_cases h9 : m_X8_hasRoom q 1 = 0
  · rw [if_pos h9, if_pos h9]; exact ⟨rfl, RI_t h⟩
  rw [if_neg h9, if_neg h9]
  have hr := hr1 h.2.2.1 h9
  refine ⟨by rw [wr_1 (by decide) (by decide), mq_i_ne _ _ (by decide), mq_i_ne _ _ (by decide), mq_i_ne _ _ (by decide), mq_i_ne _ _ (by decide), mq_i_ne _ _ (by decide), mq_i_ne _ _ (by decide), mq_same], ?_⟩
  refine RI_w ?_ (by rw [mq_ne (by decide), mq_ne (by decide), mq_ne (by decide), mq_ne (by decide), mq_ne (by decide), mq_ne (by decide), mq_ne (by decide)]; exact hr) (fun hk => by rcases hk with hk | hk <;> exact absurd hk (by decide))
  obtain ⟨⟨g1, g2, g3, g4, g5, g6, g7⟩, hg, hl, hc⟩ := h
  generalize Int32.toNatClampNeg x = X at *
  have hcc : ∀ {K : List Nat}, K.contains 15 = false → ek K (cq_i (cq_i (cq_i (cq_i (cq_i (cq_i c 15 X 0 1) 15 X 1 f) 15 X 2 cl) 15 X 3 key) 15 X 4 fi) 15 X 5 la) c := fun a => ek_i a (ek_i a (ek_i a (ek_i a (ek_i a (ek_i a (ek_rf _))))))
  have hm : ∀ {K : List Nat}, K.contains 0 = false → K.contains 19 = false → K.contains 20 = false → K.contains 21 = false → K.contains 22 = false → K.contains 23 = false → K.contains 24 = false → em K (mq_i (mq_i (mq_i (mq_i (mq_i (mq_i (mq_i q 0 0 0) 19 X 1) 20 X f) 21 X cl) 22 X key) 23 X fi) 24 X la) q := fun a b c d e f g => em_i g (em_i f (em_i e (em_i d (em_i c (em_i b (em_i a (em_rf _)))))))
  refine ⟨⟨G1_fr g1 (hcc rfl) (hm rfl rfl rfl rfl rfl rfl rfl), G2_fr g2 (hcc rfl) (hm rfl rfl rfl rfl rfl rfl rfl), G3_fr g3 (hcc rfl) (hm rfl rfl rfl rfl rfl rfl rfl), G4_fr g4 (hcc rfl) (hm rfl rfl rfl rfl rfl rfl rfl), G5_fr g5 (hcc rfl) (hm rfl rfl rfl rfl rfl rfl rfl), ?_, G7_fr g7 (hcc rfl) (hm rfl rfl rfl rfl rfl rfl rfl)⟩, gI_i rfl (gI_i rfl (gI_i rfl (gI_i rfl (gI_i rfl (gI_i rfl (gI_i rfl hg)))))), lI_i rfl (lI_i rfl (lI_i rfl (lI_i rfl (lI_i rfl (lI_i rfl (lI_i rfl hl)))))), cI_i rfl (cI_i rfl (cI_i rfl (cI_i rfl (cI_i rfl (cI_i rfl hc)))))⟩
  intro g
  by_cases e : g = X
  · subst e
    refine ⟨?_, ?_, ?_, ?_, ?_, ?_⟩
    · rw [cq_ni (by decide), cq_ni (by decide), cq_ni (by decide), cq_ni (by decide), cq_ni (by decide), cq_same, mq_ne (by decide), mq_ne (by decide), mq_ne (by decide), mq_ne (by decide), mq_ne (by decide), mq_same]
    · rw [cq_ni (by decide), cq_ni (by decide), cq_ni (by decide), cq_ni (by decide), cq_same, mq_ne (by decide), mq_ne (by decide), mq_ne (by decide), mq_ne (by decide), mq_same]
    · rw [cq_ni (by decide), cq_ni (by decide), cq_ni (by decide), cq_same, mq_ne (by decide), mq_ne (by decide), mq_ne (by decide), mq_same]
    · rw [cq_ni (by decide), cq_ni (by decide), cq_same, mq_ne (by decide), mq_ne (by decide), mq_same]
    · rw [cq_ni (by decide), cq_same, mq_ne (by decide), mq_same]
    · rw [cq_same, mq_same]
  · have en : ¬ (15 = 15 ∧ g = X) := fun x => e x.2
    rw [cq_nj en, cq_nj en, cq_nj en, cq_nj en, cq_nj en, cq_nj en]
    have u : ∀ (m : qM) (F : Nat) (v : Int32), (mq_i m F X v).1 F g = m.1 F g := fun m F v => by rw [mq_i_self]; unfold upd; rw [if_neg e]
    refine ⟨?_, ?_, ?_, ?_, ?_, ?_⟩
    · rw [mq_ne (by decide), mq_ne (by decide), mq_ne (by decide), mq_ne (by decide), mq_ne (by decide), u, mq_ne (by decide)]; exact (g6 g).1
    · rw [mq_ne (by decide), mq_ne (by decide), mq_ne (by decide), mq_ne (by decide), u, mq_ne (by decide), mq_ne (by decide)]; exact (g6 g).2.1
    · rw [mq_ne (by decide), mq_ne (by decide), mq_ne (by decide), u, mq_ne (by decide), mq_ne (by decide), mq_ne (by decide)]; exact (g6 g).2.2.1
    · rw [mq_ne (by decide), mq_ne (by decide), u, mq_ne (by decide), mq_ne (by decide), mq_ne (by decide), mq_ne (by decide)]; exact (g6 g).2.2.2.1
    · rw [mq_ne (by decide), u, mq_ne (by decide), mq_ne (by decide), mq_ne (by decide), mq_ne (by decide), mq_ne (by decide)]; exact (g6 g).2.2.2.2.1
    · rw [u, mq_ne (by decide), mq_ne (by decide), mq_ne (by decide), mq_ne (by decide), mq_ne (by decide), mq_ne (by decide)]; exact (g6 g).2.2.2.2.2
