/-! calls that change a little: one by one -/
theorem cx_le {α : Type} {v lo hi : Int32} {A B : α} : (if v < lo then A else (if v ≤ hi then B else A)) = (if m_X8_isIn v lo hi = 0 then A else B) := by
  have h : (if v < lo then (1 : Int32) else (if v ≤ hi then 0 else 1)) = (if m_X8_isIn v lo hi = 0 then 1 else 0) := ck_le
  by_cases c1 : v < lo
  · rw [if_pos c1] at h ⊢
    by_cases g : m_X8_isIn v lo hi = 0
    · rw [if_pos g]
    · rw [if_neg g] at h; exact absurd h (by decide)
  · rw [if_neg c1] at h ⊢
    by_cases c2 : v ≤ hi
    · rw [if_pos c2] at h ⊢
      by_cases g : m_X8_isIn v lo hi = 0
      · rw [if_pos g] at h; exact absurd h (by decide)
      · rw [if_neg g]
    · rw [if_neg c2] at h ⊢
      by_cases g : m_X8_isIn v lo hi = 0
      · rw [if_pos g]
      · rw [if_neg g] at h; exact absurd h (by decide)
theorem cx_gt {α : Type} {v lo hi : Int32} {A B : α} : (if v < lo then A else (if hi < v then A else B)) = (if m_X8_isIn v lo hi = 0 then A else B) := by
  rw [← cx_le]
  by_cases c1 : v < lo
  · rw [if_pos c1, if_pos c1]
  · rw [if_neg c1, if_neg c1]
    by_cases c2 : hi < v
    · rw [if_pos c2, if_neg (fun q => by have := cv_lt c2; have := cv_le q; omega)]
    · rw [if_neg c2, if_pos (Int32.le_iff_toInt_le.mpr (cv_nlt c2))]
theorem cx_lt {α : Type} {v lo hi hi' : Int32} {A B : α} (h : hi.toInt = hi'.toInt + 1) : (if v < lo then A else (if v < hi then B else A)) = (if m_X8_isIn v lo hi' = 0 then A else B) := by
  rw [← cx_le]
  by_cases c1 : v < lo
  · rw [if_pos c1, if_pos c1]
  · rw [if_neg c1, if_neg c1]
    by_cases c2 : v < hi
    · rw [if_pos c2, if_pos (Int32.le_iff_toInt_le.mpr (by have := cv_lt c2; omega))]
    · rw [if_neg c2, if_neg (fun q => by have := cv_nlt c2; have := cv_le q; omega)]
theorem z10 : ¬ (1 : Int32) = 0 := by decide
theorem z20 : ¬ (2 : Int32) = 0 := by decide
theorem z30 : ¬ (3 : Int32) = 0 := by decide
theorem st_officer {c : qC} {q : qM} (h : RI c q) (o r : Int32) : (m_X8_officer q o r).1 0 0 = (m_X7_officer c o r).1 ∧ RI (m_X7_officer c o r).2 (m_X8_officer q o r) := by
  unfold m_X7_officer m_X8_officer
  rw [kOf, cx_le]
  by_cases h1 : m_X8_isIn o 0 7 = 0
  · rw [if_pos h1, if_pos h1, if_neg z10]; exact ⟨mq_same _ _ _ _, RI_t h⟩
  · rw [if_neg h1, if_neg h1, if_pos rfl]
    by_cases h2 : m_X8_isIn r 0 7 = 0
    · rw [if_pos h2, if_pos h2]; exact ⟨mq_same _ _ _ _, RI_t h⟩
    · rw [if_neg h2, if_neg h2]
      refine ⟨rfl, ?_⟩
      obtain ⟨⟨g1, g2, g3, g4, g5, g6, g7⟩, hg, hl, hc⟩ := h
      refine ⟨⟨?_, G2_fr g2 (ek_i rfl (ek_rf _)) (em_i rfl (em_i rfl (em_rf _))), G3_fr g3 (ek_i rfl (ek_rf _)) (em_i rfl (em_i rfl (em_rf _))), G4_fr g4 (ek_i rfl (ek_rf _)) (em_i rfl (em_i rfl (em_rf _))), G5_fr g5 (ek_i rfl (ek_rf _)) (em_i rfl (em_i rfl (em_rf _))), G6_fr g6 (ek_i rfl (ek_rf _)) (em_i rfl (em_i rfl (em_rf _))), G7_fr g7 (ek_i rfl (ek_rf _)) (em_i rfl (em_i rfl (em_rf _)))⟩, gI_i rfl (gI_i rfl hg), lI_i rfl (lI_i rfl hl), cI_i rfl hc⟩
      obtain ⟨b1, b2, b3, b4, b5⟩ := g1
      exact ⟨b1, b2, b3, b4, by show (cq_i c 1 0 _ r).1 1 0 = (mq_i (mq_i q 0 0 0) 1 _ r).1 1; rw [cq_cell, mq_i_self, b5]; rfl⟩
theorem st_spoil {c : qC} {q : qM} (h : RI c q) (i w v : Int32) : (m_X8_spoil q i w v).1 0 0 = (m_X7_spoil c i w v).1 ∧ RI (m_X7_spoil c i w v).2 (m_X8_spoil q i w v) := by
  unfold m_X7_spoil m_X8_spoil
  rw [kAc h, kNu]
  by_cases h1 : m_X8_noAct q i = 0
  · rw [if_pos h1, if_pos h1, if_pos rfl]
    by_cases h2 : m_X8_isIn w 0 3 = 0
    · rw [if_pos h2, if_pos h2, if_neg z20]; exact ⟨mq_same _ _ _ _, RI_t h⟩
    · rw [if_neg h2, if_neg h2, if_pos rfl]
      refine ⟨rfl, ?_⟩
      obtain ⟨⟨g1, g2, g3, g4, g5, g6, g7⟩, hg, hl, hc⟩ := h
      refine ⟨⟨G1_fr g1 (ek_i rfl (ek_rf _)) (em_i rfl (em_i rfl (em_rf _))), ?_, G3_fr g3 (ek_i rfl (ek_rf _)) (em_i rfl (em_i rfl (em_rf _))), G4_fr g4 (ek_i rfl (ek_rf _)) (em_i rfl (em_i rfl (em_rf _))), G5_fr g5 (ek_i rfl (ek_rf _)) (em_i rfl (em_i rfl (em_rf _))), G6_fr g6 (ek_i rfl (ek_rf _)) (em_i rfl (em_i rfl (em_rf _))), G7_fr g7 (ek_i rfl (ek_rf _)) (em_i rfl (em_i rfl (em_rf _)))⟩, gI_i rfl (gI_i rfl hg), lI_i rfl (lI_i rfl hl), cI_i rfl hc⟩
      obtain ⟨b1, b2, b3⟩ := g2
      exact ⟨b1, by show (cq_i c 8 0 _ v).1 8 0 = (mq_i (mq_i q 0 0 0) 32 _ v).1 32; rw [cq_cell, mq_i_self, b2]; rfl, b3⟩
  · rw [if_neg h1, if_neg h1, if_neg z10]; exact ⟨mq_same _ _ _ _, RI_t h⟩
def wkF (x : Int32) : Int32 := if x = 0 then 0 else if x = 2 then 1 else 2
def wkO (x : Int32) : Int32 := if x = 0 then 0 else if x = 1 then 1 else 2
def wkT (x : Int32) : Int32 := if x = 0 then 0 else 1
theorem mq_noop (q : qM) (f i : Nat) : mq_i q f i (q.1 f i) = q := by
  refine Prod.ext (funext fun a => ?_) rfl
  by_cases e : a = f
  · subst e
    rw [mq_i_self]
    refine funext fun b => ?_
    unfold upd
    by_cases e2 : b = i
    · rw [if_pos e2, e2]
    · rw [if_neg e2]
  · rw [mq_i_ne _ _ e]
theorem st_fiscal {c : qC} {q : qM} (h : RI c q) (mo : Int32) : (m_X8_fiscal q mo).1 0 0 = wkF (m_X7_fiscal c mo).1 ∧ RI (m_X7_fiscal c mo).2 (m_X8_fiscal q mo) := by
  unfold m_X7_fiscal m_X8_fiscal
  rw [cx_le, h.1.1.1]
  have same : ∀ v, RI c (mq_i (mq_i q 0 0 v) 2 0 (q.1 2 0)) := fun v => by
    have := mq_noop (mq_i q 0 0 v) 2 0
    rw [mq_ne (by decide)] at this
    rw [this]
    exact RI_t h
  by_cases h1 : m_X8_isIn mo 1 12 = 0
  · rw [if_pos h1, if_pos h1]; exact ⟨rfl, same 1⟩
  · rw [if_neg h1, if_neg h1]
    by_cases h2 : q.1 12 0 ≤ 0
    · rw [if_pos h2, if_pos h2]
      refine ⟨rfl, ?_⟩
      have hm := is_t h1
      obtain ⟨⟨g1, g2, g3, g4, g5, g6, g7⟩, hg, hl, hc⟩ := h
      refine ⟨⟨?_, G2_fr g2 (ek_i rfl (ek_rf _)) (em_i rfl (em_i rfl (em_rf _))), G3_fr g3 (ek_i rfl (ek_rf _)) (em_i rfl (em_i rfl (em_rf _))), G4_fr g4 (ek_i rfl (ek_rf _)) (em_i rfl (em_i rfl (em_rf _))), G5_fr g5 (ek_i rfl (ek_rf _)) (em_i rfl (em_i rfl (em_rf _))), G6_fr g6 (ek_i rfl (ek_rf _)) (em_i rfl (em_i rfl (em_rf _))), G7_fr g7 (ek_i rfl (ek_rf _)) (em_i rfl (em_i rfl (em_rf _)))⟩, gI_2 hm (gI_i rfl hg), lI_i rfl (lI_i rfl hl), cI_010 hm hc⟩
      obtain ⟨b1, b2, b3, b4, b5⟩ := g1
      exact ⟨b1, b2, b3, rfl, b5⟩
    · rw [if_neg h2, if_neg h2]; exact ⟨rfl, same 2⟩
theorem st_open {c : qC} {q : qM} (h : RI c q) (f cl : Int32) : (m_X8_open q f cl).1 0 0 = wkO (m_X7_open c f cl).1 ∧ RI (m_X7_open c f cl).2 (m_X8_open q f cl) := by
  unfold m_X7_open m_X8_open
  rw [cx_lt (hi' := 15) rfl, kCl, kRo1 h]
  by_cases h1 : m_X8_isIn f 0 15 = 0
  · rw [if_pos h1, if_pos h1]; exact ⟨rfl, RI_t h⟩
  rw [if_neg h1, if_neg h1]
  by_cases h2 : m_X8_isIn cl 0 7 = 0
  · rw [if_pos h2, if_pos h2, if_neg z10]; exact ⟨rfl, RI_t h⟩
  rw [if_neg h2, if_neg h2, if_pos rfl]
  have h4 := h.1.2.2.2.1 _ (cl16 h1)
  have h3 := (h.1.2.2.1.1 (Int32.toNatClampNeg cl)).2.1
  rw [h3]
  by_cases h5 : q.1 9 (Int32.toNatClampNeg f) = -1
  · rw [if_pos h5]
    by_cases h6 : q.1 5 (Int32.toNatClampNeg cl) = 0
    · rw [if_pos h6]
      refine ⟨?_, ?_⟩
      · rw [mq_same]; by_cases h7 : m_X8_hasRoom q 1 = 0
        · rw [if_pos h7, if_neg z30]; rfl
        · rw [if_neg h7, if_pos rfl, if_pos (h4.1.mpr h5), if_pos h6]; rfl
      · by_cases h7 : m_X8_hasRoom q 1 = 0
        · rw [if_pos h7, if_neg z30]; exact RI_t h
        · rw [if_neg h7, if_pos rfl, if_pos (h4.1.mpr h5), if_pos h6]; exact RI_t h
    · rw [if_neg h6]
      by_cases h7 : m_X8_hasRoom q 1 = 0
      · rw [if_pos h7, if_pos h7, if_neg z30]; exact ⟨rfl, RI_t h⟩
      · rw [if_neg h7, if_neg h7, if_pos rfl, if_pos (h4.1.mpr h5), if_neg h6]
        have hf := is_t h1
        have hcl := is_t h2
        have hr := hr1 h.2.2.1 h7
        refine ⟨by rw [wr_1 (by decide) (by decide), mq_i_ne _ _ (by decide), mq_same]; rfl, ?_⟩
        refine RI_w ?_ (by rw [mq_ne (by decide), mq_ne (by decide)]; exact hr) (fun hk => by rcases hk with hk | hk <;> exact absurd hk (by decide))
        obtain ⟨⟨g1, g2, g3, g4, g5, g6, g7⟩, hg, hl, hc⟩ := h
        have hc5 : ∀ {K : List Nat}, K.contains 3 = false → K.contains 14 = false → ek K (cq_i (cq_i (cq_i (cq_i (cq_i c 14 (Int32.toNatClampNeg f) 0 f) 14 (Int32.toNatClampNeg f) 1 cl) 14 (Int32.toNatClampNeg f) 2 (-1)) 14 (Int32.toNatClampNeg f) 3 (-1)) 3 0 (Int32.toNatClampNeg f) 1) c := fun a b => ek_i a (ek_i b (ek_i b (ek_i b (ek_i b (ek_rf _)))))
        have hm : ∀ {K : List Nat}, K.contains 0 = false → K.contains 9 = false → em K (mq_i (mq_i q 0 0 0) 9 (Int32.toNatClampNeg f) cl) q := fun a b => em_i b (em_i a (em_rf _))
        refine ⟨⟨G1_fr g1 (hc5 rfl rfl) (hm rfl rfl), G2_fr g2 (hc5 rfl rfl) (hm rfl rfl), G3_fr g3 (hc5 rfl rfl) (hm rfl rfl), ?_, G5_fr g5 (hc5 rfl rfl) (hm rfl rfl), G6_fr g6 (hc5 rfl rfl) (hm rfl rfl), G7_fr g7 (hc5 rfl rfl) (hm rfl rfl)⟩, gI_9 hcl (gI_i rfl hg), lI_i rfl (lI_i rfl hl), cI_3 (cI_143 (by decide) (cI_142 (by decide) (cI_141 hcl (cI_i rfl hc))))⟩
        intro g hg16
        have hne : ¬ cl = -1 := fun e => by have := cv_eq e; have k1 : (-1 : Int32).toInt = -1 := rfl; have k0 : (0 : Int32).toInt = 0 := rfl; omega
        by_cases e : g = Int32.toNatClampNeg f
        · have e9 : (mq_i (mq_i q 0 0 0) 9 (Int32.toNatClampNeg f) cl).1 9 g = cl := by rw [e, mq_same]
          have e10 : (mq_i (mq_i q 0 0 0) 9 (Int32.toNatClampNeg f) cl).1 10 g = -1 := by rw [mq_ne (by decide), mq_ne (by decide), e]; exact (h4.2.1 (h4.1.mpr h5)).1
          have e11 : (mq_i (mq_i q 0 0 0) 9 (Int32.toNatClampNeg f) cl).1 11 g = -1 := by rw [mq_ne (by decide), mq_ne (by decide), e]; exact (h4.2.1 (h4.1.mpr h5)).2
          rw [e9, e10, e11, e, cq_same]
          refine ⟨⟨fun x => absurd x z10, fun x => absurd x hne⟩, fun x => absurd x z10, fun _ => ⟨?_, ?_, ?_, ?_⟩⟩
          · rw [cq_ne (by decide), cq_ni (by decide), cq_ni (by decide), cq_ni (by decide), cq_same]
            have := tn_e (r := f) hf.1
            exact Int32.toInt_inj.mp (by rw [nI_toInt (by omega)]; omega)
          · rw [cq_ne (by decide), cq_ni (by decide), cq_ni (by decide), cq_same]
          · rw [cq_ne (by decide), cq_ni (by decide), cq_same]
          · rw [cq_ne (by decide), cq_same]
        · have e9 : (mq_i (mq_i q 0 0 0) 9 (Int32.toNatClampNeg f) cl).1 9 g = q.1 9 g := by rw [mq_i_self]; simp [upd, e]; rfl
          rw [e9]
          have en : ¬ (14 = 14 ∧ g = Int32.toNatClampNeg f) := fun x => e x.2
          rw [cq_ni e, cq_ne (by decide), cq_ne (by decide), cq_ne (by decide), cq_ne (by decide), cq_nk (by decide), cq_nj en, cq_nj en, cq_nj en, cq_nj en, mq_ne (by decide), mq_ne (by decide), mq_ne (by decide), mq_ne (by decide)]
          exact g4 g hg16
  · rw [if_neg h5]
    have h5' := fun x => h5 (h4.1.mp x)
    refine ⟨?_, ?_⟩
    · rw [mq_same]; by_cases h7 : m_X8_hasRoom q 1 = 0
      · rw [if_pos h7, if_neg z30]; rfl
      · rw [if_neg h7, if_pos rfl, if_neg h5']; rfl
    · by_cases h7 : m_X8_hasRoom q 1 = 0
      · rw [if_pos h7, if_neg z30]; exact RI_t h
      · rw [if_neg h7, if_pos rfl, if_neg h5']; exact RI_t h
