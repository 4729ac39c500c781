/-! the invariants, move by move -/
theorem cI_104 {q : qC} {J : Nat} {v : Int32} (hv : 0 ≤ v.toInt ∧ v.toInt ≤ 6) (h : cI q) : cI (cq_i q 10 J 4 v) := by
  obtain ⟨a1, a2, a3, a4, a5, a6, a7, a8, a9, a10, a11, a12, a13⟩ := h
  refine ⟨a1, a2, a3, fun j => ?_, a5, a6, a7, a8, a9, a10, a11, a12, a13⟩
  by_cases e : j = J
  · subst e; rw [cq_same]; exact hv
  · rw [cq_nj (fun x => e x.2)]; exact a4 j
theorem cI_12 {q : qC} {J I : Nat} {v : Int32} (hv : 0 ≤ v.toInt ∧ v.toInt ≤ 1211) (h : cI q) : cI (cq_i q 12 J I v) := by
  obtain ⟨a1, a2, a3, a4, a5, a6, a7, a8, a9, a10, a11, a12, a13⟩ := h
  refine ⟨a1, a2, a3, a4, a5, a6, a7, a8, a9, fun j i => ?_, a11, a12, a13⟩
  by_cases e : j = J
  · subst e
    by_cases e2 : i = I
    · subst e2; rw [cq_same]; exact hv
    · rw [cq_ni e2]; exact a10 j i
  · rw [cq_nj (fun x => e x.2)]; exact a10 j i
theorem cI_141 {q : qC} {J : Nat} {v : Int32} (hv : 0 ≤ v.toInt ∧ v.toInt ≤ 7) (h : cI q) : cI (cq_i q 14 J 1 v) := by
  obtain ⟨a1, a2, a3, a4, a5, a6, a7, a8, a9, a10, a11, a12, a13⟩ := h
  refine ⟨a1, fun j => ?_, a3, a4, a5, a6, a7, fun j => ?_, fun j => ?_, a10, a11, a12, a13⟩
  · by_cases e : j = J
    · subst e; rw [cq_same]; exact hv
    · rw [cq_nj (fun x => e x.2)]; exact a2 j
  · rw [cq_ni (by decide)]; exact a8 j
  · rw [cq_ni (by decide)]; exact a9 j
theorem cI_142 {q : qC} {J : Nat} {v : Int32} (hv : -1 ≤ v.toInt ∧ v.toInt ≤ 120000) (h : cI q) : cI (cq_i q 14 J 2 v) := by
  obtain ⟨a1, a2, a3, a4, a5, a6, a7, a8, a9, a10, a11, a12, a13⟩ := h
  refine ⟨a1, fun j => ?_, a3, a4, a5, a6, a7, fun j => ?_, fun j => ?_, a10, a11, a12, a13⟩
  · rw [cq_ni (by decide)]; exact a2 j
  · by_cases e : j = J
    · subst e; rw [cq_same]; exact hv
    · rw [cq_nj (fun x => e x.2)]; exact a8 j
  · rw [cq_ni (by decide)]; exact a9 j
theorem cI_143 {q : qC} {J : Nat} {v : Int32} (hv : -1 ≤ v.toInt ∧ v.toInt ≤ 120000) (h : cI q) : cI (cq_i q 14 J 3 v) := by
  obtain ⟨a1, a2, a3, a4, a5, a6, a7, a8, a9, a10, a11, a12, a13⟩ := h
  refine ⟨a1, fun j => ?_, a3, a4, a5, a6, a7, fun j => ?_, fun j => ?_, a10, a11, a12, a13⟩
  · rw [cq_ni (by decide)]; exact a2 j
  · rw [cq_ni (by decide)]; exact a8 j
  · by_cases e : j = J
    · subst e; rw [cq_same]; exact hv
    · rw [cq_nj (fun x => e x.2)]; exact a9 j
theorem cI_010 {q : qC} {v : Int32} (hv : 1 ≤ v.toInt ∧ v.toInt ≤ 12) (h : cI q) : cI (cq_i q 0 0 10 v) := by
  obtain ⟨a1, a2, a3, a4, a5, a6, a7, a8, a9, a10, a11, a12, a13⟩ := h
  exact ⟨a1, a2, a3, a4, hv, a6, a7, a8, a9, a10, a11, a12, a13⟩
theorem cI_3 {q : qC} {J : Nat} (h : cI q) : cI (cq_i q 3 0 J 1) := by
  obtain ⟨a1, a2, a3, a4, a5, a6, a7, a8, a9, a10, a11, a12, a13⟩ := h
  refine ⟨fun r hr => ?_, a2, a3, a4, a5, a6, a7, a8, a9, a10, a11, a12, a13⟩
  show ¬ (cq_i q 3 0 J 1).1 3 0 (Int32.toNatClampNeg (q.1 16 r 0)) = 0
  by_cases e : Int32.toNatClampNeg (q.1 16 r 0) = J
  · rw [e, cq_same]; decide
  · rw [cq_ni e]; exact a1 r hr
theorem cI_160 {q : qC} {J : Nat} {v : Int32} (hv : ¬ q.1 3 0 (Int32.toNatClampNeg v) = 0) (h : cI q) : cI (cq_i q 16 J 0 v) := by
  obtain ⟨a1, a2, a3, a4, a5, a6, a7, a8, a9, a10, a11, a12, a13⟩ := h
  refine ⟨fun r hr => ?_, a2, fun j => ?_, a4, a5, a6, a7, a8, a9, a10, a11, a12, a13⟩
  · show ¬ q.1 3 0 (Int32.toNatClampNeg ((cq_i q 16 J 0 v).1 16 r 0)) = 0
    by_cases e : r = J
    · subst e; rw [cq_same]; exact hv
    · rw [cq_nj (fun x => e x.2)]; exact a1 r hr
  · rw [cq_ni (by decide)]; exact a3 j
theorem cI_166 {q : qC} {J : Nat} {v : Int32} (hv : 0 ≤ v.toInt ∧ v.toInt ≤ 120000) (h : cI q) : cI (cq_i q 16 J 6 v) := by
  obtain ⟨a1, a2, a3, a4, a5, a6, a7, a8, a9, a10, a11, a12, a13⟩ := h
  refine ⟨fun r hr => ?_, a2, fun j => ?_, a4, a5, a6, a7, a8, a9, a10, a11, a12, a13⟩
  · show ¬ q.1 3 0 (Int32.toNatClampNeg ((cq_i q 16 J 6 v).1 16 r 0)) = 0
    rw [cq_ni (by decide)]; exact a1 r hr
  · by_cases e : j = J
    · subst e; rw [cq_same]; exact hv
    · rw [cq_nj (fun x => e x.2)]; exact a3 j
theorem cI_5 {q : qC} {J : Nat} (hv : ¬ q.1 3 0 (Int32.toNatClampNeg (q.1 16 J 0)) = 0) (h : cI q) : cI (cq_i q 5 0 J 1) := by
  obtain ⟨a1, a2, a3, a4, a5, a6, a7, a8, a9, a10, a11, a12, a13⟩ := h
  refine ⟨fun r hr => ?_, a2, a3, a4, a5, a6, fun r hr => ?_, a8, a9, a10, a11, a12, a13⟩
  · show ¬ q.1 3 0 (Int32.toNatClampNeg (q.1 16 r 0)) = 0
    by_cases e : r = J
    · subst e; exact hv
    · rw [cq_ni e] at hr; exact a1 r hr
  · by_cases e : r = J
    · subst e; rw [cq_same]; decide
    · rw [cq_ni e]; exact a7 r hr
theorem cI_07 {q : qC} (h : cI q) (h1 : (q.1 0 0 7).toInt ≤ 63) (h2 : ¬ q.1 5 0 (Int32.toNatClampNeg (q.1 0 0 7)) = 0) : cI (cq_i q 0 0 7 (q.1 0 0 7 + 1)) := by
  obtain ⟨a1, a2, a3, a4, a5, a6, a7, a8, a9, a10, a11, a12, a13⟩ := h
  have e1 := ad_o (q.1 0 0 7) 1
  have k1 : (1 : Int32).toInt = 1 := rfl
  refine ⟨a1, a2, a3, a4, a5, ?_, fun r hr => ?_, a8, a9, a10, a11, a12, a13⟩
  · rw [cq_same]; omega
  · rw [cq_same] at hr
    show ¬ q.1 5 0 r = 0
    by_cases e : r = Int32.toNatClampNeg (q.1 0 0 7)
    · rw [e]; exact h2
    · have := tn_e a6.1
      exact a7 r (by omega)
theorem cI_6 {q : qC} {J : Nat} (h : cI q) : cI (cq_i q 6 0 J 1) := by
  obtain ⟨a1, a2, a3, a4, a5, a6, a7, a8, a9, a10, a11, a12, a13⟩ := h
  refine ⟨a1, a2, a3, a4, a5, a6, a7, a8, a9, a10, a11, a12, fun r hr => ?_⟩
  by_cases e : r = J
  · subst e; rw [cq_same]; decide
  · rw [cq_ni e]; exact a13 r hr
theorem cI_08 {q : qC} (h : cI q) (h1 : (q.1 0 0 8).toInt ≤ 15) (h2 : ¬ q.1 6 0 (Int32.toNatClampNeg (q.1 0 0 8)) = 0) : cI (cq_i q 0 0 8 (q.1 0 0 8 + 1)) := by
  obtain ⟨a1, a2, a3, a4, a5, a6, a7, a8, a9, a10, a11, a12, a13⟩ := h
  have e1 := ad_o (q.1 0 0 8) 1
  have k1 : (1 : Int32).toInt = 1 := rfl
  refine ⟨a1, a2, a3, a4, a5, a6, a7, a8, a9, a10, a11, ?_, fun r hr => ?_⟩
  · rw [cq_same]; omega
  · rw [cq_same] at hr
    show ¬ q.1 6 0 r = 0
    by_cases e : r = Int32.toNatClampNeg (q.1 0 0 8)
    · rw [e]; exact h2
    · have := tn_e a12.1
      exact a13 r (by omega)
theorem up_r {f : Nat → Int32} {i : Nat} {v : Int32} {lo hi : Int} (h : ∀ j, lo ≤ (f j).toInt ∧ (f j).toInt ≤ hi) (hv : lo ≤ v.toInt ∧ v.toInt ≤ hi) : ∀ j, lo ≤ (upd f i v j).toInt ∧ (upd f i v j).toInt ≤ hi := by
  intro j
  unfold upd
  split
  · exact hv
  · exact h j
theorem gI_5 {q : qM} {i : Nat} {v : Int32} (hv : 0 ≤ v.toInt ∧ v.toInt ≤ 6) (h : gI q) : gI (mq_i q 5 i v) := by
  obtain ⟨a1, a2, a3, a4, a5, a6, a7, a8, a9, a10⟩ := h
  exact ⟨by rw [mq_i_self]; exact up_r a1 hv, a2, a3, a4, a5, a6, a7, a8, a9, a10⟩
theorem gI_6 {q : qM} {i : Nat} {v : Int32} (hv : 0 ≤ v.toInt ∧ v.toInt ≤ 1211) (h : gI q) : gI (mq_i q 6 i v) := by
  obtain ⟨a1, a2, a3, a4, a5, a6, a7, a8, a9, a10⟩ := h
  exact ⟨a1, a2, a3, a4, a5, a6, a7, by rw [mq_i_self]; exact up_r a8 hv, a9, a10⟩
theorem gI_10 {q : qM} {i : Nat} {v : Int32} (hv : -1 ≤ v.toInt ∧ v.toInt ≤ 120000) (h : gI q) : gI (mq_i q 10 i v) := by
  obtain ⟨a1, a2, a3, a4, a5, a6, a7, a8, a9, a10⟩ := h
  exact ⟨a1, a2, a3, a4, a5, by rw [mq_i_self]; exact up_r a6 hv, a7, a8, a9, a10⟩
theorem gI_11 {q : qM} {i : Nat} {v : Int32} (hv : -1 ≤ v.toInt ∧ v.toInt ≤ 120000) (h : gI q) : gI (mq_i q 11 i v) := by
  obtain ⟨a1, a2, a3, a4, a5, a6, a7, a8, a9, a10⟩ := h
  exact ⟨a1, a2, a3, a4, a5, a6, by rw [mq_i_self]; exact up_r a7 hv, a8, a9, a10⟩
theorem gI_2 {q : qM} {v : Int32} (hv : 1 ≤ v.toInt ∧ v.toInt ≤ 12) (h : gI q) : gI (mq_i q 2 0 v) := by
  obtain ⟨a1, a2, a3, a4, a5, a6, a7, a8, a9, a10⟩ := h
  exact ⟨a1, a2, a3, a4, a5, a6, a7, a8, hv, a10⟩
theorem gI_9 {q : qM} {i : Nat} {v : Int32} (hv : 0 ≤ v.toInt ∧ v.toInt ≤ 7) (h : gI q) : gI (mq_i q 9 i v) := by
  obtain ⟨a1, a2, a3, a4, a5, a6, a7, a8, a9, a10⟩ := h
  refine ⟨a1, by rw [mq_i_self]; exact up_r a2 (by omega), a3, a4, a5, a6, a7, a8, a9, fun j hj => ?_⟩
  rw [mq_i_self]
  show 0 ≤ (upd (q.1 9) i v (Int32.toNatClampNeg (q.1 13 j))).toInt
  unfold upd
  split
  · exact hv.1
  · exact a10 j hj
theorem gI_14 {q : qM} {i : Nat} {v : Int32} (hv : 0 ≤ v.toInt ∧ v.toInt ≤ 120000) (h : gI q) : gI (mq_i q 14 i v) := by
  obtain ⟨a1, a2, a3, a4, a5, a6, a7, a8, a9, a10⟩ := h
  exact ⟨a1, a2, a3, a4, by rw [mq_i_self]; exact up_r a5 hv, a6, a7, a8, a9, a10⟩
theorem gI_13 {q : qM} {i : Nat} {v : Int32} (hv : 0 ≤ v.toInt ∧ v.toInt ≤ 15) (hv2 : 0 ≤ (q.1 9 (Int32.toNatClampNeg v)).toInt) (h : gI q) : gI (mq_i q 13 i v) := by
  obtain ⟨a1, a2, a3, a4, a5, a6, a7, a8, a9, a10⟩ := h
  refine ⟨a1, a2, by rw [mq_i_self]; exact up_r a3 hv, a4, a5, a6, a7, a8, a9, fun j hj => ?_⟩
  rw [mq_i_self]
  show 0 ≤ (q.1 9 (Int32.toNatClampNeg (upd (q.1 13) i v j))).toInt
  unfold upd
  split
  · exact hv2
  · exact a10 j hj
theorem gI_12 {q : qM} (h : gI q) (h1 : (q.1 12 0).toInt ≤ 63) (h2 : 0 ≤ (q.1 9 (Int32.toNatClampNeg (q.1 13 (Int32.toNatClampNeg (q.1 12 0))))).toInt) : gI (mq_i q 12 0 (q.1 12 0 + 1)) := by
  obtain ⟨a1, a2, a3, a4, a5, a6, a7, a8, a9, a10⟩ := h
  have e1 := ad_o (q.1 12 0) 1
  have k1 : (1 : Int32).toInt = 1 := rfl
  refine ⟨a1, a2, a3, ?_, a5, a6, a7, a8, a9, fun j hj => ?_⟩
  · rw [mq_same]; omega
  · rw [mq_same] at hj
    show 0 ≤ (q.1 9 (Int32.toNatClampNeg (q.1 13 j))).toInt
    have := tn_e a4.1
    by_cases e : j = Int32.toNatClampNeg (q.1 12 0)
    · rw [e]; exact h2
    · exact a10 j (by omega)
theorem lI_12 {q : qM} (h : lI q) (h1 : (q.1 12 0).toInt ≤ 63) : lI (mq_i q 12 0 (q.1 12 0 + 1)) := by
  obtain ⟨a1, a2, a3, a4, a5, a6⟩ := h
  have e1 := ad_o (q.1 12 0) 1
  have k1 : (1 : Int32).toInt = 1 := rfl
  have e2 := rg_e (q.1 12 0)
  refine ⟨a1, a2, a3, fun a k b1 b2 b3 b4 => ?_, a5, a6⟩
  rw [mq_same]
  have := a4 a k b1 b2 b3 b4
  show (q.1 26 (Int32.toNatClampNeg (64 * a + k))).toInt < _
  omega
theorem lI_w {q : qM} {kd a b n : Int32} (h : lI q) (hs : (q.1 31 0).toInt ≤ 399) : lI (m_X8_write q kd a b n) := by
  unfold lI
  rw [wr_1 (f := 25) (by decide) (by decide), wr_1 (f := 27) (by decide) (by decide), wr_1 (f := 26) (by decide) (by decide), wr_1 (f := 12) (by decide) (by decide), wr_31]
  obtain ⟨a1, a2, a3, a4, a5, a6⟩ := h
  have e1 := ad_o (q.1 31 0) 1
  have k1 : (1 : Int32).toInt = 1 := rfl
  exact ⟨a1, a2, a3, a4, a5, by omega⟩
/-- all of it -/
def RI (c : qC) (q : qM) : Prop := Rl c q ∧ gI q ∧ lI q ∧ cI c
theorem RI_t {c : qC} {q : qM} {v : Int32} (h : RI c q) : RI c (mq_i q 0 0 v) := ⟨Rl_t h.1, gI_i rfl h.2.1, lI_i rfl h.2.2.1, h.2.2.2⟩
theorem RI_w {c : qC} {q : qM} {kd a b n : Int32} {dg : Int64} (h : RI c q) (hs : (q.1 31 0).toInt ≤ 399) (hd : kd = 5 ∨ kd = 11 → dg = dgw q a) : RI (m_X0_write c kd a b n dg) (m_X8_write q kd a b n) := by
  obtain ⟨h1, h2, h3, h4⟩ := h
  have := h3.2.2.2.2.2
  exact ⟨Rl_w h1 (by omega) hd, wr_gI h2, lI_w h3 hs, wc_I h4 (by rw [h1.2.1.1]; exact hs)⟩
/-! the checks -/
theorem ck_lt {v lo hi hi' A : Int32} (h : hi.toInt = hi'.toInt + 1) : (if v < lo then A else (if v < hi then 0 else A)) = (if m_X8_isIn v lo hi' = 0 then A else 0) := by
  unfold m_X8_isIn
  by_cases c1 : v < lo
  · rw [if_pos c1, if_pos c1, if_pos rfl]
  · rw [if_neg c1, if_neg c1]
    by_cases c2 : v < hi
    · have := cv_lt c2
      rw [if_pos c2, if_neg (c := hi' < v) (fun q => by have := cv_lt q; omega), if_neg (by decide)]
    · have := cv_nlt c2
      rw [if_neg c2, if_pos (c := hi' < v) (Int32.lt_iff_toInt_lt.mpr (by omega)), if_pos rfl]
theorem ck_le {v lo hi A : Int32} : (if v < lo then A else (if v ≤ hi then 0 else A)) = (if m_X8_isIn v lo hi = 0 then A else 0) := by
  unfold m_X8_isIn
  by_cases c1 : v < lo
  · rw [if_pos c1, if_pos c1, if_pos rfl]
  · rw [if_neg c1, if_neg c1]
    by_cases c2 : v ≤ hi
    · have := cv_le c2
      rw [if_pos c2, if_neg (c := hi < v) (fun q => by have := cv_lt q; omega), if_neg (by decide)]
    · have := cv_nle c2
      rw [if_neg c2, if_pos (c := hi < v) (Int32.lt_iff_toInt_lt.mpr (by omega)), if_pos rfl]
theorem kCl (v : Int32) : m_X7_needClass v = if m_X8_isIn v 0 7 = 0 then 1 else 0 := ck_lt rfl
theorem kHo (v : Int32) : m_X7_needHold v = if m_X8_isIn v 0 7 = 0 then 1 else 0 := ck_lt rfl
theorem kOf (v : Int32) : m_X7_needOfficer v = if m_X8_isIn v 0 7 = 0 then 1 else 0 := ck_lt rfl
theorem kDa (v : Int32) : m_X7_needDay v = if m_X8_isIn v 0 120000 = 0 then 2 else 0 := ck_le
theorem kKe (v : Int32) : m_X7_needKeyOrNone v = if m_X8_isIn v (-1) 99 = 0 then 2 else 0 := ck_le
theorem kNu (v : Int32) : m_X7_needNumberOfAct v = if m_X8_isIn v 0 3 = 0 then 2 else 0 := ck_lt rfl
theorem kTe (a b : Int32) : m_X7_needTerm a b = if m_X8_isTerm a b = 0 then 2 else 0 := by
  unfold m_X7_needTerm m_X8_isTerm
  have h1 : (if a < 0 then (2 : Int32) else (if a ≤ 100 then 0 else 2)) = (if m_X8_isIn a 0 100 = 0 then 2 else 0) := ck_le
  have h2 : (if b < 0 then (2 : Int32) else (if b ≤ 11 then 0 else 2)) = (if m_X8_isIn b 0 11 = 0 then 2 else 0) := ck_le
  by_cases c1 : a < 0
  · rw [if_pos c1] at h1 ⊢
    by_cases g : m_X8_isIn a 0 100 = 0
    · rw [if_pos g, if_pos rfl]
    · rw [if_neg g] at h1; exact absurd h1 (by decide)
  · rw [if_neg c1] at h1 ⊢
    by_cases c2 : 100 < a
    · have := cv_lt c2
      rw [if_pos c2]
      rw [if_neg (fun q => by have := cv_le q; omega)] at h1
      by_cases g : m_X8_isIn a 0 100 = 0
      · rw [if_pos g, if_pos rfl]
      · rw [if_neg g] at h1; exact absurd h1 (by decide)
    · have := cv_nlt c2
      rw [if_neg c2]
      rw [if_pos (Int32.le_iff_toInt_le.mpr this)] at h1
      by_cases g : m_X8_isIn a 0 100 = 0
      · rw [if_pos g] at h1; exact absurd h1 (by decide)
      · rw [if_neg g, h2]
        by_cases g2 : m_X8_isIn b 0 11 = 0
        · rw [if_pos g2, if_pos g2, if_pos rfl]
        · rw [if_neg g2, if_neg g2, if_neg (by decide)]
theorem su1 {a : Int32} (h : 0 ≤ a.toInt) : a.toInt = (a - 1).toInt + 1 := by
  have := su_o a 1
  have k1 : (1 : Int32).toInt = 1 := rfl
  have := rg_e a
  omega
theorem kAc {c : qC} {q : qM} (h : RI c q) (v : Int32) : m_X7_needAct c v = if m_X8_noAct q v = 0 then 0 else 1 := by
  have e : m_X7_needAct c v = if m_X8_isIn v 0 (q.1 31 0 - 1) = 0 then 1 else 0 := by
    unfold m_X7_needAct
    rw [h.1.2.1.1]
    exact ck_lt (su1 h.2.2.1.2.2.2.2.2.1)
  rw [e]
  unfold m_X8_noAct
  by_cases g : m_X8_isIn v 0 (q.1 31 0 - 1) = 0
  · rw [if_pos g, if_neg (by decide)]
  · rw [if_neg g, if_pos rfl]
theorem kRe {c : qC} {q : qM} (h : RI c q) (v : Int32) : m_X7_recordAt c v = if m_X8_noRecord q v = 0 then 0 else 1 := by
  have e : m_X7_recordAt c v = if m_X8_isIn v 0 (q.1 12 0 - 1) = 0 then 1 else 0 := by
    unfold m_X7_recordAt
    rw [h.1.1.1]
    exact ck_lt (su1 h.2.1.2.2.2.1.1)
  rw [e]
  unfold m_X8_noRecord
  by_cases g : m_X8_isIn v 0 (q.1 12 0 - 1) = 0
  · rw [if_pos g, if_neg (by decide)]
  · rw [if_neg g, if_pos rfl]
theorem kLi {c : qC} {q : qM} (h : RI c q) (v : Int32) : m_X7_listAt c v = if m_X8_noList q v = 0 then 0 else 1 := by
  have e : m_X7_listAt c v = if m_X8_isIn v 0 (q.1 25 0 - 1) = 0 then 1 else 0 := by
    unfold m_X7_listAt
    rw [h.1.1.2.1]
    exact ck_lt (su1 h.2.2.1.1.1)
  rw [e]
  unfold m_X8_noList
  by_cases g : m_X8_isIn v 0 (q.1 25 0 - 1) = 0
  · rw [if_pos g, if_neg (by decide)]
  · rw [if_neg g, if_pos rfl]
theorem kOf2 (v : Int32) : m_X7_needOfficer v = if m_X8_noOfficer v = 0 then 0 else 1 := by
  rw [kOf]
  unfold m_X8_noOfficer
  by_cases g : m_X8_isIn v 0 7 = 0
  · rw [if_pos g, if_neg (by decide)]
  · rw [if_neg g, if_pos rfl]
theorem cl16 {f : Int32} (h : ¬ m_X8_isIn f 0 15 = 0) : Int32.toNatClampNeg f < 16 := by
  have h1 := is_t h
  have k0 : (0 : Int32).toInt = 0 := rfl
  have k15 : (15 : Int32).toInt = 15 := rfl
  have := tn_e (r := f) (by omega)
  omega
theorem kFo {c : qC} {q : qM} (h : RI c q) (v : Int32) : m_X7_folderAt c v = if m_X8_noFolder q v = 0 then 0 else 1 := by
  unfold m_X7_folderAt m_X8_noFolder
  have e : (if v < 0 then (1 : Int32) else (if v < 16 then 0 else 1)) = (if m_X8_isIn v 0 15 = 0 then 1 else 0) := ck_lt rfl
  have k16 : (16 : Int32).toInt = 16 := rfl
  by_cases c1 : v < 0
  · rw [if_pos c1] at e ⊢
    by_cases g : m_X8_isIn v 0 15 = 0
    · rw [if_pos g, if_neg (by decide)]
    · rw [if_neg g] at e; exact absurd e (by decide)
  · rw [if_neg c1] at e ⊢
    by_cases c2 : 16 ≤ v
    · have := cv_le c2
      rw [if_neg (fun q => by have := cv_lt q; omega)] at e
      rw [if_pos c2]
      by_cases g : m_X8_isIn v 0 15 = 0
      · rw [if_pos g, if_neg (by decide)]
      · rw [if_neg g] at e; exact absurd e (by decide)
    · have := cv_nle c2
      rw [if_pos (Int32.lt_iff_toInt_lt.mpr this)] at e
      rw [if_neg c2]
      by_cases g : m_X8_isIn v 0 15 = 0
      · rw [if_pos g] at e; exact absurd e (by decide)
      · rw [if_neg g]
        have hf := (h.1.2.2.2.1 _ (cl16 g)).1
        by_cases g2 : c.1 3 0 (Int32.toNatClampNeg v) = 0
        · rw [if_pos g2, if_pos (hf.mp g2), if_neg (by decide)]
        · rw [if_neg g2, if_neg (fun q => g2 (hf.mpr q)), if_pos rfl]
theorem kDo {c : qC} {q : qM} (h : RI c q) (v : Int32) : m_X7_needDayOfAct c v = if m_X8_isDay q v = 0 then 2 else 0 := by
  unfold m_X7_needDayOfAct m_X8_isDay
  rw [kDa, h.1.1.2.2.1]
  by_cases g : m_X8_isIn v 0 120000 = 0
  · rw [if_pos g, if_pos g, if_neg (by decide), if_pos rfl]
  · rw [if_neg g, if_neg g, if_pos rfl]
    by_cases g2 : q.1 3 0 ≤ v
    · have := cv_le g2
      rw [if_pos g2, if_neg (c := v < q.1 3 0) (fun q => by have := cv_lt q; omega), if_neg (by decide)]
    · have := cv_nle g2
      rw [if_neg g2, if_pos (c := v < q.1 3 0) (Int32.lt_iff_toInt_lt.mpr (by omega)), if_pos rfl]
theorem kRo {c : qC} {q : qM} (h : RI c q) (n : Int32) (h1 : 0 ≤ n.toInt) (h2 : n.toInt ≤ 1000) : m_X7_needRoom c n = if m_X8_hasRoom q n = 0 then 3 else 0 := by
  unfold m_X7_needRoom m_X8_hasRoom
  rw [h.1.2.1.1]
  have ha := h.2.2.1.2.2.2.2.2
  have e1 := su_o 400 (q.1 31 0)
  have e2 := ad_o (q.1 31 0) n
  have k400 : (400 : Int32).toInt = 400 := rfl
  by_cases g : n ≤ 400 - q.1 31 0
  · have := cv_le g
    rw [if_pos g, if_neg (c := 400 < q.1 31 0 + n) (fun q => by have := cv_lt q; omega), if_neg (by decide)]
  · have := cv_nle g
    rw [if_neg g, if_pos (c := 400 < q.1 31 0 + n) (Int32.lt_iff_toInt_lt.mpr (by omega)), if_pos rfl]
theorem kRo1 {c : qC} {q : qM} (h : RI c q) : m_X7_needRoom c 1 = if m_X8_hasRoom q 1 = 0 then 3 else 0 := kRo h 1 (by decide) (by decide)
theorem kRi {c : qC} {q : qM} (h : RI c q) (o r : Int32) : m_X7_needRight c o r = if m_X8_hasRight q o r = 0 then 3 else 0 := by
  unfold m_X7_needRight m_X8_hasRight
  rw [h.1.1.2.2.2.2]
  by_cases g : (q.1 1 (Int32.toNatClampNeg o) &&& r) = 0
  · rw [if_pos g, if_pos g, if_pos rfl]
  · rw [if_neg g, if_neg g, if_neg (by decide)]
theorem hr1 {q : qM} (hL : lI q) (h : ¬ m_X8_hasRoom q 1 = 0) : (q.1 31 0).toInt ≤ 399 := by
  have := hr_t h
  have k1 : (1 : Int32).toInt = 1 := rfl
  have := hL.2.2.2.2.2
  omega
