theorem G5_f {c : qC} {q : qM} (h : G5 c q) {N : Nat} {f size ka kb kc day rc1 : Int32} {dg : Int64} (hrc : (q.1 12 0).toInt = (N : Int)) (h1 : rc1.toInt = (N : Int) + 1) (ha : -1 ≤ ka.toInt ∧ ka.toInt ≤ 99) (hb : -1 ≤ kb.toInt ∧ kb.toInt ≤ 99) (hc : -1 ≤ kc.toInt ∧ kc.toInt ≤ 99) :
    G5 (cq_i (cq_i (cq_i (cq_i (cq_i (cq_i (cq_l (cq_i (cq_i c 16 N 0 f) 16 N 1 size) 16 N 2 dg) 16 N 3 ka) 16 N 4 kb) 16 N 5 kc) 16 N 6 day) 16 N 7 0) 5 0 N 1)
      (mq_i (mq_i (mq_i (mq_i (mq_l (mq_i (mq_i (mq_i q 13 N f) 14 N day) 15 N size) 16 N dg) 17 (3 * N) ka) 17 (3 * N + 1) kb) 17 (3 * N + 2) kc) 12 0 rc1) := by
  obtain ⟨g1, g2, g3⟩ := h
  have e13 : ∀ j, (mq_i (mq_i (mq_i (mq_i (mq_l (mq_i (mq_i (mq_i q 13 N f) 14 N day) 15 N size) 16 N dg) 17 (3 * N) ka) 17 (3 * N + 1) kb) 17 (3 * N + 2) kc) 12 0 rc1).1 13 j = if j = N then f else q.1 13 j := fun j => by
    rw [mq_ne (by decide), mq_ne (by decide), mq_ne (by decide), mq_ne (by decide), mq_nel, mq_ne (by decide), mq_ne (by decide), mq_i_self]; rfl
  have e14 : ∀ j, (mq_i (mq_i (mq_i (mq_i (mq_l (mq_i (mq_i (mq_i q 13 N f) 14 N day) 15 N size) 16 N dg) 17 (3 * N) ka) 17 (3 * N + 1) kb) 17 (3 * N + 2) kc) 12 0 rc1).1 14 j = if j = N then day else q.1 14 j := fun j => by
    rw [mq_ne (by decide), mq_ne (by decide), mq_ne (by decide), mq_ne (by decide), mq_nel, mq_ne (by decide), mq_i_self]; unfold upd; rw [mq_ne (by decide)]
  have e15 : ∀ j, (mq_i (mq_i (mq_i (mq_i (mq_l (mq_i (mq_i (mq_i q 13 N f) 14 N day) 15 N size) 16 N dg) 17 (3 * N) ka) 17 (3 * N + 1) kb) 17 (3 * N + 2) kc) 12 0 rc1).1 15 j = if j = N then size else q.1 15 j := fun j => by
    rw [mq_ne (by decide), mq_ne (by decide), mq_ne (by decide), mq_ne (by decide), mq_nel, mq_i_self]; unfold upd; rw [mq_ne (by decide), mq_ne (by decide)]
  have e16 : ∀ j, (mq_i (mq_i (mq_i (mq_i (mq_l (mq_i (mq_i (mq_i q 13 N f) 14 N day) 15 N size) 16 N dg) 17 (3 * N) ka) 17 (3 * N + 1) kb) 17 (3 * N + 2) kc) 12 0 rc1).2 16 j = if j = N then dg else q.2 16 j := fun j => by
    rw [mq_i_2, mq_i_2, mq_i_2, mq_i_2, mq_l_self]; rfl
  have e17 : ∀ j, (mq_i (mq_i (mq_i (mq_i (mq_l (mq_i (mq_i (mq_i q 13 N f) 14 N day) 15 N size) 16 N dg) 17 (3 * N) ka) 17 (3 * N + 1) kb) 17 (3 * N + 2) kc) 12 0 rc1).1 17 j = if j = 3 * N + 2 then kc else if j = 3 * N + 1 then kb else if j = 3 * N then ka else q.1 17 j := fun j => by
    rw [mq_ne (by decide), mq_i_self, mq_i_self, mq_i_self]; unfold upd; rw [mq_nel, mq_ne (by decide), mq_ne (by decide), mq_ne (by decide)]
  have e18 : ∀ j, (mq_i (mq_i (mq_i (mq_i (mq_l (mq_i (mq_i (mq_i q 13 N f) 14 N day) 15 N size) 16 N dg) 17 (3 * N) ka) 17 (3 * N + 1) kb) 17 (3 * N + 2) kc) 12 0 rc1).1 18 j = q.1 18 j := fun j => by
    rw [mq_ne (by decide), mq_ne (by decide), mq_ne (by decide), mq_ne (by decide), mq_nel, mq_ne (by decide), mq_ne (by decide), mq_ne (by decide)]
  refine ⟨fun r => ?_, fun r hr => ?_, fun i => ?_⟩
  · rw [e13, e14, e15, e16, e17, e17, e17, e18]
    by_cases e : r = N
    · rw [e, if_pos rfl, if_pos rfl, if_pos rfl, if_pos rfl, if_neg (by omega), if_neg (by omega), if_pos rfl, if_neg (by omega), if_pos rfl, if_pos rfl, g2 N (by omega)]
      refine ⟨?_, ?_, ?_, ?_, ?_, ?_, ?_, ?_⟩
      · rw [cq_ne (by decide), cq_ni (by decide), cq_ni (by decide), cq_ni (by decide), cq_ni (by decide), cq_ni (by decide), cq_nel, cq_ni (by decide), cq_same]
      · rw [cq_ne (by decide), cq_ni (by decide), cq_ni (by decide), cq_ni (by decide), cq_ni (by decide), cq_ni (by decide), cq_nel, cq_same]
      · rw [cl_nei, cl_nei, cl_nei, cl_nei, cl_nei, cl_nei, cq_same_l]
      · rw [cq_ne (by decide), cq_ni (by decide), cq_ni (by decide), cq_ni (by decide), cq_ni (by decide), cq_same]
      · rw [cq_ne (by decide), cq_ni (by decide), cq_ni (by decide), cq_ni (by decide), cq_same]
      · rw [cq_ne (by decide), cq_ni (by decide), cq_ni (by decide), cq_same]
      · rw [cq_ne (by decide), cq_ni (by decide), cq_same]
      · rw [cq_ne (by decide), cq_same]
    · have en : ¬ (16 = 16 ∧ r = N) := fun x => e x.2
      rw [if_neg e, if_neg e, if_neg e, if_neg e, if_neg (by omega), if_neg (by omega), if_neg (by omega), if_neg (by omega), if_neg (by omega), if_neg (by omega), if_neg (by omega), if_neg (by omega), if_neg (by omega)]
      have u : (cq_i (cq_i (cq_i (cq_i (cq_i (cq_i (cq_l (cq_i (cq_i c 16 N 0 f) 16 N 1 size) 16 N 2 dg) 16 N 3 ka) 16 N 4 kb) 16 N 5 kc) 16 N 6 day) 16 N 7 0) 5 0 N 1).1 16 r = c.1 16 r := by
        rw [cq_nk (by decide), cq_nj en, cq_nj en, cq_nj en, cq_nj en, cq_nj en]
        show (cq_i (cq_i c 16 N 0 f) 16 N 1 size).1 16 r = c.1 16 r
        rw [cq_nj en, cq_nj en]
      have u2 : (cq_i (cq_i (cq_i (cq_i (cq_i (cq_i (cq_l (cq_i (cq_i c 16 N 0 f) 16 N 1 size) 16 N 2 dg) 16 N 3 ka) 16 N 4 kb) 16 N 5 kc) 16 N 6 day) 16 N 7 0) 5 0 N 1).2 16 r = c.2 16 r := by
        show (cq_l (cq_i (cq_i c 16 N 0 f) 16 N 1 size) 16 N 2 dg).2 16 r = c.2 16 r
        rw [cl_nj en]; rfl
      rw [u, u2]
      exact g1 r
  · rw [e18]
    rw [mq_same, h1] at hr
    exact g2 r (by omega)
  · rw [e17]
    repeat' split
    · exact hc
    · exact hb
    · exact ha
    · exact g3 i
theorem st_file {c : qC} {q : qM} (h : RI c q) (f size : Int32) (dg : Int64) (ka kb kc day : Int32) : (m_X8_file q f size dg ka kb kc day).2.1 0 0 = (m_X7_file c f size dg ka kb kc day).1 ∧ ((m_X7_file c f size dg ka kb kc day).1 = 0 → (m_X7_file c f size dg ka kb kc day).2.1 = (m_X8_file q f size dg ka kb kc day).1) ∧ RI (m_X7_file c f size dg ka kb kc day).2.2 (m_X8_file q f size dg ka kb kc day).2 := by
  unfold m_X7_file m_X8_file
  rw [kFo h, kKe, kKe, kKe, kDo h, kRo1 h, cx_le]
  by_cases h0 : m_X8_noFolder q f = 0
  case neg =>
    simp only [if_neg h0, if_neg z10]
    by_cases b1 : m_X8_isIn ka (-1) 99 = 0
    · rw [if_pos b1]; exact ⟨rfl, fun x => absurd x z10, RI_t h⟩
    rw [if_neg b1]
    by_cases b2 : m_X8_isIn kb (-1) 99 = 0
    · rw [if_pos b2]; exact ⟨rfl, fun x => absurd x z10, RI_t h⟩
    rw [if_neg b2]
    by_cases b3 : m_X8_isIn kc (-1) 99 = 0
    · rw [if_pos b3]; exact ⟨rfl, fun x => absurd x z10, RI_t h⟩
    rw [if_neg b3]
    by_cases b4 : m_X8_isIn size 1 65536 = 0
    · rw [if_pos b4]; exact ⟨rfl, fun x => absurd x z10, RI_t h⟩
    rw [if_neg b4]
    by_cases b5 : m_X8_isDay q day = 0
    · rw [if_pos b5]; exact ⟨rfl, fun x => absurd x z10, RI_t h⟩
    rw [if_neg b5]; exact ⟨rfl, fun x => absurd x z10, RI_t h⟩
  simp only [if_pos h0, if_true]
  by_cases b1 : m_X8_isIn ka (-1) 99 = 0
  · rw [if_pos b1, if_pos b1, if_neg z20]; exact ⟨rfl, fun x => absurd x z20, RI_t h⟩
  rw [if_neg b1, if_neg b1, if_pos rfl]
  by_cases b2 : m_X8_isIn kb (-1) 99 = 0
  · rw [if_pos b2, if_pos b2, if_neg z20]; exact ⟨rfl, fun x => absurd x z20, RI_t h⟩
  rw [if_neg b2, if_neg b2, if_pos rfl]
  by_cases b3 : m_X8_isIn kc (-1) 99 = 0
  · rw [if_pos b3, if_pos b3, if_neg z20]; exact ⟨rfl, fun x => absurd x z20, RI_t h⟩
  rw [if_neg b3, if_neg b3, if_pos rfl]
  by_cases b5 : m_X8_isDay q day = 0
  · rw [if_pos b5, if_pos b5, if_neg z20]
    by_cases b4 : m_X8_isIn size 1 65536 = 0
    · rw [if_pos b4]; exact ⟨rfl, fun x => absurd x z20, RI_t h⟩
    · rw [if_neg b4]; exact ⟨rfl, fun x => absurd x z20, RI_t h⟩
  rw [if_neg b5, if_neg b5, if_pos rfl]
  by_cases b4 : m_X8_isIn size 1 65536 = 0
  · rw [if_pos b4, if_pos b4]; exact ⟨rfl, fun x => absurd x z20, RI_t h⟩
  rw [if_neg b4, if_neg b4]
  obtain ⟨f16, f9, f9'⟩ := nf_2 h.2.1 h0
  have h4 := h.1.2.2.2.1 _ f16
  have hth : ¬ c.1 3 0 (Int32.toNatClampNeg f) = 0 := fun x => f9 (h4.1.mp x)
  have h64 := h.2.1.2.2.2.1
  have k64 : (64 : Int32).toInt = 64 := rfl
  have k1 : (1 : Int32).toInt = 1 := rfl
  have k0 : (0 : Int32).toInt = 0 := rfl
  rw [(h4.2.2 hth).2.2.1, h.1.1.1]
  by_cases b6 : m_X8_hasRoom q 1 = 0
  · rw [if_pos b6, if_pos b6, if_neg z30]
    by_cases b7 : q.1 10 (Int32.toNatClampNeg f) = -1
    · rw [if_pos b7]
      by_cases b8 : q.1 12 0 = 64
      · rw [if_pos b8]; exact ⟨rfl, fun x => absurd x z30, RI_t h⟩
      · rw [if_neg b8]; exact ⟨rfl, fun x => absurd x z30, RI_t h⟩
    · rw [if_neg b7]; exact ⟨rfl, fun x => absurd x z30, RI_t h⟩
  rw [if_neg b6, if_neg b6, if_pos rfl]
  by_cases b7 : q.1 10 (Int32.toNatClampNeg f) = -1
  case neg => rw [if_neg b7, if_neg b7]; exact ⟨rfl, fun x => absurd x z30, RI_t h⟩
  rw [if_pos b7, if_pos b7]
  by_cases b8 : q.1 12 0 = 64
  · rw [if_pos b8, if_neg (fun n => by have := cv_lt n; rw [b8] at this; exact absurd this (by decide))]
    exact ⟨rfl, fun x => absurd x z30, RI_t h⟩
  have b8' := cv_ne b8
  rw [if_neg b8, if_pos (Int32.lt_iff_toInt_lt.mpr (by omega))]
  have hr := hr1 h.2.2.1 b6
  have hd := dy_t b5
  have hf := nf_t h0
  have i1 := is_t b1
  have i2 := is_t b2
  have i3 := is_t b3
  have k99 : (99 : Int32).toInt = 99 := rfl
  have km := kk_m1
  have tn := tn_e h64.1
  have a1 := ad_o (q.1 12 0) 1
  have s1 := su_o (q.1 12 0 + 1) 1
  obtain ⟨j0, j1, j2⟩ := ix3 (R := q.1 12 0) h64.1 (by omega)
  rw [j0, j1, j2]
  refine ⟨?_, fun _ => rfl, ?_⟩
  · dsimp only
    rw [wr_1 (by decide) (by decide), mq_ne (by decide), mq_ne (by decide), mq_ne (by decide), mq_ne (by decide), mq_ne (by decide), mq_nel, mq_ne (by decide), mq_ne (by decide), mq_ne (by decide), mq_same]
  · dsimp only
    generalize hN : Int32.toNatClampNeg (q.1 12 0) = N at *
    refine RI_w ?_ (by rw [mq_ne (by decide), mq_ne (by decide), mq_ne (by decide), mq_ne (by decide), mq_ne (by decide), mq_nel, mq_ne (by decide), mq_ne (by decide), mq_ne (by decide), mq_ne (by decide)]; exact hr) (fun _ => ?_)
    · obtain ⟨⟨g1, g2, g3, g4, g5, g6, g7⟩, hg, hl, hc⟩ := h
      have hcc : ∀ {K : List Nat}, K.contains 16 = false → K.contains 5 = false → K.contains 0 = false → ek K (cq_i (cq_i (cq_i (cq_i (cq_i (cq_i (cq_i (cq_i (cq_l (cq_i (cq_i c 16 N 0 f) 16 N 1 size) 16 N 2 dg) 16 N 3 ka) 16 N 4 kb) 16 N 5 kc) 16 N 6 day) 16 N 7 0) 5 0 N 1) 0 0 7 (q.1 12 0 + 1)) 0 0 9 day) c := fun a b d => ek_i d (ek_i d (ek_i b (ek_i a (ek_i a (ek_i a (ek_i a (ek_i a (ek_l a (ek_i a (ek_i a (ek_rf _)))))))))))
      have hm : ∀ {K : List Nat}, K.contains 0 = false → K.contains 13 = false → K.contains 14 = false → K.contains 15 = false → K.contains 16 = false → K.contains 17 = false → K.contains 12 = false → K.contains 3 = false → em K (mq_i (mq_i (mq_i (mq_i (mq_i (mq_l (mq_i (mq_i (mq_i (mq_i q 0 0 0) 13 N f) 14 N day) 15 N size) 16 N dg) 17 (3 * N) ka) 17 (3 * N + 1) kb) 17 (3 * N + 2) kc) 12 0 (q.1 12 0 + 1)) 3 0 day) q := fun a b c d e f g i => em_i i (em_i g (em_i f (em_i f (em_i f (em_l e (em_i d (em_i c (em_i b (em_i a (em_rf _))))))))))
      refine ⟨⟨?_, G2_fr g2 (hcc rfl rfl rfl) (hm rfl rfl rfl rfl rfl rfl rfl rfl), G3_fr g3 (hcc rfl rfl rfl) (hm rfl rfl rfl rfl rfl rfl rfl rfl), G4_fr g4 (hcc rfl rfl rfl) (hm rfl rfl rfl rfl rfl rfl rfl rfl), ?_, G6_fr g6 (hcc rfl rfl rfl) (hm rfl rfl rfl rfl rfl rfl rfl rfl), G7_fr g7 (hcc rfl rfl rfl) (hm rfl rfl rfl rfl rfl rfl rfl rfl)⟩, ?_, ?_, ?_⟩
      · obtain ⟨b1, b2, b3, b4, b5⟩ := g1
        refine ⟨?_, ?_, ?_, ?_, ?_⟩
        · rw [cq_ni (by decide), cq_same, mq_ne (by decide), mq_same]
        · rw [cq_ni (by decide), cq_ni (by decide), cq_ne (by decide), cq_ne (by decide), cq_ne (by decide), cq_ne (by decide), cq_ne (by decide), cq_ne (by decide), cq_nel, cq_ne (by decide), cq_ne (by decide), mq_ne (by decide), mq_ne (by decide), mq_ne (by decide), mq_ne (by decide), mq_ne (by decide), mq_nel, mq_ne (by decide), mq_ne (by decide), mq_ne (by decide), mq_ne (by decide)]; exact b2
        · rw [cq_same, mq_same]
        · rw [cq_ni (by decide), cq_ni (by decide), cq_ne (by decide), cq_ne (by decide), cq_ne (by decide), cq_ne (by decide), cq_ne (by decide), cq_ne (by decide), cq_nel, cq_ne (by decide), cq_ne (by decide), mq_ne (by decide), mq_ne (by decide), mq_ne (by decide), mq_ne (by decide), mq_ne (by decide), mq_nel, mq_ne (by decide), mq_ne (by decide), mq_ne (by decide), mq_ne (by decide)]; exact b4
        · have x1 := (hcc (K := [1])  rfl rfl rfl 1 (by decide)).1
          have x2 := (hm (K := [1]) rfl rfl rfl rfl rfl rfl rfl rfl 1 (by decide)).1
          rw [x1, x2]; exact b5
      · exact G5_fr (G5_f (G5_fr g5 (ek_rf _) (em_i (k := 0) (i := 0) (v := 0) rfl (em_rf _))) (N := N) (f := f) (size := size) (ka := ka) (kb := kb) (kc := kc) (day := day) (rc1 := q.1 12 0 + 1) (dg := dg) (by show (q.1 12 0).toInt = _; omega) (by omega) (by omega) (by omega) (by omega)) (ek_i rfl (ek_i rfl (ek_rf _))) (em_i rfl (em_rf _))
      · have w1 : gI (mq_i (mq_i (mq_i (mq_i (mq_l (mq_i (mq_i (mq_i (mq_i q 0 0 0) 13 N f) 14 N day) 15 N size) 16 N dg) 17 (3 * N) ka) 17 (3 * N + 1) kb) 17 (3 * N + 2) kc) 12 0 (q.1 12 0 + 1)) := by
          have w0 : gI (mq_i (mq_i (mq_i (mq_l (mq_i (mq_i (mq_i (mq_i q 0 0 0) 13 N f) 14 N day) 15 N size) 16 N dg) 17 (3 * N) ka) 17 (3 * N + 1) kb) 17 (3 * N + 2) kc) := gI_i rfl (gI_i rfl (gI_i rfl (gI_l rfl (gI_i rfl (gI_14 (by omega) (gI_13 (by omega) f9' (gI_i rfl hg)))))))
          have e12 : (mq_i (mq_i (mq_i (mq_l (mq_i (mq_i (mq_i (mq_i q 0 0 0) 13 N f) 14 N day) 15 N size) 16 N dg) 17 (3 * N) ka) 17 (3 * N + 1) kb) 17 (3 * N + 2) kc).1 12 0 = q.1 12 0 := by
            rw [mq_ne (by decide), mq_ne (by decide), mq_ne (by decide), mq_nel, mq_ne (by decide), mq_ne (by decide), mq_ne (by decide), mq_ne (by decide)]
          have := gI_12 w0 (by rw [e12]; omega) (by
            rw [e12, hN]
            rw [mq_i_ne _ _ (show 13 ≠ 17 by decide), mq_i_ne _ _ (show 13 ≠ 17 by decide), mq_i_ne _ _ (show 13 ≠ 17 by decide), mq_l_1, mq_i_ne _ _ (show 13 ≠ 15 by decide), mq_i_ne _ _ (show 13 ≠ 14 by decide), mq_same]
            rw [mq_ne (by decide), mq_ne (by decide), mq_ne (by decide), mq_nel, mq_ne (by decide), mq_ne (by decide), mq_ne (by decide), mq_ne (by decide)]
            exact f9')
          rw [e12] at this
          exact this
        exact gI_i rfl w1
      · have w0 : lI (mq_i (mq_i (mq_i (mq_l (mq_i (mq_i (mq_i (mq_i q 0 0 0) 13 N f) 14 N day) 15 N size) 16 N dg) 17 (3 * N) ka) 17 (3 * N + 1) kb) 17 (3 * N + 2) kc) := lI_i rfl (lI_i rfl (lI_i rfl (lI_l rfl (lI_i rfl (lI_i rfl (lI_i rfl (lI_i rfl hl)))))))
        have e12 : (mq_i (mq_i (mq_i (mq_l (mq_i (mq_i (mq_i (mq_i q 0 0 0) 13 N f) 14 N day) 15 N size) 16 N dg) 17 (3 * N) ka) 17 (3 * N + 1) kb) 17 (3 * N + 2) kc).1 12 0 = q.1 12 0 := by
          rw [mq_ne (by decide), mq_ne (by decide), mq_ne (by decide), mq_nel, mq_ne (by decide), mq_ne (by decide), mq_ne (by decide), mq_ne (by decide)]
        have := lI_12 w0 (by rw [e12]; omega)
        rw [e12] at this
        exact lI_i rfl this
      · have w0 : cI (cq_i (cq_i (cq_i (cq_i (cq_i (cq_l (cq_i (cq_i c 16 N 0 f) 16 N 1 size) 16 N 2 dg) 16 N 3 ka) 16 N 4 kb) 16 N 5 kc) 16 N 6 day) 16 N 7 0) := cI_i rfl (cI_166 (by omega) (cI_i rfl (cI_i rfl (cI_i rfl (cI_l rfl (cI_i rfl (cI_160 hth hc)))))))
        have w1 := cI_5 (J := N) (by
          rw [cq_ne (show 3 ≠ 16 by decide), cq_ne (show 3 ≠ 16 by decide), cq_ne (show 3 ≠ 16 by decide), cq_ne (show 3 ≠ 16 by decide), cq_ne (show 3 ≠ 16 by decide), cq_nel, cq_ne (show 3 ≠ 16 by decide), cq_ne (show 3 ≠ 16 by decide)]
          rw [cq_ni (by decide), cq_ni (by decide), cq_ni (by decide), cq_ni (by decide), cq_ni (by decide), cq_nel, cq_ni (by decide), cq_same]
          exact hth) w0
        have e07 : (cq_i (cq_i (cq_i (cq_i (cq_i (cq_i (cq_l (cq_i (cq_i c 16 N 0 f) 16 N 1 size) 16 N 2 dg) 16 N 3 ka) 16 N 4 kb) 16 N 5 kc) 16 N 6 day) 16 N 7 0) 5 0 N 1).1 0 0 7 = q.1 12 0 := by
          rw [cq_ne (by decide), cq_ne (by decide), cq_ne (by decide), cq_ne (by decide), cq_ne (by decide), cq_ne (by decide), cq_nel, cq_ne (by decide), cq_ne (by decide)]
          exact g1.1
        have w2 := cI_07 w1 (by rw [e07]; omega) (by rw [e07, hN, cq_same]; decide)
        rw [e07] at w2
        exact cI_i rfl w2
    · unfold dgw
      have e12 : (mq_i (mq_i (mq_i (mq_i (mq_i (mq_l (mq_i (mq_i (mq_i (mq_i q 0 0 0) 13 N f) 14 N day) 15 N size) 16 N dg) 17 (3 * N) ka) 17 (3 * N + 1) kb) 17 (3 * N + 2) kc) 12 0 (q.1 12 0 + 1)) 3 0 day).1 12 0 = q.1 12 0 + 1 := by rw [mq_ne (by decide), mq_same]
      have e16 : (mq_i (mq_i (mq_i (mq_i (mq_i (mq_l (mq_i (mq_i (mq_i (mq_i q 0 0 0) 13 N f) 14 N day) 15 N size) 16 N dg) 17 (3 * N) ka) 17 (3 * N + 1) kb) 17 (3 * N + 2) kc) 12 0 (q.1 12 0 + 1)) 3 0 day).2 16 N = dg := by
        rw [mq_i_2, mq_i_2, mq_i_2, mq_i_2, mq_i_2, mq_same_l]
      rw [e12, hN, e16, is_1 (by omega) (by omega), if_neg z10]
