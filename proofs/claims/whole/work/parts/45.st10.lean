def dS (li day : Int32) (c : qC) (r : Nat) : qC := m_X0_write (cq_i c 16 r 7 1) 11 (nI r) li day (c.2 16 r 2)
def mS (li day : Int32) (q : qM) (r : Nat) : qM := m_X8_write (mq_i q 18 r 1) 11 (nI r) li day
theorem da_lp {g rc : Nat} (hg : g < 2 ^ 64) (li day : Int32) (h64 : rc ≤ 64) : ∀ (fuel r : Nat) (c1 : qC), r ≤ rc → rc - r < fuel → (c1.1 0 0 7).toInt = (rc : Int) → m_X7_destroyAll_lp (lN g) li day fuel (nI r) c1 = ((List.range' r (rc - r)).filter (fun x => g.testBit x)).foldl (dS li day) c1 := by
  intro fuel
  induction fuel with
  | zero => intro r c1 h1 h2; omega
  | succ n ih =>
    intro r c1 h1 h2 h3
    rw [m_X7_destroyAll_lp]
    have e := nI_toInt (n := r) (by omega)
    by_cases g1 : c1.1 0 0 7 ≤ nI r
    · rw [if_pos g1]
      have := cv_le g1
      have : rc - r = 0 := by omega
      rw [this]; rfl
    · rw [if_neg g1]
      have := cv_nle g1
      have r64 : r < 64 := by omega
      have er : rc - r = (rc - (r + 1)) + 1 := by omega
      rw [er, List.range'_succ, ← nI_succ, wb_bit hg r64, nI_clamp (by omega)]
      have b := bt_1 g r
      have L := lg_0 (g / 2 ^ r)
      cases tb : g.testBit r
      · rw [tb] at b
        rw [if_pos (L.mpr b), List.filter_cons_of_neg (by simp [tb])]
        exact ih (r + 1) c1 (by omega) (by omega) h3
      · rw [tb] at b
        rw [if_neg (fun x => by have := L.mp x; rw [b] at this; exact absurd this (by decide)), List.filter_cons_of_pos (by simp [tb]), List.foldl_cons]
        exact ih (r + 1) (dS li day c1 r) (by omega) (by omega) (by unfold dS; rw [wc_e (by decide) (by decide), cq_ne (by decide)]; exact h3)
theorem c1_lp {q : qM} {li day : Int32} (hL : lI q) (h1 : 0 ≤ li.toInt) (h2 : li.toInt ≤ 15) : ∀ (fuel k s : Nat), k ≤ (lst q (Int32.toNatClampNeg li)).length → (lst q (Int32.toNatClampNeg li)).length - k < fuel → m_X8_carry_lp1 q li day fuel (nI s) (nI k) = nI (s + (((lst q (Int32.toNatClampNeg li)).drop k).filter (may q day)).length) := by
  have l64 := hL.2.1 (Int32.toNatClampNeg li)
  have tl := tn_e l64.1
  have ll := lst_len q (Int32.toNatClampNeg li)
  intro fuel
  induction fuel with
  | zero => intro k s a b; omega
  | succ n ih =>
    intro k s a b
    rw [m_X8_carry_lp1]
    have e := nI_toInt (n := k) (by omega)
    by_cases g : q.1 27 (Int32.toNatClampNeg li) ≤ nI k
    · rw [if_pos g]
      have := cv_le g
      rw [List.drop_eq_nil_of_le (by omega)]; rfl
    · rw [if_neg g]
      have g' := cv_nle g
      have hk : k < (lst q (Int32.toNatClampNeg li)).length := by omega
      have at_k : (lst q (Int32.toNatClampNeg li))[k]? = some (Int32.toNatClampNeg (q.1 26 (64 * Int32.toNatClampNeg li + k))) := by rw [lst_at, if_pos (by omega)]
      have get_k : (lst q (Int32.toNatClampNeg li))[k] = Int32.toNatClampNeg (q.1 26 (64 * Int32.toNatClampNeg li + k)) := by
        have := List.getElem?_eq_getElem hk
        rw [at_k] at this
        exact (Option.some.inj this).symm
      have e26 := (hL.2.2.1 (64 * Int32.toNatClampNeg li + k)).1
      rw [List.drop_eq_getElem_cons hk, get_k, ix64 h1 h2 (by omega) (by omega), nI_clamp (by omega), ← nI_succ k]
      have mm := may_0 q day (Int32.toNatClampNeg (q.1 26 (64 * Int32.toNatClampNeg li + k)))
      rw [nI_e e26] at mm
      by_cases m0 : m_X8_mayGo q (q.1 26 (64 * Int32.toNatClampNeg li + k)) day = 0
      · rw [if_pos m0, List.filter_cons_of_neg (by rw [mm.mp m0]; decide)]
        exact ih (k + 1) s (by omega) (by omega)
      · have mt : may q day (Int32.toNatClampNeg (q.1 26 (64 * Int32.toNatClampNeg li + k))) = true := by
          cases hh : may q day (Int32.toNatClampNeg (q.1 26 (64 * Int32.toNatClampNeg li + k)))
          · exact absurd (mm.mpr hh) m0
          · rfl
        rw [if_neg m0, List.filter_cons_of_pos mt, ← nI_succ s, ih (k + 1) (s + 1) (by omega) (by omega), List.length_cons, Nat.add_assoc, Nat.add_comm 1]
theorem c2_lp {q0 : qM} {li day : Int32} (hL : lI q0) (h1 : 0 ≤ li.toInt) (h2 : li.toInt ≤ 15) (hnd : (lst q0 (Int32.toNatClampNeg li)).Nodup) : ∀ (fuel k : Nat) (q1 : qM), k ≤ (lst q0 (Int32.toNatClampNeg li)).length → (lst q0 (Int32.toNatClampNeg li)).length - k < fuel → sg q1 q0 → q1.1 26 = q0.1 26 → q1.1 27 = q0.1 27 → (∀ x, x ∈ (lst q0 (Int32.toNatClampNeg li)).drop k → q1.1 18 x = q0.1 18 x) → m_X8_carry_lp2 li day fuel (nI k) q1 = (((lst q0 (Int32.toNatClampNeg li)).drop k).filter (may q0 day)).foldl (mS li day) q1 := by
  have l64 := hL.2.1 (Int32.toNatClampNeg li)
  have tl := tn_e l64.1
  have ll := lst_len q0 (Int32.toNatClampNeg li)
  intro fuel
  induction fuel with
  | zero => intro k q1 a b; omega
  | succ n ih =>
    intro k q1 a b c3 c4 c5 c6
    rw [m_X8_carry_lp2, c4, c5]
    have e := nI_toInt (n := k) (by omega)
    by_cases g : q0.1 27 (Int32.toNatClampNeg li) ≤ nI k
    · rw [if_pos g]
      have := cv_le g
      rw [List.drop_eq_nil_of_le (by omega)]; rfl
    · rw [if_neg g]
      have g' := cv_nle g
      have hk : k < (lst q0 (Int32.toNatClampNeg li)).length := by omega
      have at_k : (lst q0 (Int32.toNatClampNeg li))[k]? = some (Int32.toNatClampNeg (q0.1 26 (64 * Int32.toNatClampNeg li + k))) := by rw [lst_at, if_pos (by omega)]
      have get_k : (lst q0 (Int32.toNatClampNeg li))[k] = Int32.toNatClampNeg (q0.1 26 (64 * Int32.toNatClampNeg li + k)) := by
        have := List.getElem?_eq_getElem hk
        rw [at_k] at this
        exact (Option.some.inj this).symm
      have e26 := (hL.2.2.1 (64 * Int32.toNatClampNeg li + k)).1
      have dr := List.drop_eq_getElem_cons hk
      rw [get_k] at dr
      rw [dr] at c6 ⊢
      have hnd2 : ((lst q0 (Int32.toNatClampNeg li)).drop k).Nodup := List.Pairwise.drop hnd
      rw [dr, List.nodup_cons] at hnd2
      rw [ix64 h1 h2 (by omega) (by omega), nI_clamp (by omega), ← nI_succ k]
      have mm := may_0 q0 day (Int32.toNatClampNeg (q0.1 26 (64 * Int32.toNatClampNeg li + k)))
      rw [nI_e e26] at mm
      rw [sg_mayGo c3 _ _ (c6 _ (List.mem_cons_self))]
      by_cases m0 : m_X8_mayGo q0 (q0.1 26 (64 * Int32.toNatClampNeg li + k)) day = 0
      · rw [if_pos m0, List.filter_cons_of_neg (by rw [mm.mp m0]; decide)]
        exact ih (k + 1) q1 (by omega) (by omega) c3 c4 c5 (fun x hx => c6 x (List.mem_cons_of_mem _ hx))
      · have mt : may q0 day (Int32.toNatClampNeg (q0.1 26 (64 * Int32.toNatClampNeg li + k))) = true := by
          cases hh : may q0 day (Int32.toNatClampNeg (q0.1 26 (64 * Int32.toNatClampNeg li + k)))
          · exact absurd (mm.mpr hh) m0
          · rfl
        rw [if_neg m0, List.filter_cons_of_pos mt, List.foldl_cons]
        have em1 : mS li day q1 (Int32.toNatClampNeg (q0.1 26 (64 * Int32.toNatClampNeg li + k))) = m_X8_write (mq_i q1 18 (Int32.toNatClampNeg (q0.1 26 (64 * Int32.toNatClampNeg li + k))) 1) 11 (q0.1 26 (64 * Int32.toNatClampNeg li + k)) li day := by
          unfold mS; rw [nI_e e26]
        rw [em1]
        refine ih (k + 1) _ (by omega) (by omega) (sg_tr wr_sg (sg_tr (sg_i rfl) c3)) (by rw [wr_1 (by decide) (by decide), mq_i_ne _ _ (by decide), c4]) (by rw [wr_1 (by decide) (by decide), mq_i_ne _ _ (by decide), c5]) (fun x hx => ?_)
        rw [wr_1 (by decide) (by decide), mq_i_self]
        unfold upd
        rw [if_neg (fun e : x = _ => hnd2.1 (by rw [← e]; exact hx))]
        exact c6 x (List.mem_cons_of_mem _ hx)
/-- the same records, one after the other, on both sides -/
theorem fj {li day : Int32} : ∀ (xs : List Nat) (c : qC) (q : qM), G2 c q → G5 c q → gI q → lI q → cI c → (∀ x, x ∈ xs → (x : Int) < (q.1 12 0).toInt) → (q.1 31 0).toInt + (xs.length : Int) ≤ 400 →
    G2 (xs.foldl (dS li day) c) (xs.foldl (mS li day) q) ∧ G5 (xs.foldl (dS li day) c) (xs.foldl (mS li day) q) ∧ gI (xs.foldl (mS li day) q) ∧ lI (xs.foldl (mS li day) q) ∧ cI (xs.foldl (dS li day) c) ∧ ((xs.foldl (mS li day) q).1 31 0).toInt = (q.1 31 0).toInt + (xs.length : Int) ∧
    (∀ {K : List Nat}, K.contains 7 = false → K.contains 8 = false → K.contains 9 = false → K.contains 16 = false → ek K (xs.foldl (dS li day) c) c) ∧ (∀ {K : List Nat}, K.contains 18 = false → K.contains 31 = false → K.contains 32 = false → K.contains 33 = false → em K (xs.foldl (mS li day) q) q) := by
  intro xs
  induction xs with
  | nil => intro c q a1 a2 a3 a4 a5 a6 a7; exact ⟨a1, a2, a3, a4, a5, by simp, fun _ _ _ _ => ek_rf _, fun _ _ _ _ => em_rf _⟩
  | cons x xs ih =>
    intro c q a1 a2 a3 a4 a5 a6 a7
    rw [List.foldl_cons, List.foldl_cons]
    rw [List.length_cons] at a7
    have hx := a6 x List.mem_cons_self
    have act0 := a4.2.2.2.2.2.1
    have r64 := a3.2.2.2.1
    have s1 := su_o (q.1 12 0) 1
    have k1 : (1 : Int32).toInt = 1 := rfl
    have k0 : (0 : Int32).toInt = 0 := rfl
    have tx := nI_toInt (n := x) (by omega)
    have e12 : (mq_i q 18 x 1).1 12 0 = q.1 12 0 := mq_ne (by decide)
    have e31 : (mq_i q 18 x 1).1 31 0 = q.1 31 0 := mq_ne (by decide)
    have b2 : G2 (dS li day c x) (mS li day q x) := by
      refine G2_w (G2_fr a1 (ek_i rfl (ek_rf _)) (em_i rfl (em_rf _))) (by rw [e31]; omega) (fun _ => ?_)
      unfold dgw
      rw [e12, is_1 (by omega) (by omega), if_neg z10, nI_clamp (by omega)]
      exact (a2.1 x).2.2.1
    have b5 : G5 (dS li day c x) (mS li day q x) := by
      refine G5_fr (c' := cq_i c 16 x 7 1) (q' := mq_i q 18 x 1) ?_ (ek_w rfl rfl rfl (ek_rf _)) (em_w rfl rfl rfl (em_rf _))
      obtain ⟨g1, g2, g3⟩ := a2
      refine ⟨fun r => ?_, fun r hr => ?_, ?_⟩
      · have u : ∀ f, f ≠ 18 → (mq_i q 18 x 1).1 f = q.1 f := fun f hf => mq_i_ne _ _ hf
        rw [u 13 (by decide), u 15 (by decide), u 17 (by decide), u 14 (by decide)]
        have g := g1 r
        by_cases e : r = x
        · subst e
          rw [cq_same, mq_same, cq_ni (show 0 ≠ 7 by decide), cq_ni (show 1 ≠ 7 by decide), cq_ni (show 3 ≠ 7 by decide), cq_ni (show 4 ≠ 7 by decide), cq_ni (show 5 ≠ 7 by decide), cq_ni (show 6 ≠ 7 by decide)]
          exact ⟨g.1, g.2.1, g.2.2.1, g.2.2.2.1, g.2.2.2.2.1, g.2.2.2.2.2.1, g.2.2.2.2.2.2.1, rfl⟩
        · rw [cq_nj (fun z => e z.2), mq_i_self]
          have : upd (q.1 18) x 1 r = q.1 18 r := by unfold upd; rw [if_neg e]
          rw [this]
          exact g
      · rw [e12] at hr
        rw [mq_i_self]
        unfold upd
        rw [if_neg (by omega)]
        exact g2 r hr
      · rw [mq_i_ne _ _ (by decide)]; exact g3
    have b31 : ((mS li day q x).1 31 0).toInt = (q.1 31 0).toInt + 1 := by
      unfold mS
      rw [wr_31, e31]
      have := ad_o (q.1 31 0) 1
      omega
    have b12 : (mS li day q x).1 12 0 = q.1 12 0 := by unfold mS; rw [wr_1 (by decide) (by decide), e12]
    have bl : lI (mS li day q x) := lI_w (lI_i rfl a4) (by rw [e31]; omega)
    have bc : cI (dS li day c x) := wc_I (cI_i rfl a5) (by rw [cq_ne (by decide), a1.1]; omega)
    obtain ⟨j1, j2, j3, j4, j5, j6, j7, j8⟩ := ih (dS li day c x) (mS li day q x) b2 b5 (wr_gI (gI_i rfl a3)) bl bc (fun y hy => by rw [b12]; exact a6 y (List.mem_cons_of_mem _ hy)) (by rw [b31]; omega)
    refine ⟨j1, j2, j3, j4, j5, by rw [j6, b31, List.length_cons]; omega, fun {K} x7 x8 x9 x16 => ek_tr (j7 x7 x8 x9 x16) (ek_w x7 x8 x9 (ek_i x16 (ek_rf _))), fun {K} x18 x31 x32 x33 => em_tr (j8 x18 x31 x32 x33) (em_w x31 x32 x33 (em_i x18 (em_rf _)))⟩
theorem st_carry {c : qC} {q : qM} (h : RI c q) (li o day : Int32) : (m_X8_carry q li o day).2.1 0 0 = (m_X7_carry c li o day).1 ∧ ((m_X7_carry c li o day).1 = 0 → (m_X7_carry c li o day).2.1 = (m_X8_carry q li o day).1) ∧ RI (m_X7_carry c li o day).2.2 (m_X8_carry q li o day).2 := by
  unfold m_X7_carry m_X8_carry
  rw [kLi h, kOf2, kDo h, kRi h]
  by_cases h1 : m_X8_noList q li = 0
  case neg => rw [if_neg h1, if_neg h1, if_neg z10]; exact ⟨rfl, fun x => absurd x z10, RI_t h⟩
  rw [if_pos h1, if_pos h1, if_pos rfl]
  by_cases h2 : m_X8_noOfficer o = 0
  case neg => rw [if_neg h2, if_neg h2, if_neg z10]; exact ⟨rfl, fun x => absurd x z10, RI_t h⟩
  rw [if_pos h2, if_pos h2, if_pos rfl]
  by_cases h3 : m_X8_isDay q day = 0
  · rw [if_pos h3, if_pos h3, if_neg z20]; exact ⟨rfl, fun x => absurd x z20, RI_t h⟩
  rw [if_neg h3, if_neg h3, if_pos rfl]
  obtain ⟨l16, l0, l15, ll⟩ := li_n h h1
  obtain ⟨n, hn, hm, hL⟩ := h.1.2.2.2.2.2.2.2.2.2 _ l16
  obtain ⟨nr, rc, hrc, r64, hnr, hri, htb, hbt⟩ := ri_e h day
  have g7 := h.1.2.2.2.2.2.2.1 (Int32.toNatClampNeg li)
  have a3 := ap_3 g7.2.2
  have lI0 := h.2.2.1
  have l64 := lI0.2.1 (Int32.toNatClampNeg li)
  have tl := tn_e l64.1
  have llen := lst_len q (Int32.toNatClampNeg li)
  rw [kOp h ll]
  by_cases h4 : q.1 30 (Int32.toNatClampNeg li) = 0
  case neg => rw [if_neg h4, if_neg h4, if_neg z30]; exact ⟨rfl, fun x => absurd x z30, RI_t h⟩
  rw [if_pos h4, if_pos h4, if_pos rfl]
  have hap : m_X2_approvals c (Int32.toNatClampNeg li) = m_X8_bits (q.1 29 (Int32.toNatClampNeg li)) := by unfold m_X2_approvals; rw [g7.2.1, a3]
  rw [hap]
  -- entries
  have ent : ∀ x, x ∈ lst q (Int32.toNatClampNeg li) → x < rc := by
    intro x hx
    obtain ⟨k, hk⟩ := List.mem_iff_getElem?.mp hx
    rw [lst_at] at hk
    by_cases g : k < Int32.toNatClampNeg (q.1 27 (Int32.toNatClampNeg li))
    · rw [if_pos g] at hk
      have tk := nI_toInt (n := k) (by omega)
      have a4 := lI0.2.2.2.1 li (nI k) l0 l15 (by omega) (by omega)
      rw [ix64 l0 l15 (by omega) (by omega), nI_clamp (by omega)] at a4
      have e26 := tn_e (lI0.2.2.1 (64 * Int32.toNatClampNeg li + k)).1
      have := Option.some.inj hk
      omega
    · rw [if_neg g] at hk; cases hk
  have hand : n &&& nr < 2 ^ 64 := Nat.and_lt_two_pow _ hnr
  have going : bts (n &&& nr) = (lst q (Int32.toNatClampNeg li)).filter (may q day) := by
    rw [hL]
    have : bts (n &&& nr) = (bts n).filter (fun x => nr.testBit x) := by
      unfold bts
      rw [List.filter_filter]
      exact List.filter_congr (fun i _ => by rw [Nat.testBit_and, Bool.and_comm])
    rw [this]
    refine List.filter_congr (fun i hi => ?_)
    rw [← hL] at hi
    rw [htb]
    have := ent i hi
    simp [this]
  have gg : c.2 17 (Int32.toNatClampNeg li) 1 &&& m_X7_ripeOn c day = lN (n &&& nr) := by rw [hm, hri, wb_and hn hnr]
  rw [gg]
  have cnt := bc_b hand
  rw [cnt.1]
  have cr := c1_lp (day := day) lI0 l0 l15 66 0 0 (by omega) (by omega)
  rw [nI_0, List.drop_zero, Nat.zero_add, ← going] at cr
  rw [cr]
  have k1 : (1 : Int32).toInt = 1 := rfl
  have tc := nI_toInt (n := (bts (n &&& nr)).length) (by have := cnt.2; omega)
  have ac := ad_o (nI (bts (n &&& nr)).length) 1
  have c64 := cnt.2
  rw [kRo h (nI (bts (n &&& nr)).length + 1) (by omega) (by omega)]
  by_cases h5 : m_X8_hasRight q o 4 = 0
  · rw [if_pos h5, if_pos h5, if_neg z30]
    split <;> exact ⟨rfl, fun x => absurd x z30, RI_t h⟩
  rw [if_neg h5, if_neg h5, if_pos rfl]
  have k2 : (2 : Int32).toInt = 2 := rfl
  by_cases h6 : m_X8_bits (q.1 29 (Int32.toNatClampNeg li)) < 2
  · rw [if_pos h6, if_neg (fun x => by have := cv_le x; have := cv_lt h6; omega)]; exact ⟨rfl, fun x => absurd x z30, RI_t h⟩
  rw [if_neg h6, if_pos (Int32.le_iff_toInt_le.mpr (cv_nlt h6))]
  by_cases h7 : m_X8_hasRoom q (nI (bts (n &&& nr)).length + 1) = 0
  · rw [if_pos h7, if_pos h7, if_neg z30]; exact ⟨rfl, fun x => absurd x z30, RI_t h⟩
  rw [if_neg h7, if_neg h7, if_pos rfl]
  have hroom := hr_t h7
  have act0 := lI0.2.2.2.2.2
  have hd := dy_t h3
  -- office's side
  have dA : m_X7_destroyAll c (lN (n &&& nr)) li day = (bts (n &&& nr)).foldl (dS li day) c := by
    unfold m_X7_destroyAll
    have := da_lp hand li day r64 66 0 c (by omega) (by omega) (by rw [h.1.1.1]; exact hrc)
    rw [nI_0, Nat.sub_zero, ← List.range_eq_range'] at this
    rw [this]
    congr 1
    unfold bts
    rw [← rg_cut (fun x => (n &&& nr).testBit x) rc 64 r64]
    refine List.filter_congr (fun i _ => ?_)
    rw [Nat.testBit_and, htb]
    by_cases c1 : i < rc
    · simp [c1]
    · simp [c1]
  -- reference's side
  have sgq : sg (mq_i (mq_i (mq_i q 0 0 0) 30 (Int32.toNatClampNeg li) 1) 3 0 day) q := sg_tr (sg_i rfl) (sg_tr (sg_i rfl) (sg_i rfl))
  have rS : m_X8_carry_lp2 li day 66 0 (mq_i (mq_i (mq_i q 0 0 0) 30 (Int32.toNatClampNeg li) 1) 3 0 day) = (bts (n &&& nr)).foldl (mS li day) (mq_i (mq_i (mq_i q 0 0 0) 30 (Int32.toNatClampNeg li) 1) 3 0 day) := by
    have := c2_lp (q0 := q) (li := li) (day := day) lI0 l0 l15 (by rw [hL]; exact bt_nd n) 66 0 (mq_i (mq_i (mq_i q 0 0 0) 30 (Int32.toNatClampNeg li) 1) 3 0 day) (by omega) (by omega) sgq (by rw [mq_i_ne _ _ (by decide), mq_i_ne _ _ (by decide), mq_i_ne _ _ (by decide)]) (by rw [mq_i_ne _ _ (by decide), mq_i_ne _ _ (by decide), mq_i_ne _ _ (by decide)]) (fun x _ => by rw [mq_ne (by decide), mq_ne (by decide), mq_ne (by decide)])
    rw [nI_0, List.drop_zero, ← going] at this
    exact this
  rw [dA, rS]
  generalize hxs : bts (n &&& nr) = xs at *
  have ent2 : ∀ x, x ∈ xs → x < rc := fun x hx => by
    rw [going, List.mem_filter] at hx
    exact ent x hx.1
  obtain ⟨⟨g1, g2, g3, g4, g5, g6, g7'⟩, hg, hl, hc⟩ := h
  obtain ⟨j1, j2, j3, j4, j5, j6, j7, j8⟩ := fj (li := li) (day := day) xs c (mq_i (mq_i (mq_i q 0 0 0) 30 (Int32.toNatClampNeg li) 1) 3 0 day) (G2_fr g2 (ek_rf _) (em_i rfl (em_i rfl (em_i rfl (em_rf _))))) (G5_fr g5 (ek_rf _) (em_i rfl (em_i rfl (em_i rfl (em_rf _))))) (gI_i rfl (gI_i rfl (gI_i rfl hg))) (lI_i rfl (lI_i rfl (lI_i rfl hl))) hc (fun x hx => by rw [mq_ne (by decide), mq_ne (by decide), mq_ne (by decide), hrc]; have := ent2 x hx; omega) (by rw [mq_ne (by decide), mq_ne (by decide), mq_ne (by decide)]; omega)
  have e31 : (mq_i (mq_i (mq_i q 0 0 0) 30 (Int32.toNatClampNeg li) 1) 3 0 day).1 31 0 = q.1 31 0 := by rw [mq_ne (by decide), mq_ne (by decide), mq_ne (by decide)]
  rw [e31] at j6
  generalize hC : xs.foldl (dS li day) c = C at *
  generalize hQ : xs.foldl (mS li day) (mq_i (mq_i (mq_i q 0 0 0) 30 (Int32.toNatClampNeg li) 1) 3 0 day) = Q at *
  have kc := j7 (K := [0, 1, 3, 5, 6, 10, 11, 12, 13, 14, 15, 17]) rfl rfl rfl rfl
  have kq := j8 (K := [0, 1, 2, 3, 4, 5, 6, 7, 8, 9, 10, 11, 12, 19, 20, 21, 22, 23, 24, 25, 26, 27, 28, 29, 30]) rfl rfl rfl rfl
  have Q27 : Q.1 27 (Int32.toNatClampNeg li) = q.1 27 (Int32.toNatClampNeg li) := by
    rw [(kq 27 (by decide)).1, mq_ne (by decide), mq_ne (by decide), mq_ne (by decide)]
  have sz : m_X2_size (cq_i (cq_i C 17 (Int32.toNatClampNeg li) 3 0) 0 0 9 day) (Int32.toNatClampNeg li) = q.1 27 (Int32.toNatClampNeg li) := by
    unfold m_X2_size
    rw [cl_nei, cl_nei, (kc 17 (by decide)).2, hm, (bc_b hn).1, ← hL, llen, nI_e l64.1]
  rw [sz, Q27]
  refine ⟨?_, fun _ => rfl, ?_⟩
  · dsimp only
    rw [wr_1 (by decide) (by decide), (kq 0 (by decide)).1, mq_ne (by decide), mq_ne (by decide), mq_same]
  · dsimp only
    refine RI_w ?_ (by rw [j6]; omega) (fun hk => by rcases hk with hk | hk <;> exact absurd hk (by decide))
    have hcc : ∀ {K : List Nat}, K.contains 17 = false → K.contains 0 = false → ek K (cq_i (cq_i C 17 (Int32.toNatClampNeg li) 3 0) 0 0 9 day) C := fun a b => ek_i b (ek_i a (ek_rf _))
    have hmm : ∀ {K : List Nat}, K.contains 0 = false → K.contains 30 = false → K.contains 3 = false → em K (mq_i (mq_i (mq_i q 0 0 0) 30 (Int32.toNatClampNeg li) 1) 3 0 day) q := fun a b d => em_i d (em_i b (em_i a (em_rf _)))
    refine ⟨⟨?_, G2_fr j1 (hcc rfl rfl) (em_rf _), G3_fr g3 (ek_tr (hcc rfl rfl) (j7 rfl rfl rfl rfl)) (em_tr (j8 rfl rfl rfl rfl) (hmm rfl rfl rfl)), G4_fr g4 (ek_tr (hcc rfl rfl) (j7 rfl rfl rfl rfl)) (em_tr (j8 rfl rfl rfl rfl) (hmm rfl rfl rfl)), G5_fr j2 (hcc rfl rfl) (em_rf _), G6_fr g6 (ek_tr (hcc rfl rfl) (j7 rfl rfl rfl rfl)) (em_tr (j8 rfl rfl rfl rfl) (hmm rfl rfl rfl)), ?_⟩, j3, j4, cI_i rfl (cI_i rfl j5)⟩
    · obtain ⟨b1, b2, b3, b4, b5⟩ := g1
      refine ⟨?_, ?_, ?_, ?_, ?_⟩
      · rw [cq_ni (by decide), cq_ne (by decide), (kc 0 (by decide)).1, (kq 12 (by decide)).1, mq_ne (by decide), mq_ne (by decide), mq_ne (by decide)]; exact b1
      · rw [cq_ni (by decide), cq_ne (by decide), (kc 0 (by decide)).1, (kq 25 (by decide)).1, mq_ne (by decide), mq_ne (by decide), mq_ne (by decide)]; exact b2
      · rw [cq_same, (kq 3 (by decide)).1, mq_same]
      · rw [cq_ni (by decide), cq_ne (by decide), (kc 0 (by decide)).1, (kq 2 (by decide)).1, mq_ne (by decide), mq_ne (by decide), mq_ne (by decide)]; exact b4
      · rw [cq_nk (by decide), cq_nk (by decide), (kc 1 (by decide)).1, (kq 1 (by decide)).1, mq_i_ne _ _ (by decide), mq_i_ne _ _ (by decide), mq_i_ne _ _ (by decide)]; exact b5
    · refine G7_fr (c' := cq_i c 17 (Int32.toNatClampNeg li) 3 0) (q' := mq_i q 30 (Int32.toNatClampNeg li) 1) ?_ ?_ ?_
      · obtain ⟨b1, b2, b3, b4⟩ := g7'
        have e30 : ∀ l, (mq_i q 30 (Int32.toNatClampNeg li) 1).1 30 l = if l = Int32.toNatClampNeg li then 1 else q.1 30 l := fun l => by rw [mq_i_self]; rfl
        have u : ∀ f, f ≠ 30 → (mq_i q 30 (Int32.toNatClampNeg li) 1).1 f = q.1 f := fun f hf => mq_i_ne _ _ hf
        refine ⟨fun l => ?_, fun l hl => ?_, fun l hl => ?_, fun l hl => ?_⟩
        · rw [u 28 (by decide), u 29 (by decide), cq_ni (by decide), cq_ni (by decide)]; exact b1 l
        · rw [u 25 (by decide)] at hl
          rw [u 29 (by decide), e30, if_neg (by omega)]; exact b2 l hl
        · rw [u 25 (by decide)] at hl
          rw [e30]
          by_cases e : l = Int32.toNatClampNeg li
          · rw [if_pos e, e, cq_same]
            exact ⟨fun _ => z10, fun _ => rfl⟩
          · rw [if_neg e, cq_nj (fun x => e x.2)]; exact b3 l hl
        · obtain ⟨m, m1, m2, m3⟩ := b4 l hl
          exact ⟨m, m1, m2, m3⟩
      · intro k hk
        have : k = 17 := by simpa using hk
        subst this
        refine ⟨?_, ?_⟩
        · rw [cq_nk (show 17 ≠ 0 by decide)]
          refine funext fun b => ?_
          by_cases e : b = Int32.toNatClampNeg li
          · subst e; rw [cq_cell, cq_cell, (kc 17 (by decide)).1]
          · rw [cq_nj (fun x => e x.2), cq_nj (fun x => e x.2), (kc 17 (by decide)).1]
        · exact (kc 17 (by decide)).2
      · refine em_tr (j8 rfl rfl rfl rfl) (em_i rfl ?_)
        intro f hf
        by_cases e : f = 30
        · subst e
          rw [mq_i_self, mq_i_self]
          exact ⟨rfl, rfl⟩
        · have f0 : f ≠ 0 := fun z => by subst z; exact absurd hf (by decide)
          exact ⟨by rw [mq_i_ne _ _ e, mq_i_ne _ _ e, mq_i_ne _ _ f0], rfl⟩
