theorem er_f : ∀ (l : List Nat) (i a : Nat), l.Nodup → l[i]? = some a → l.eraseIdx i = l.filter (fun x => x != a) := by
  intro l
  induction l with
  | nil => intro i a _ h; simp at h
  | cons b l ih =>
    intro i a hn h
    rw [List.nodup_cons] at hn
    cases i with
    | zero =>
      have e : b = a := by simpa using h
      subst e
      rw [List.eraseIdx_cons_zero, List.filter_cons_of_neg (by simp)]
      symm
      rw [List.filter_eq_self]
      intro x hx
      have : x ≠ b := fun e => hn.1 (e ▸ hx)
      simpa using this
    | succ i =>
      rw [List.getElem?_cons_succ] at h
      have ha : a ∈ l := List.mem_of_getElem? h
      have : b ≠ a := fun e => hn.1 (e ▸ ha)
      rw [List.eraseIdx_cons_succ, List.filter_cons_of_pos (by simpa using this), ih i a hn.2 h]
theorem wb_xor {a b : Nat} (ha : a < 2 ^ 64) (hb : b < 2 ^ 64) : lN a ^^^ lN b = lN (a ^^^ b) := by
  apply wb_inj
  rw [Int64.toBitVec_xor, wb_tb, wb_tb, wb_tb]
  apply BitVec.eq_of_toNat_eq
  rw [BitVec.toNat_xor, BitVec.toNat_ofNat, BitVec.toNat_ofNat, BitVec.toNat_ofNat, Nat.mod_eq_of_lt ha, Nat.mod_eq_of_lt hb, Nat.mod_eq_of_lt (Nat.xor_lt_two_pow ha hb)]
theorem rm_b {n k : Nat} (hn : n < 2 ^ 64) (hk : k < 64) : ∃ n', n' < 2 ^ 64 ∧ (lN n &&& ((1 <<< ((nI k).toInt64 &&& 63)) ^^^ (-1))) = lN n' ∧ bts n' = (bts n).filter (fun x => x != k) := by
  have p : 2 ^ k < 2 ^ 64 := wb_lt2 hk
  have m : (2 ^ 64 - 1 : Nat) < 2 ^ 64 := by decide
  have x : 2 ^ k ^^^ (2 ^ 64 - 1) < 2 ^ 64 := Nat.xor_lt_two_pow p m
  refine ⟨n &&& (2 ^ k ^^^ (2 ^ 64 - 1)), Nat.and_lt_two_pow _ x, ?_, ?_⟩
  · have e1 : (1 : Int64) <<< ((nI k).toInt64 &&& 63) = lN (2 ^ k) := by
      have := wb_shl 1 hk
      rw [Nat.one_mul] at this
      exact this
    have e2 : (-1 : Int64) = lN (2 ^ 64 - 1) := by decide
    rw [e1, e2, wb_xor p m, wb_and hn x]
  · unfold bts
    rw [List.filter_filter]
    refine List.filter_congr (fun i hi => ?_)
    rw [List.mem_range] at hi
    rw [Nat.testBit_and, Nat.testBit_xor, Nat.testBit_two_pow, Nat.testBit_two_pow_sub_one]
    by_cases e : i = k
    · subst e; simp [hi]
    · have e' : ¬ k = i := fun x => e x.symm
      simp [hi, e, e', Bool.and_comm]
theorem sk_lp {li : Int32} (h1 : 0 ≤ li.toInt) (h2 : li.toInt ≤ 15) : ∀ (fuel : Nat) (k : Int32) (q1 : qM), 0 ≤ k.toInt → k.toInt ≤ 64 → (q1.1 27 (Int32.toNatClampNeg li)).toInt ≤ 63 → 64 - k.toInt < (fuel : Int) →
    (∀ f, f ≠ 26 → (m_X8_strike_lp li fuel k q1).1 f = q1.1 f) ∧ (m_X8_strike_lp li fuel k q1).2 = q1.2 ∧ (∀ j : Nat, (m_X8_strike_lp li fuel k q1).1 26 j = if 64 * Int32.toNatClampNeg li + Int32.toNatClampNeg k ≤ j ∧ j < 64 * Int32.toNatClampNeg li + Int32.toNatClampNeg (q1.1 27 (Int32.toNatClampNeg li)) then q1.1 26 (j + 1) else q1.1 26 j) := by
  intro fuel
  induction fuel with
  | zero => intro k q1 a b c d; omega
  | succ n ih =>
    intro k q1 a b c d
    rw [m_X8_strike_lp]
    have tk := tn_e a
    by_cases g : q1.1 27 (Int32.toNatClampNeg li) ≤ k
    · rw [if_pos g]
      refine ⟨fun _ _ => rfl, rfl, fun j => ?_⟩
      have := cv_le g
      have tz : (Int32.toNatClampNeg (q1.1 27 (Int32.toNatClampNeg li)) : Int) ≤ k.toInt := by
        by_cases z : 0 ≤ (q1.1 27 (Int32.toNatClampNeg li)).toInt
        · rw [tn_e z]; exact this
        · have e : Int32.toNatClampNeg (q1.1 27 (Int32.toNatClampNeg li)) = (q1.1 27 (Int32.toNatClampNeg li)).toInt.toNat := rfl
          rw [e]; omega
      rw [if_neg (by omega)]
    · rw [if_neg g]
      have g' := cv_nle g
      have a1 := ad_o k 1
      have k1 : (1 : Int32).toInt = 1 := rfl
      have e1 : (k + 1).toInt = k.toInt + 1 := by omega
      have t1 := tn_e (r := k + 1) (by omega)
      have tl := tn_e (r := q1.1 27 (Int32.toNatClampNeg li)) (by omega)
      rw [ix64 h1 h2 a (by omega), ix65 h1 h2 a (by omega)]
      generalize hL : Int32.toNatClampNeg li = L at *
      have e27 : (mq_i q1 26 (64 * L + Int32.toNatClampNeg k) (q1.1 26 (64 * L + Int32.toNatClampNeg k + 1))).1 27 L = q1.1 27 L := mq_ne (by decide)
      obtain ⟨i1, i2, i3⟩ := ih (k + 1) (mq_i q1 26 (64 * L + Int32.toNatClampNeg k) (q1.1 26 (64 * L + Int32.toNatClampNeg k + 1))) (by omega) (by omega) (by rw [e27]; exact c) (by omega)
      refine ⟨fun f hf => by rw [i1 f hf, mq_i_ne _ _ hf], by rw [i2]; rfl, fun j => ?_⟩
      rw [i3 j, e27, mq_i_self]
      unfold upd
      by_cases c1 : j = 64 * L + Int32.toNatClampNeg k
      · rw [if_neg (by omega), if_pos c1, if_pos (by omega), c1]
      · by_cases c2 : 64 * L + Int32.toNatClampNeg k ≤ j ∧ j < 64 * L + Int32.toNatClampNeg (q1.1 27 L)
        · rw [if_pos (by omega), if_pos c2, if_neg (by omega)]
        · rw [if_neg (by omega), if_neg c2, if_neg c1]
theorem st_strike {c : qC} {q : qM} (h : RI c q) (li r : Int32) : (m_X8_strike q li r).2.1 0 0 = wkO (m_X7_strike c li r).1 ∧ ((m_X7_strike c li r).1 = 0 → (m_X7_strike c li r).2.1 = (m_X8_strike q li r).1) ∧ RI (m_X7_strike c li r).2.2 (m_X8_strike q li r).2 := by
  unfold m_X7_strike m_X8_strike
  rw [kLi h, kRo1 h]
  by_cases h1 : m_X8_noList q li = 0
  case neg => rw [if_neg h1, if_neg h1, if_neg z10]; exact ⟨rfl, fun x => absurd x z10, RI_t h⟩
  rw [if_pos h1, if_pos h1, if_pos rfl]
  obtain ⟨l16, l0, l15, ll⟩ := li_n h h1
  obtain ⟨n, hn, hm, hL⟩ := h.1.2.2.2.2.2.2.2.2.2 _ l16
  have hlen := h.2.2.1.2.1 (Int32.toNatClampNeg li)
  have tl := tn_e hlen.1
  have hr := hs_r hn hm r
  have P := scan_e (g := m_X8_placeOn_lp q li r) (N := q.1 27 (Int32.toNatClampNeg li)) (S := fun k => q.1 26 (Int32.toNatClampNeg (64 * li + k)) = r) (fun n a k => by
    rw [m_X8_placeOn_lp]) (by omega) 66 (-1) 0 (by decide) (by decide) (by rw [kk_0]; omega) (by decide)
  rw [kk_0] at P
  have hp : m_X8_placeOn q li r = m_X8_placeOn_lp q li r 66 (-1) 0 := rfl
  rw [← hp] at P
  have mem : (0 ≤ r.toInt ∧ Int32.toNatClampNeg r ∈ bts n) ↔ ∃ k : Int32, 0 ≤ k.toInt ∧ k.toInt < (q.1 27 (Int32.toNatClampNeg li)).toInt ∧ q.1 26 (Int32.toNatClampNeg (64 * li + k)) = r := by
    rw [← hL]
    constructor
    · rintro ⟨r0, hmem⟩
      obtain ⟨k, hk⟩ := List.mem_iff_getElem?.mp hmem
      rw [lst_at] at hk
      by_cases g : k < Int32.toNatClampNeg (q.1 27 (Int32.toNatClampNeg li))
      · rw [if_pos g] at hk
        have tk := nI_toInt (n := k) (by omega)
        refine ⟨nI k, by omega, by omega, ?_⟩
        rw [ix64 l0 l15 (by omega) (by omega), nI_clamp (by omega)]
        have e26 := (h.2.2.1.2.2.1 (64 * Int32.toNatClampNeg li + k)).1
        rw [← nI_e e26, Option.some.inj hk, nI_e r0]
      · rw [if_neg g] at hk; cases hk
    · rintro ⟨k, k0, k2, k3⟩
      have e26 := (h.2.2.1.2.2.1 (Int32.toNatClampNeg (64 * li + k))).1
      rw [k3] at e26
      refine ⟨e26, List.mem_iff_getElem?.mpr ⟨Int32.toNatClampNeg k, ?_⟩⟩
      have tk := tn_e k0
      rw [lst_at, if_pos (by omega), ← ix64 l0 l15 k0 (by omega), k3]
  by_cases h2 : m_X8_placeOn q li r = -1
  · have no : m_X2_has c (Int32.toNatClampNeg li) r = 0 := by
      rw [hr, mem]
      rintro ⟨k, k0, k2, k3⟩
      rcases P with ⟨p1, p2⟩ | ⟨p1, p2, p3, p4⟩
      · exact p2 k k0 k2 k3
      · rw [h2] at p1; exact absurd p1 (by decide)
    rw [if_pos h2, if_pos no]; exact ⟨rfl, fun x => absurd x z10, RI_t h⟩
  have P2 : 0 ≤ (m_X8_placeOn q li r).toInt ∧ (m_X8_placeOn q li r).toInt < (q.1 27 (Int32.toNatClampNeg li)).toInt ∧ q.1 26 (Int32.toNatClampNeg (64 * li + m_X8_placeOn q li r)) = r := by
    rcases P with ⟨p1, p2⟩ | ⟨p1, p2, p3, p4⟩
    · exact absurd p1 h2
    · exact ⟨p1, p2, p3⟩
  have yes : 0 ≤ r.toInt ∧ Int32.toNatClampNeg r ∈ bts n := mem.mpr ⟨_, P2⟩
  rw [if_neg h2, if_neg (fun x => hr.mp x yes), kOp h ll]
  by_cases h3 : q.1 30 (Int32.toNatClampNeg li) = 0
  case neg => rw [if_neg h3, if_neg h3, if_neg z30]; exact ⟨rfl, fun x => absurd x z30, RI_t h⟩
  rw [if_pos h3, if_pos h3, if_pos rfl]
  by_cases h7 : m_X8_hasRoom q 1 = 0
  · rw [if_pos h7, if_pos h7, if_neg z30]; exact ⟨rfl, fun x => absurd x z30, RI_t h⟩
  rw [if_neg h7, if_neg h7, if_pos rfl]
  have hroom := hr1 h.2.2.1 h7
  have tr := tn_e yes.1
  have r64 := ((bt_mem _ _).mp yes.2).1
  obtain ⟨n', hn', hm', hb'⟩ := rm_b hn r64
  rw [nI_e yes.1] at hm'
  rw [hm, hm']
  have s1 := su_o (q.1 27 (Int32.toNatClampNeg li)) 1
  have k1 : (1 : Int32).toInt = 1 := rfl
  have e27 : (q.1 27 (Int32.toNatClampNeg li) - 1).toInt = (q.1 27 (Int32.toNatClampNeg li)).toInt - 1 := by omega
  have tn1 := tn_e (r := q.1 27 (Int32.toNatClampNeg li) - 1) (by omega)
  have tp := tn_e P2.1
  obtain ⟨z1, z2, z3⟩ := sk_lp l0 l15 66 (m_X8_placeOn q li r) (mq_i (mq_i q 0 0 0) 27 (Int32.toNatClampNeg li) (q.1 27 (Int32.toNatClampNeg li) - 1)) P2.1 (by omega) (by rw [mq_same]; omega) (by omega)
  rw [mq_same] at z3
  generalize hqs : m_X8_strike_lp li 66 (m_X8_placeOn q li r) (mq_i (mq_i q 0 0 0) 27 (Int32.toNatClampNeg li) (q.1 27 (Int32.toNatClampNeg li) - 1)) = qs at *
  have i26 : ∀ j, (mq_i (mq_i q 0 0 0) 27 (Int32.toNatClampNeg li) (q.1 27 (Int32.toNatClampNeg li) - 1)).1 26 j = q.1 26 j := fun j => by rw [mq_ne (by decide), mq_ne (by decide)]
  simp only [i26] at z3
  have e27s : ∀ j, qs.1 27 j = if j = Int32.toNatClampNeg li then q.1 27 (Int32.toNatClampNeg li) - 1 else q.1 27 j := fun j => by
    rw [z1 27 (by decide), mq_i_self]; unfold upd; rw [mq_ne (by decide)]
  have ef : ∀ f, f ≠ 26 → f ≠ 27 → f ≠ 0 → qs.1 f = q.1 f := fun f a b d => by rw [z1 f a, mq_i_ne _ _ b, mq_i_ne _ _ d]
  have e0 : qs.1 0 0 = 0 := by rw [z1 0 (by decide), mq_ne (by decide), mq_same]
  have e2 : qs.2 = q.2 := z2
  have hme : ∀ {K : List Nat}, K.contains 0 = false → K.contains 26 = false → K.contains 27 = false → em K qs q := fun {K} a b d f hf => by
    have t : ∀ x, K.contains x = false → f ≠ x := fun x hx e => by subst e; rw [List.contains_iff_mem.mpr hf] at hx; cases hx
    exact ⟨ef f (t 26 b) (t 27 d) (t 0 a), by rw [e2]⟩
  -- rows
  have rowL : lst qs (Int32.toNatClampNeg li) = (lst q (Int32.toNatClampNeg li)).eraseIdx (Int32.toNatClampNeg (m_X8_placeOn q li r)) := by
    apply List.ext_getElem?
    intro k
    rw [List.getElem?_eraseIdx, lst_at, lst_at, lst_at, e27s, if_pos rfl, z3]
    by_cases c1 : k < Int32.toNatClampNeg (m_X8_placeOn q li r)
    · have A1 : k < Int32.toNatClampNeg (q.1 27 (Int32.toNatClampNeg li) - 1) := by omega
      have A2 : k < Int32.toNatClampNeg (q.1 27 (Int32.toNatClampNeg li)) := by omega
      have A3 : ¬ (64 * Int32.toNatClampNeg li + Int32.toNatClampNeg (m_X8_placeOn q li r) ≤ 64 * Int32.toNatClampNeg li + k ∧ 64 * Int32.toNatClampNeg li + k < 64 * Int32.toNatClampNeg li + Int32.toNatClampNeg (q.1 27 (Int32.toNatClampNeg li) - 1)) := by omega
      rw [if_pos c1, if_pos A1, if_pos A2, if_neg A3]
    · rw [if_neg c1]
      by_cases c2 : k < Int32.toNatClampNeg (q.1 27 (Int32.toNatClampNeg li) - 1)
      · have A2 : k + 1 < Int32.toNatClampNeg (q.1 27 (Int32.toNatClampNeg li)) := by omega
        have A3 : (64 * Int32.toNatClampNeg li + Int32.toNatClampNeg (m_X8_placeOn q li r) ≤ 64 * Int32.toNatClampNeg li + k ∧ 64 * Int32.toNatClampNeg li + k < 64 * Int32.toNatClampNeg li + Int32.toNatClampNeg (q.1 27 (Int32.toNatClampNeg li) - 1)) := by omega
        rw [if_pos c2, if_pos A2, if_pos A3, Nat.add_assoc]
      · have A2 : ¬ k + 1 < Int32.toNatClampNeg (q.1 27 (Int32.toNatClampNeg li)) := by omega
        rw [if_neg c2, if_neg A2]
  have rowO : ∀ l, l ≠ Int32.toNatClampNeg li → lst qs l = lst q l := by
    intro l hne
    apply List.ext_getElem?
    intro k
    rw [lst_at, lst_at, e27s, if_neg hne]
    by_cases c1 : k < Int32.toNatClampNeg (q.1 27 l)
    · have hl64 := h.2.2.1.2.1 l
      have := tn_e hl64.1
      rw [if_pos c1, if_pos c1, z3, if_neg (by omega)]
    · rw [if_neg c1, if_neg c1]
  have at_r : (lst q (Int32.toNatClampNeg li))[Int32.toNatClampNeg (m_X8_placeOn q li r)]? = some (Int32.toNatClampNeg r) := by
    rw [lst_at, if_pos (by omega), ← ix64 l0 l15 P2.1 (by omega), P2.2.2]
  have rowB : lst qs (Int32.toNatClampNeg li) = bts n' := by
    rw [rowL, hb', ← hL]
    exact er_f _ _ _ (by rw [hL]; exact bt_nd n) at_r
  have len' : (bts n').length = Int32.toNatClampNeg (q.1 27 (Int32.toNatClampNeg li) - 1) := by
    rw [← rowB, lst_len, e27s, if_pos rfl]
  refine ⟨?_, fun _ => ?_, ?_⟩
  · dsimp only
    rw [wr_1 (by decide) (by decide), e0]; rfl
  · dsimp only
    unfold m_X2_size
    rw [wc_l (by decide), cq_same_l, (bc_b hn').1, wr_1 (by decide) (by decide), e27s, if_pos rfl, len', nI_e (by omega)]
  · dsimp only
    refine RI_w ?_ (by rw [ef 31 (by decide) (by decide) (by decide)]; exact hroom) (fun hk => by rcases hk with hk | hk <;> exact absurd hk (by decide))
    obtain ⟨⟨g1, g2, g3, g4, g5, g6, g7⟩, hg, hl, hc⟩ := h
    refine ⟨⟨G1_fr g1 (ek_l rfl (ek_rf _)) (hme rfl rfl rfl), G2_fr g2 (ek_l rfl (ek_rf _)) (hme rfl rfl rfl), G3_fr g3 (ek_l rfl (ek_rf _)) (hme rfl rfl rfl), G4_fr g4 (ek_l rfl (ek_rf _)) (hme rfl rfl rfl), G5_fr g5 (ek_l rfl (ek_rf _)) (hme rfl rfl rfl), G6_fr g6 (ek_l rfl (ek_rf _)) (hme rfl rfl rfl), ?_⟩, ?_, ?_, cI_l rfl hc⟩
    · obtain ⟨b1, b2, b3, b4⟩ := g7
      refine ⟨?_, ?_, ?_, fun l hl => ?_⟩
      · rw [ef 28 (by decide) (by decide) (by decide), ef 29 (by decide) (by decide) (by decide)]; exact b1
      · rw [ef 25 (by decide) (by decide) (by decide), ef 29 (by decide) (by decide) (by decide), ef 30 (by decide) (by decide) (by decide)]; exact b2
      · rw [ef 25 (by decide) (by decide) (by decide), ef 30 (by decide) (by decide) (by decide)]; exact b3
      · by_cases e : l = Int32.toNatClampNeg li
        · subst e
          exact ⟨n', hn', cq_same_l _ _ _ _ _, rowB⟩
        · obtain ⟨m, m1, m2, m3⟩ := b4 l hl
          exact ⟨m, m1, by rw [cl_nj (fun x => e x.2)]; exact m2, by rw [rowO l e]; exact m3⟩
    · unfold gI
      rw [ef 5 (by decide) (by decide) (by decide), ef 9 (by decide) (by decide) (by decide), ef 13 (by decide) (by decide) (by decide), ef 12 (by decide) (by decide) (by decide), ef 14 (by decide) (by decide) (by decide), ef 10 (by decide) (by decide) (by decide), ef 11 (by decide) (by decide) (by decide), ef 6 (by decide) (by decide) (by decide), ef 2 (by decide) (by decide) (by decide)]
      exact hg
    · obtain ⟨a1, a2, a3, a4, a5, a6⟩ := hl
      unfold lI
      rw [ef 25 (by decide) (by decide) (by decide), ef 12 (by decide) (by decide) (by decide), ef 31 (by decide) (by decide) (by decide)]
      refine ⟨a1, fun j => ?_, fun j => ?_, fun a k x0 x1 x2 x3 => ?_, fun j hj => ?_, a6⟩
      · rw [e27s]
        by_cases e : j = Int32.toNatClampNeg li
        · rw [if_pos e]; omega
        · rw [if_neg e]; exact a2 j
      · rw [z3]
        split
        · exact a3 (j + 1)
        · exact a3 j
      · rw [e27s] at x3
        have ta := tn_e x0
        have tk := tn_e x2
        have old := a2 (Int32.toNatClampNeg a)
        have k63 : k.toInt ≤ 63 := by
          by_cases e : Int32.toNatClampNeg a = Int32.toNatClampNeg li
          · rw [if_pos e] at x3; omega
          · rw [if_neg e] at x3; omega
        rw [z3, ix64 x0 x1 x2 (by omega)]
        by_cases e : Int32.toNatClampNeg a = Int32.toNatClampNeg li
        · rw [if_pos e] at x3
          have ax : a = li := by rw [← nI_e x0, e, nI_e l0]
          have kk := ad_o k 1
          by_cases cc : 64 * Int32.toNatClampNeg li + Int32.toNatClampNeg (m_X8_placeOn q li r) ≤ 64 * Int32.toNatClampNeg a + Int32.toNatClampNeg k ∧ 64 * Int32.toNatClampNeg a + Int32.toNatClampNeg k < 64 * Int32.toNatClampNeg li + Int32.toNatClampNeg (q.1 27 (Int32.toNatClampNeg li) - 1)
          · rw [if_pos cc]
            have := a4 a (k + 1) x0 x1 (by omega) (by rw [e]; omega)
            rw [ix64 x0 x1 (by omega) (by omega)] at this
            have tk1 := tn_e (r := k + 1) (by omega)
            rw [show 64 * Int32.toNatClampNeg a + Int32.toNatClampNeg k + 1 = 64 * Int32.toNatClampNeg a + Int32.toNatClampNeg (k + 1) by omega]
            exact this
          · rw [if_neg cc]
            have := a4 a k x0 x1 x2 (by rw [e]; omega)
            rw [ix64 x0 x1 x2 (by omega)] at this
            exact this
        · rw [if_neg e] at x3
          have := a4 a k x0 x1 x2 x3
          rw [ix64 x0 x1 x2 (by omega)] at this
          rw [if_neg (by omega)]
          exact this
      · rw [e27s, if_neg (fun e => by rw [e] at hj; omega)]
        exact a5 j hj
