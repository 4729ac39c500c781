/-! laid by wip/whole/tools/model7.py -/
/-! which numbers of the state an answer rests on -/
def gf (f : Nat) : Bool := f == 2 || f == 4 || f == 5 || f == 6 || f == 7 || f == 8 || f == 9 || f == 10 || f == 11 || f == 13 || f == 14 || f == 17 || f == 19 || f == 20 || f == 21 || f == 22 || f == 23 || f == 24
def sg (q q' : qM) : Prop := ∀ f, gf f = true → q.1 f = q'.1 f
theorem sg_rf (q : qM) : sg q q := fun _ _ => rfl
theorem sg_tr {a b c : qM} (h : sg a b) (h2 : sg b c) : sg a c := fun f hf => (h f hf).trans (h2 f hf)
theorem sg_i {q : qM} {f i : Nat} {v : Int32} (h : gf f = false) : sg (mq_i q f i v) q := fun g hg => mq_i_ne q v (fun e => by rw [e, h] at hg; cases hg)
theorem sg_l {q : qM} {f i : Nat} {v : Int64} : sg (mq_l q f i v) q := fun _ _ => rfl
theorem sg_hasKey {q q' : qM} (h : sg q q') (r k : Int32) : m_X8_hasKey q r k = m_X8_hasKey q' r k := by
  unfold m_X8_hasKey
  rw [h 17 rfl]
theorem sg_holds_lp {q q' : qM} (h : sg q q') (r : Int32) : ∀ (n : Nat) (a b : Int32), m_X8_holds_lp q r n a b = m_X8_holds_lp q' r n a b := by
  intro n
  induction n with
  | zero => intro a b; rfl
  | succ n ih =>
    intro a b
    rw [m_X8_holds_lp, m_X8_holds_lp, h 20 rfl, h 13 rfl, h 21 rfl, h 9 rfl, h 22 rfl, h 19 rfl, h 14 rfl, h 23 rfl, h 24 rfl]
    simp only [sg_hasKey h, ih]
theorem sg_holds {q q' : qM} (h : sg q q') (r : Int32) : m_X8_holds q r = m_X8_holds q' r := by
  unfold m_X8_holds
  exact sg_holds_lp h r _ _ _
theorem sg_termFor_lp1 {q q' : qM} (h : sg q q') (c d : Int32) : ∀ (n : Nat) (a b : Int32), m_X8_termFor_lp1 q c d n a b = m_X8_termFor_lp1 q' c d n a b := by
  intro n
  induction n with
  | zero => intro a b; rfl
  | succ n ih =>
    intro a b
    rw [m_X8_termFor_lp1, m_X8_termFor_lp1, h 5 rfl, h 7 rfl]
    simp only [ih]
theorem sg_termFor_lp2 {q q' : qM} (h : sg q q') (c d : Int32) : ∀ (n : Nat) (a b : Int32), m_X8_termFor_lp2 q c d n a b = m_X8_termFor_lp2 q' c d n a b := by
  intro n
  induction n with
  | zero => intro a b; rfl
  | succ n ih =>
    intro a b
    rw [m_X8_termFor_lp2, m_X8_termFor_lp2, h 5 rfl, h 8 rfl]
    simp only [ih]
theorem sg_termFor {q q' : qM} (h : sg q q') (c d : Int32) : m_X8_termFor q c d = m_X8_termFor q' c d := by
  unfold m_X8_termFor
  rw [h 6 rfl]
  simp only [sg_termFor_lp1 h, sg_termFor_lp2 h]
theorem sg_fiscalEnd_lp {q q' : qM} (h : sg q q') : ∀ (n : Nat) (a : Int32), m_X8_fiscalEnd_lp q n a = m_X8_fiscalEnd_lp q' n a := by
  intro n
  induction n with
  | zero => intro a; rfl
  | succ n ih =>
    intro a
    rw [m_X8_fiscalEnd_lp, m_X8_fiscalEnd_lp, h 2 rfl]
    simp only [ih]
theorem sg_fiscalEnd {q q' : qM} (h : sg q q') (d : Int32) : m_X8_fiscalEnd q d = m_X8_fiscalEnd q' d := by
  unfold m_X8_fiscalEnd
  rw [sg_fiscalEnd_lp h]
theorem sg_dueOf {q q' : qM} (h : sg q q') (r : Int32) : m_X8_dueOf q r = m_X8_dueOf q' r := by
  unfold m_X8_dueOf
  rw [h 4 rfl, h 9 rfl, h 13 rfl, h 14 rfl, h 10 rfl, h 11 rfl]
  simp only [sg_fiscalEnd h, sg_termFor h]
theorem sg_mayGo {q q' : qM} (h : sg q q') (r d : Int32) (h2 : q.1 18 (Int32.toNatClampNeg r) = q'.1 18 (Int32.toNatClampNeg r)) : m_X8_mayGo q r d = m_X8_mayGo q' r d := by
  unfold m_X8_mayGo
  rw [h2, sg_dueOf h, sg_holds h]
theorem wr_1 {q : qM} {k a b c : Int32} {f : Nat} (h1 : f ≠ 31) (h2 : f ≠ 32) : (m_X8_write q k a b c).1 f = q.1 f := by
  unfold m_X8_write
  rw [mq_i_ne _ _ h1, mq_l_1, mq_i_ne _ _ h2, mq_i_ne _ _ h2, mq_i_ne _ _ h2, mq_i_ne _ _ h2]
theorem wr_2 {q : qM} {k a b c : Int32} {f : Nat} (h1 : f ≠ 33) : (m_X8_write q k a b c).2 f = q.2 f := by
  unfold m_X8_write
  rw [mq_i_2, mq_l_ne _ _ h1, mq_i_2, mq_i_2, mq_i_2, mq_i_2]
theorem wr_31 {q : qM} {k a b c : Int32} : (m_X8_write q k a b c).1 31 0 = q.1 31 0 + 1 := by
  unfold m_X8_write
  rw [mq_same]
theorem wr_sg {q : qM} {k a b c : Int32} : sg (m_X8_write q k a b c) q := fun f hf => wr_1 (fun e => by rw [e] at hf; cases hf) (fun e => by rw [e] at hf; cases hf)
theorem wr_gI {q : qM} {k a b c : Int32} (h : gI q) : gI (m_X8_write q k a b c) := by
  unfold gI
  rw [wr_1 (f := 5) (by decide) (by decide), wr_1 (f := 9) (by decide) (by decide), wr_1 (f := 13) (by decide) (by decide), wr_1 (f := 12) (by decide) (by decide), wr_1 (f := 14) (by decide) (by decide), wr_1 (f := 10) (by decide) (by decide), wr_1 (f := 11) (by decide) (by decide), wr_1 (f := 6) (by decide) (by decide), wr_1 (f := 2) (by decide) (by decide)]
  exact h
theorem mg_des {q : qM} {i : Nat} {x d : Int32} (h : m_X8_mayGo q x d = 0) : m_X8_mayGo (mq_i q 18 i 1) x d = 0 := by
  by_cases hi : Int32.toNatClampNeg x = i
  · unfold m_X8_mayGo
    rw [hi, mq_same, if_neg (by decide)]
  · rw [sg_mayGo (sg_i (q := q) (f := 18) (i := i) (v := 1) rfl) x d (by rw [mq_i_self]; simp [upd, hi])]
    exact h

def m_X8_carry_lp1 (q : qM) (li : Int32) (day : Int32) : Nat → Int32 → Int32 → Int32
  | 0, _, _ => 0
  | n + 1, n9, k => (if (q.1 27 (Int32.toNatClampNeg li)) ≤ k then n9 else (m_X8_carry_lp1 q li day n ((if (m_X8_mayGo q (q.1 26 (Int32.toNatClampNeg ((64 * li) + k))) day) = 0 then n9 else (n9 + 1)) : Int32) (k + 1)))
def m_X8_carry_lp2 (li : Int32) (day : Int32) : Nat → Int32 → qM → qM
  | 0, _, q1 => q1
  | n + 1, k, q1 => (if (q1.1 27 (Int32.toNatClampNeg li)) ≤ k then q1 else (if (m_X8_mayGo q1 (q1.1 26 (Int32.toNatClampNeg ((64 * li) + k))) day) = 0 then (m_X8_carry_lp2 li day n (k + 1) q1) else (m_X8_carry_lp2 li day n (k + 1) (m_X8_write (mq_i q1 18 (Int32.toNatClampNeg (q1.1 26 (Int32.toNatClampNeg ((64 * li) + k)))) 1) 11 (q1.1 26 (Int32.toNatClampNeg ((64 * li) + k))) li day))))
def m_X8_carry (q : qM) (li : Int32) (officer : Int32) (day : Int32) : Int32 × qM := (if (m_X8_noList q li) = 0 then (if (m_X8_noOfficer officer) = 0 then (if (m_X8_isDay q day) = 0 then (0, (mq_i q 0 0 2)) else (if (q.1 30 (Int32.toNatClampNeg li)) = 0 then (if (m_X8_bits (q.1 29 (Int32.toNatClampNeg li))) < 2 then (0, (mq_i q 0 0 3)) else (if (m_X8_hasRight q officer 4) = 0 then (0, (mq_i q 0 0 3)) else (if (m_X8_hasRoom q ((m_X8_carry_lp1 q li day 66 0 0) + 1)) = 0 then (0, (mq_i q 0 0 3)) else ((m_X8_carry_lp1 q li day 66 0 0), (m_X8_write (m_X8_carry_lp2 li day 66 0 (mq_i (mq_i (mq_i q 0 0 0) 30 (Int32.toNatClampNeg li) 1) 3 0 day)) 12 li day (((m_X8_carry_lp2 li day 66 0 (mq_i (mq_i (mq_i q 0 0 0) 30 (Int32.toNatClampNeg li) 1) 3 0 day)).1 27 (Int32.toNatClampNeg li)) - (m_X8_carry_lp1 q li day 66 0 0))))))) else (0, (mq_i q 0 0 3)))) else (0, (mq_i q 0 0 1))) else (0, (mq_i q 0 0 1)))
theorem cn_eq (q : qM) (li day : Int32) (n : Nat) (a k : Int32) : m_X8_carry_lp1 q li day (n + 1) a k = (if (q.1 27 (Int32.toNatClampNeg li)) ≤ k then a else m_X8_carry_lp1 q li day n (if m_X8_mayGo q (q.1 26 (Int32.toNatClampNeg ((64 * li) + k))) day = 0 then a else a + 1) (k + 1)) := by
  rw [m_X8_carry_lp1]
theorem cn_lin {q : qM} (hL : lI q) (li day : Int32) : ∀ (n : Nat) (a k : Int32), 0 ≤ k.toInt → k.toInt ≤ 64 → 64 - k.toInt < (n : Int) → 0 ≤ a.toInt → a.toInt ≤ 1000 + k.toInt → (m_X8_carry_lp1 q li day n a k).toInt = a.toInt + (m_X8_carry_lp1 q li day n 0 k).toInt ∧ 0 ≤ (m_X8_carry_lp1 q li day n 0 k).toInt ∧ (m_X8_carry_lp1 q li day n 0 k).toInt ≤ 64 - k.toInt := by
  intro n
  have h9 := hL.2.1 (Int32.toNatClampNeg li)
  have k0 : (0 : Int32).toInt = 0 := rfl
  have k1 : (1 : Int32).toInt = 1 := rfl
  have k01 : ((0 : Int32) + 1).toInt = 1 := rfl
  induction n with
  | zero => intro a k h1 h2 h3; omega
  | succ n ih =>
    intro a k h1 h2 h3 h4 h5
    rw [m_X8_carry_lp1, m_X8_carry_lp1]
    by_cases h : (q.1 27 (Int32.toNatClampNeg li)) ≤ k
    · rw [if_pos h, if_pos h]; omega
    · rw [if_neg h, if_neg h]
      have g2 := cv_nle h
      have g4 := ad_o k 1
      have g5 := ad_o a 1
      by_cases h6 : m_X8_mayGo q (q.1 26 (Int32.toNatClampNeg ((64 * li) + k))) day = 0
      · rw [if_pos h6, if_pos h6]
        have := ih a (k + 1) (by omega) (by omega) (by omega) (by omega) (by omega)
        omega
      · rw [if_neg h6, if_neg h6]
        have e1 := ih (a + 1) (k + 1) (by omega) (by omega) (by omega) (by omega) (by omega)
        have e2 := ih (0 + 1) (k + 1) (by omega) (by omega) (by omega) (by omega) (by omega)
        omega
theorem cn_fuel {q : qM} (hL : lI q) (li day : Int32) : ∀ (n : Nat) (a k : Int32), 0 ≤ k.toInt → k.toInt ≤ 64 → 64 - k.toInt < (n : Int) → m_X8_carry_lp1 q li day (n + 1) a k = m_X8_carry_lp1 q li day n a k := by
  intro n
  have h9 := hL.2.1 (Int32.toNatClampNeg li)
  have k1 : (1 : Int32).toInt = 1 := rfl
  induction n with
  | zero => intro a k h1 h2 h3; omega
  | succ n ih =>
    intro a k h1 h2 h3
    rw [cn_eq q li day (n + 1) a k, cn_eq q li day n a k]
    by_cases h : (q.1 27 (Int32.toNatClampNeg li)) ≤ k
    · rw [if_pos h, if_pos h]
    · rw [if_neg h, if_neg h]
      have g2 := cv_nle h
      have g4 := ad_o k 1
      exact ih _ (k + 1) (by omega) (by omega) (by omega)
/-- how many of the list's records from place k on may go -/
def cn (q : qM) (li day k : Int32) : Int := (m_X8_carry_lp1 q li day 66 0 k).toInt
theorem cn_nn {q : qM} (hL : lI q) (li day k : Int32) (h1 : 0 ≤ k.toInt) (h2 : k.toInt ≤ 64) : 0 ≤ cn q li day k := (cn_lin hL li day 66 0 k h1 h2 (by omega) (by decide) (by have k0 : (0 : Int32).toInt = 0 := rfl; omega)).2.1
theorem cn_step {q : qM} (hL : lI q) (li day k : Int32) (h1 : 0 ≤ k.toInt) (h2 : ¬ (q.1 27 (Int32.toNatClampNeg li)) ≤ k) : cn q li day k = (if m_X8_mayGo q (q.1 26 (Int32.toNatClampNeg ((64 * li) + k))) day = 0 then 0 else 1) + cn q li day (k + 1) := by
  have h9 := hL.2.1 (Int32.toNatClampNeg li)
  have k0 : (0 : Int32).toInt = 0 := rfl
  have k1 : (1 : Int32).toInt = 1 := rfl
  have k01 : ((0 : Int32) + 1).toInt = 1 := rfl
  have g2 := cv_nle h2
  have g4 := ad_o k 1
  unfold cn
  rw [m_X8_carry_lp1, if_neg h2, cn_fuel hL li day 65 0 (k + 1) (by omega) (by omega) (by omega)]
  by_cases h6 : m_X8_mayGo q (q.1 26 (Int32.toNatClampNeg ((64 * li) + k))) day = 0
  · rw [if_pos h6, if_pos h6]; omega
  · rw [if_neg h6, if_neg h6]
    have e1 := cn_lin hL li day 65 (0 + 1) (k + 1) (by omega) (by omega) (by omega) (by omega) (by omega)
    omega
set_option maxHeartbeats 4000000 in
set_option maxRecDepth 100000 in
theorem c_X8_carry (l : Launch) (D : va_G) (b0 : Nat) (Pc : Nat → Nat → Option va_E) (cA : Nat → ClassId) (ad : Nat → Nat → Nat) (q : qM) (li : Int32) (officer : Int32) (day : Int32) (hI : gI q) (hL : lI q) : mc_i l yX8_carry wsX8_carry 5 116 D b0 Pc cA ad q [.ref (ad 20 0), .int li, .int officer, .int day] (m_X8_carry q li officer day) := by
  refine mc_of (by decide) rfl (Nat.le_of_ble_eq_true rfl) ?_
  intro p e s m below meth c hx hb hml hr hlk hown hts hK hW ls hl
  have hown : s.vm.findClass RX8 = some m.cls := hown
  have hS : va_S (wA b0) s.heap s.heap [] := va_S.rf
  have hl : lv_has ls 8 [(0, .ref (ad 20 0)), (1, .int li), (2, .int officer), (3, .int day)] := hl
  have hin : ∀ w ∈ wsX80, w ∈ wsX8_carry := fun w h => List.mem_cons_of_mem _ (List.mem_append_right _ h)
  refine lv_aload_n hx hb dX8_carry_0 rfl (lv_at hl 0 rfl) ?_
  refine lv_iload_n hx hb dX8_carry_1 rfl (lv_at hl 1 rfl) ?_
  refine mm_callVi (n := 1) (As := [.int li]) (rest := []) (r := (m_X8_noList q li)) (q2 := q) ⟨hx, hb, hml, hown, hts⟩ (c_X8_noList l D b0 Pc cA ad q li) gX8_carry_X8_noList rfl (by decide +kernel) rfl ⟨Nat.le_of_ble_eq_true rfl, Nat.le_of_ble_eq_true rfl⟩ ⟨Nat.le_of_ble_eq_true rfl, Nat.le_of_ble_eq_true rfl⟩ hK hW hS hl.1 rfl (Nat.le_of_ble_eq_true rfl) dX8_carry_2 (fun H locs hW hS => ?_)
  refine lv_if_ne (tgt := 20) hx hb dX8_carry_5 (by decide) (fun c_1 => ?_) (fun c_1 => ?_)
  · refine lv_iconst (v := 0) hx hb dX8_carry_20 (by decide) ?_
    refine lv_istore (lv' := [(4, .int 0), (0, .ref (ad 20 0)), (1, .int li), (2, .int officer), (3, .int day)]) hx hb dX8_carry_21 hl (by decide) rfl (fun ls hl => ?_)
    refine lv_iconst (v := 0) hx hb dX8_carry_23 (by decide) ?_
    refine lv_istore (lv' := [(5, .int 0), (4, .int 0), (0, .ref (ad 20 0)), (1, .int li), (2, .int officer), (3, .int day)]) hx hb dX8_carry_24 hl (by decide) rfl (fun ls hl => ?_)
    refine lv_iconst (v := 0) hx hb dX8_carry_26 (by decide) ?_
    refine lv_istore (lv' := [(6, .int 0), (5, .int 0), (4, .int 0), (0, .ref (ad 20 0)), (1, .int li), (2, .int officer), (3, .int day)]) hx hb dX8_carry_27 hl (by decide) rfl (fun ls hl => ?_)
    refine lv_iload hx hb dX8_carry_29 (lv_at hl 2 rfl) ?_
    refine lv_if_eq (tgt := 82) hx hb dX8_carry_31 (by decide) (fun _ => ?_) (fun h => absurd h (by decide))
    refine lv_aload_n hx hb dX8_carry_82 rfl (lv_at hl 3 rfl) ?_
    refine lv_iload hx hb dX8_carry_83 (lv_at hl 2 rfl) ?_
    refine lv_if_ne (tgt := 92) hx hb dX8_carry_85 (by decide) (fun h => absurd h (by decide)) (fun _ => ?_)
    refine lv_iconst (v := 1) hx hb dX8_carry_88 (by decide) ?_
    refine lv_goto (tgt := 151) hx hb dX8_carry_89 (by decide) ?_
    refine mm_put hx hb hts hin hown hK hW hS 0 (by decide) (List.mem_of_getElem? (i := 5) rfl) rfl rfl (by decide +kernel) rfl (ws_0 ad _ _) dX8_carry_151 (fun H locs hW hS => ?_)
    refine lv_aload_n hx hb dX8_carry_154 rfl (lv_at hl 3 rfl) ?_
    refine mm_gets (v := 1) hx hb hts hin hown hK hW 0 (by decide) (List.mem_of_getElem? (i := 5) rfl) rfl rfl (mq_same q 0 0 1) dX8_carry_155 ?_
    refine lv_if_le (tgt := 163) hx hb dX8_carry_158 (by decide) (fun h => absurd h (by decide)) (fun _ => ?_)
    refine lv_iconst (v := 0) hx hb dX8_carry_161 (by decide) ?_
    exact mm_iret hx hb hr hlk hK hW hS (by rw [m_X8_carry, if_neg c_1]) dX8_carry_162
  · refine lv_aload_n hx hb dX8_carry_8 rfl (lv_at hl 0 rfl) ?_
    refine lv_iload_n hx hb dX8_carry_9 rfl (lv_at hl 2 rfl) ?_
    refine mm_callVi (n := 1) (As := [.int officer]) (rest := []) (r := (m_X8_noOfficer officer)) (q2 := q) ⟨hx, hb, hml, hown, hts⟩ (c_X8_noOfficer l D b0 Pc cA ad q officer) gX8_carry_X8_noOfficer rfl (by decide +kernel) rfl ⟨Nat.le_of_ble_eq_true rfl, Nat.le_of_ble_eq_true rfl⟩ ⟨Nat.le_of_ble_eq_true rfl, Nat.le_of_ble_eq_true rfl⟩ hK hW hS hl.1 rfl (Nat.le_of_ble_eq_true rfl) dX8_carry_10 (fun H locs hW hS => ?_)
    refine lv_if_ne (tgt := 20) hx hb dX8_carry_13 (by decide) (fun c_2 => ?_) (fun c_2 => ?_)
    · refine lv_iconst (v := 0) hx hb dX8_carry_20 (by decide) ?_
      refine lv_istore (lv' := [(4, .int 0), (0, .ref (ad 20 0)), (1, .int li), (2, .int officer), (3, .int day)]) hx hb dX8_carry_21 hl (by decide) rfl (fun ls hl => ?_)
      refine lv_iconst (v := 0) hx hb dX8_carry_23 (by decide) ?_
      refine lv_istore (lv' := [(5, .int 0), (4, .int 0), (0, .ref (ad 20 0)), (1, .int li), (2, .int officer), (3, .int day)]) hx hb dX8_carry_24 hl (by decide) rfl (fun ls hl => ?_)
      refine lv_iconst (v := 0) hx hb dX8_carry_26 (by decide) ?_
      refine lv_istore (lv' := [(6, .int 0), (5, .int 0), (4, .int 0), (0, .ref (ad 20 0)), (1, .int li), (2, .int officer), (3, .int day)]) hx hb dX8_carry_27 hl (by decide) rfl (fun ls hl => ?_)
      refine lv_iload hx hb dX8_carry_29 (lv_at hl 2 rfl) ?_
      refine lv_if_eq (tgt := 82) hx hb dX8_carry_31 (by decide) (fun _ => ?_) (fun h => absurd h (by decide))
      refine lv_aload_n hx hb dX8_carry_82 rfl (lv_at hl 3 rfl) ?_
      refine lv_iload hx hb dX8_carry_83 (lv_at hl 2 rfl) ?_
      refine lv_if_ne (tgt := 92) hx hb dX8_carry_85 (by decide) (fun h => absurd h (by decide)) (fun _ => ?_)
      refine lv_iconst (v := 1) hx hb dX8_carry_88 (by decide) ?_
      refine lv_goto (tgt := 151) hx hb dX8_carry_89 (by decide) ?_
      refine mm_put hx hb hts hin hown hK hW hS 0 (by decide) (List.mem_of_getElem? (i := 5) rfl) rfl rfl (by decide +kernel) rfl (ws_0 ad _ _) dX8_carry_151 (fun H locs hW hS => ?_)
      refine lv_aload_n hx hb dX8_carry_154 rfl (lv_at hl 3 rfl) ?_
      refine mm_gets (v := 1) hx hb hts hin hown hK hW 0 (by decide) (List.mem_of_getElem? (i := 5) rfl) rfl rfl (mq_same q 0 0 1) dX8_carry_155 ?_
      refine lv_if_le (tgt := 163) hx hb dX8_carry_158 (by decide) (fun h => absurd h (by decide)) (fun _ => ?_)
      refine lv_iconst (v := 0) hx hb dX8_carry_161 (by decide) ?_
      exact mm_iret hx hb hr hlk hK hW hS (by rw [m_X8_carry, if_pos c_1, if_neg c_2]) dX8_carry_162
    · refine lv_iconst (v := 1) hx hb dX8_carry_16 (by decide) ?_
      refine lv_goto (tgt := 21) hx hb dX8_carry_17 (by decide) ?_
      refine lv_istore (lv' := [(4, .int 1), (0, .ref (ad 20 0)), (1, .int li), (2, .int officer), (3, .int day)]) hx hb dX8_carry_21 hl (by decide) rfl (fun ls hl => ?_)
      refine lv_iconst (v := 0) hx hb dX8_carry_23 (by decide) ?_
      refine lv_istore (lv' := [(5, .int 0), (4, .int 1), (0, .ref (ad 20 0)), (1, .int li), (2, .int officer), (3, .int day)]) hx hb dX8_carry_24 hl (by decide) rfl (fun ls hl => ?_)
      refine lv_iconst (v := 0) hx hb dX8_carry_26 (by decide) ?_
      refine lv_istore (lv' := [(6, .int 0), (5, .int 0), (4, .int 1), (0, .ref (ad 20 0)), (1, .int li), (2, .int officer), (3, .int day)]) hx hb dX8_carry_27 hl (by decide) rfl (fun ls hl => ?_)
      have lp_15 : ∀ (Q : State → Prop) (n : Nat) (n9 : Int32) (k : Int32), (0 ≤ k.toInt ∧ k.toInt ≤ 64 ∧ 0 ≤ n9.toInt ∧ n9.toInt ≤ k.toInt) → 64 - k.toInt < (n : Int) → (∀ o_3 : Int32, o_3 = (m_X8_carry_lp1 q li day n n9 k) → (0 ≤ (o_3).toInt ∧ (o_3).toInt ≤ 64) → ∀ (H : Heap) (locs : List Loc), wd D (wA b0) (PW Pc cA ad q) ad H → va_S (wA b0) s.heap H locs → ∀ ls : Array Slot, lv_has ls 8 [(5, .int o_3), (4, .int 1), (0, .ref (ad 20 0)), (1, .int li), (2, .int officer), (3, .int day)] → W p l e { frames := 5, cells := 0, slots := 0, locals := 116 } s m [.ref (ad 20 0), .int li, .int officer, .int day].toArray below meth c H locs 0 0 Q (F0 m 82 ls [])) → ∀ (H : Heap) (locs : List Loc), wd D (wA b0) (PW Pc cA ad q) ad H → va_S (wA b0) s.heap H locs → ∀ ls : Array Slot, lv_has ls 8 [(5, .int n9), (6, .int k), (4, .int 1), (0, .ref (ad 20 0)), (1, .int li), (2, .int officer), (3, .int day)] → W p l e { frames := 5, cells := 0, slots := 0, locals := 116 } s m [.ref (ad 20 0), .int li, .int officer, .int day].toArray below meth c H locs 0 0 Q (F0 m 29 ls []) := by
        intro Q n
        induction n with
        | zero =>
          intro n9 k i1 hm
          have hz : 0 ≤ 64 - k.toInt := by
            have w_1 := hL.2.2.2.2.2
            have w_2 := hI.2.2.2.1
            have w_3 := hL.1
            have w_4 := hL.2.1 (Int32.toNatClampNeg li)
            have w_5 := ad_o n9 1
            have w_6 := (rfl : (1 : Int32).toInt = 1)
            have w_7 := hL.2.2.1 (Int32.toNatClampNeg ((64 * li) + k))
            have w_8 := hL.2.2.2.1 li k
            have w_9 := i1
            omega
          exact absurd hm (by omega)
        | succ n ih =>
          intro n9 k i1 hm kk H locs hW hS ls hl
          refine lv_iload hx hb dX8_carry_29 (lv_at hl 2 rfl) ?_
          refine lv_if_eq (tgt := 82) hx hb dX8_carry_31 (by decide) (fun h => absurd h (by decide)) (fun _ => ?_)
          refine lv_iload hx hb dX8_carry_34 (lv_at hl 1 rfl) ?_
          refine lv_aload_n hx hb dX8_carry_36 rfl (lv_at hl 3 rfl) ?_
          refine mm_get (v := .ref (ad 21 27)) hx hb hts hin hown hK hW 27 (by decide) (List.mem_of_getElem? (i := 1) rfl) rfl rfl dX8_carry_37 ?_
          refine lv_iload_n hx hb dX8_carry_40 rfl (lv_at hl 4 rfl) ?_
          have b_4 : vp_in li 16 := by
            have u_1 := rg_e li
            have u_2 := rg_e (m_X8_noList q li)
            have k_3 : (0 : Int32).toInt = 0 := rfl
            have v_4 := cv_eq c_1
            have v_5 := nl_t hL c_1
            have u_6 := rg_e (m_X8_noOfficer officer)
            have v_7 := cv_eq c_2
            have u_8 := rg_e officer
            have v_9 := no_t c_2
            have w_10 := hL.2.2.2.2.2
            have w_11 := hI.2.2.2.1
            have w_12 := hL.1
            have w_13 := hL.2.1 (Int32.toNatClampNeg li)
            have w_14 := ad_o n9 1
            have w_15 := (rfl : (1 : Int32).toInt = 1)
            have w_16 := hL.2.2.1 (Int32.toNatClampNeg ((64 * li) + k))
            have w_17 := hL.2.2.2.1 li k
            have w_18 := i1
            exact vp_in_iff.mpr (by omega)
          refine mm_iald (v := (q.1 27 (Int32.toNatClampNeg li))) hx hb hK hW 27 16 rfl b_4 ((rfl)) dX8_carry_41 ?_
          refine lv_icmp_ge (tgt := 82) hx hb dX8_carry_42 (by decide) (fun c_5 => ?_) (fun c_5 => ?_)
          · have h_6 : 0 ≤ (n9).toInt ∧ (n9).toInt ≤ 64 := by
              have u_1 := rg_e n9
              have u_2 := rg_e (m_X8_noList q li)
              have k_3 : (0 : Int32).toInt = 0 := rfl
              have v_4 := cv_eq c_1
              have u_5 := rg_e li
              have v_6 := nl_t hL c_1
              have u_7 := rg_e (m_X8_noOfficer officer)
              have v_8 := cv_eq c_2
              have u_9 := rg_e officer
              have v_10 := no_t c_2
              have u_11 := rg_e (q.1 27 (Int32.toNatClampNeg li))
              have u_12 := rg_e k
              have v_13 := cv_le c_5
              have w_14 := hL.2.2.2.2.2
              have w_15 := hI.2.2.2.1
              have w_16 := hL.1
              have w_17 := hL.2.1 (Int32.toNatClampNeg li)
              have w_18 := ad_o n9 1
              have w_19 := (rfl : (1 : Int32).toInt = 1)
              have w_20 := hL.2.2.1 (Int32.toNatClampNeg ((64 * li) + k))
              have w_21 := hL.2.2.2.1 li k
              have w_22 := i1
              omega
            exact kk n9 (by rw [m_X8_carry_lp1, if_pos c_5]) h_6 H locs hW hS ls (lv_sub hl [0, 2, 3, 4, 5, 6] rfl)
          · refine jn_w (J := 74) (rest := []) (Wd := fun H locs => wd D (wA b0) (PW Pc cA ad q) ad H ∧ va_S (wA b0) s.heap H locs) ((if (m_X8_mayGo q (q.1 26 (Int32.toNatClampNeg ((64 * li) + k))) day) = 0 then n9 else (n9 + 1)) : Int32) ⟨hW, hS⟩ (fun H locs hWS => ?_) (fun hj => ?_)
            · obtain ⟨hW, hS⟩ := hWS
              have fj_12 : ∀ z : Int32, z = ((if (m_X8_mayGo q (q.1 26 (Int32.toNatClampNeg ((64 * li) + k))) day) = 0 then n9 else (n9 + 1)) : Int32) → z.toInt = (n9 : Int32).toInt ∨ z.toInt = ((n9 + 1) : Int32).toInt := by
                intro z hz
                rw [hz]
                repeat' split
                all_goals simp
              obtain ⟨j_12, ej_12⟩ : ∃ z : Int32, z = ((if (m_X8_mayGo q (q.1 26 (Int32.toNatClampNeg ((64 * li) + k))) day) = 0 then n9 else (n9 + 1)) : Int32) := ⟨_, rfl⟩
              rw [← ej_12]
              refine lv_istore (lv' := [(5, .int j_12), (6, .int k), (4, .int 1), (0, .ref (ad 20 0)), (1, .int li), (2, .int officer), (3, .int day)]) hx hb dX8_carry_74 hl (by decide) rfl (fun ls hl => ?_)
              refine lv_iinc (v := (k + 1)) (lv' := [(6, .int (k + 1)), (5, .int j_12), (4, .int 1), (0, .ref (ad 20 0)), (1, .int li), (2, .int officer), (3, .int day)]) hx hb dX8_carry_76 hl (k := 1) rfl (by first | rfl | decide) (by decide) rfl (fun ls hl => ?_)
              refine lv_goto (tgt := 29) hx hb dX8_carry_79 (by decide) ?_
              have h_13 : 0 ≤ (k + 1).toInt ∧ (k + 1).toInt ≤ 64 ∧ 0 ≤ j_12.toInt ∧ j_12.toInt ≤ (k + 1).toInt := by
                have u_1 := rg_e j_12
                have u_2 := rg_e k
                have k_3 : (1 : Int32).toInt = 1 := rfl
                have u_5 := rg_e (m_X8_noList q li)
                have k_6 : (0 : Int32).toInt = 0 := rfl
                have v_7 := cv_eq c_1
                have u_8 := rg_e li
                have v_9 := nl_t hL c_1
                have u_10 := rg_e (m_X8_noOfficer officer)
                have v_11 := cv_eq c_2
                have u_12 := rg_e officer
                have v_13 := no_t c_2
                have u_14 := rg_e (q.1 27 (Int32.toNatClampNeg li))
                have v_15 := cv_nle c_5
                have w_16 := hL.2.2.2.2.2
                have w_17 := hI.2.2.2.1
                have w_18 := hL.1
                have w_19 := hL.2.1 (Int32.toNatClampNeg li)
                have w_20 := ad_o n9 1
                have w_21 := (rfl : (1 : Int32).toInt = 1)
                have w_22 := hL.2.2.1 (Int32.toNatClampNeg ((64 * li) + k))
                have w_23 := hL.2.2.2.1 li k
                have w_24 := i1
                have w_25 := fj_12 j_12 ej_12
                have u_4 := ad_o k 1
                omega
              have h_14 : 64 - (k + 1).toInt < (n : Int) := by
                have u_1 := rg_e j_12
                have u_2 := rg_e k
                have k_3 : (1 : Int32).toInt = 1 := rfl
                have u_5 := rg_e (m_X8_noList q li)
                have k_6 : (0 : Int32).toInt = 0 := rfl
                have v_7 := cv_eq c_1
                have u_8 := rg_e li
                have v_9 := nl_t hL c_1
                have u_10 := rg_e (m_X8_noOfficer officer)
                have v_11 := cv_eq c_2
                have u_12 := rg_e officer
                have v_13 := no_t c_2
                have u_14 := rg_e (q.1 27 (Int32.toNatClampNeg li))
                have v_15 := cv_nle c_5
                have w_16 := hL.2.2.2.2.2
                have w_17 := hI.2.2.2.1
                have w_18 := hL.1
                have w_19 := hL.2.1 (Int32.toNatClampNeg li)
                have w_20 := ad_o n9 1
                have w_21 := (rfl : (1 : Int32).toInt = 1)
                have w_22 := hL.2.2.1 (Int32.toNatClampNeg ((64 * li) + k))
                have w_23 := hL.2.2.2.1 li k
                have w_24 := i1
                have w_25 := fj_12 j_12 ej_12
                have w_26 := hm
                have u_4 := ad_o k 1
                omega
              exact ih j_12 (k + 1) h_13 h_14 (fun o_3 eo_3 => kk o_3 (eo_3.trans (by rw [m_X8_carry_lp1, if_neg c_5, ← ej_12]))) _ _ hW hS ls (lv_sub hl [1, 0, 2, 3, 4, 5, 6] rfl)
            · refine lv_aload_n hx hb dX8_carry_45 rfl (lv_at hl 3 rfl) ?_
              refine lv_aload_n hx hb dX8_carry_46 rfl (lv_at hl 3 rfl) ?_
              refine mm_get (v := .ref (ad 21 26)) hx hb hts hin hown hK hW 26 (by decide) (List.mem_of_getElem? (i := 2) rfl) rfl rfl dX8_carry_47 ?_
              refine lv_bipush (v := 64) hx hb dX8_carry_50 (by decide) ?_
              refine lv_iload_n hx hb dX8_carry_52 rfl (lv_at hl 4 rfl) ?_
              refine lv_imul hx hb dX8_carry_53 ?_
              refine lv_iload hx hb dX8_carry_54 (lv_at hl 1 rfl) ?_
              refine lv_iadd hx hb dX8_carry_56 ?_
              have b_7 : vp_in ((64 * li) + k) 1024 := by
                have k_1 : (64 : Int32).toInt = 64 := rfl
                have u_2 := rg_e li
                have u_4 := rg_e k
                have u_6 := rg_e (m_X8_noList q li)
                have k_7 : (0 : Int32).toInt = 0 := rfl
                have v_8 := cv_eq c_1
                have v_9 := nl_t hL c_1
                have u_10 := rg_e (m_X8_noOfficer officer)
                have v_11 := cv_eq c_2
                have u_12 := rg_e officer
                have v_13 := no_t c_2
                have u_14 := rg_e (q.1 27 (Int32.toNatClampNeg li))
                have v_15 := cv_nle c_5
                have w_16 := hL.2.2.2.2.2
                have w_17 := hI.2.2.2.1
                have w_18 := hL.1
                have w_19 := hL.2.1 (Int32.toNatClampNeg li)
                have w_20 := ad_o n9 1
                have w_21 := (rfl : (1 : Int32).toInt = 1)
                have w_22 := hL.2.2.1 (Int32.toNatClampNeg ((64 * li) + k))
                have w_23 := hL.2.2.2.1 li k
                have w_24 := i1
                have u_3 := mu_o 64 64 li rfl
                have u_5 := ad_o (64 * li) k
                exact vp_in_iff.mpr (by omega)
              refine mm_iald (v := (q.1 26 (Int32.toNatClampNeg ((64 * li) + k)))) hx hb hK hW 26 1024 rfl b_7 ((rfl)) dX8_carry_57 ?_
              refine lv_iload_n hx hb dX8_carry_58 rfl (lv_at hl 6 rfl) ?_
              have h_8 : 0 ≤ ((q.1 26 (Int32.toNatClampNeg ((64 * li) + k))) : Int32).toInt ∧ ((q.1 26 (Int32.toNatClampNeg ((64 * li) + k))) : Int32).toInt < (q.1 12 0).toInt := by
                have k_1 : (64 : Int32).toInt = 64 := rfl
                have u_2 := rg_e li
                have u_4 := rg_e k
                have u_6 := rg_e (q.1 26 (Int32.toNatClampNeg ((64 * li) + k)))
                have u_7 := rg_e day
                have u_8 := rg_e (m_X8_noList q li)
                have k_9 : (0 : Int32).toInt = 0 := rfl
                have v_10 := cv_eq c_1
                have v_11 := nl_t hL c_1
                have u_12 := rg_e (m_X8_noOfficer officer)
                have v_13 := cv_eq c_2
                have u_14 := rg_e officer
                have v_15 := no_t c_2
                have u_16 := rg_e (q.1 27 (Int32.toNatClampNeg li))
                have v_17 := cv_nle c_5
                have w_18 := hL.2.2.2.2.2
                have w_19 := hI.2.2.2.1
                have w_20 := hL.1
                have w_21 := hL.2.1 (Int32.toNatClampNeg li)
                have w_22 := ad_o n9 1
                have w_23 := (rfl : (1 : Int32).toInt = 1)
                have w_24 := hL.2.2.1 (Int32.toNatClampNeg ((64 * li) + k))
                have w_25 := hL.2.2.2.1 li k
                have w_26 := i1
                have u_3 := mu_o 64 64 li rfl
                have u_5 := ad_o (64 * li) k
                exact by omega
              refine mm_callVi (n := 2) (As := [.int (q.1 26 (Int32.toNatClampNeg ((64 * li) + k))), .int day]) (rest := []) (r := (m_X8_mayGo q (q.1 26 (Int32.toNatClampNeg ((64 * li) + k))) day)) (q2 := q) ⟨hx, hb, hml, hown, hts⟩ (c_X8_mayGo l D b0 Pc cA ad q (q.1 26 (Int32.toNatClampNeg ((64 * li) + k))) day h_8 hI) gX8_carry_X8_mayGo rfl (by decide +kernel) rfl ⟨Nat.le_of_ble_eq_true rfl, Nat.le_of_ble_eq_true rfl⟩ ⟨Nat.le_of_ble_eq_true rfl, Nat.le_of_ble_eq_true rfl⟩ hK hW hS hl.1 rfl (Nat.le_of_ble_eq_true rfl) dX8_carry_59 (fun H locs hW hS => ?_)
              refine lv_if_eq (tgt := 72) hx hb dX8_carry_62 (by decide) (fun c_9 => ?_) (fun c_9 => ?_)
              · refine lv_iload hx hb dX8_carry_72 (lv_at hl 0 rfl) ?_
                have e_10 : ((if (m_X8_mayGo q (q.1 26 (Int32.toNatClampNeg ((64 * li) + k))) day) = 0 then n9 else (n9 + 1)) : Int32) = n9 := by rw [if_pos c_9]
                exact hj _ _ _ e_10 ⟨hW, hS⟩
              · refine lv_iload hx hb dX8_carry_65 (lv_at hl 0 rfl) ?_
                refine lv_iconst (v := 1) hx hb dX8_carry_67 (by decide) ?_
                refine lv_iadd hx hb dX8_carry_68 ?_
                refine lv_goto (tgt := 74) hx hb dX8_carry_69 (by decide) ?_
                have e_11 : ((if (m_X8_mayGo q (q.1 26 (Int32.toNatClampNeg ((64 * li) + k))) day) = 0 then n9 else (n9 + 1)) : Int32) = (n9 + 1) := by rw [if_neg c_9]
                exact hj _ _ _ e_11 ⟨hW, hS⟩
      have h_16 : 0 ≤ (0 : Int32).toInt ∧ (0 : Int32).toInt ≤ 64 ∧ 0 ≤ (0 : Int32).toInt ∧ (0 : Int32).toInt ≤ (0 : Int32).toInt := by
        have k_1 : (0 : Int32).toInt = 0 := rfl
        have u_2 := rg_e (m_X8_noList q li)
        have v_3 := cv_eq c_1
        have u_4 := rg_e li
        have v_5 := nl_t hL c_1
        have u_6 := rg_e (m_X8_noOfficer officer)
        have v_7 := cv_eq c_2
        have u_8 := rg_e officer
        have v_9 := no_t c_2
        have w_10 := hL.2.2.2.2.2
        have w_11 := hI.2.2.2.1
        have w_12 := hL.1
        have w_13 := hL.2.1 (Int32.toNatClampNeg li)
        omega
      have h_17 : 64 - (0 : Int32).toInt < ((66 : Nat) : Int) := by
        have k_1 : (0 : Int32).toInt = 0 := rfl
        have u_2 := rg_e (m_X8_noList q li)
        have v_3 := cv_eq c_1
        have u_4 := rg_e li
        have v_5 := nl_t hL c_1
        have u_6 := rg_e (m_X8_noOfficer officer)
        have v_7 := cv_eq c_2
        have u_8 := rg_e officer
        have v_9 := no_t c_2
        have w_10 := hL.2.2.2.2.2
        have w_11 := hI.2.2.2.1
        have w_12 := hL.1
        have w_13 := hL.2.1 (Int32.toNatClampNeg li)
        omega
      refine lp_15 _ 66 0 0 h_16 h_17 (fun o_3 eo_3 ho_3 H locs hW hS ls hl => ?_) _ _ hW hS ls (lv_sub hl [1, 0, 2, 3, 4, 5, 6] rfl)
      refine lv_aload_n hx hb dX8_carry_82 rfl (lv_at hl 2 rfl) ?_
      refine lv_iload hx hb dX8_carry_83 (lv_at hl 1 rfl) ?_
      refine lv_if_ne (tgt := 92) hx hb dX8_carry_85 (by decide) (fun _ => ?_) (fun h => absurd h (by decide))
      refine lv_aload_n hx hb dX8_carry_92 rfl (lv_at hl 2 rfl) ?_
      refine lv_iload_n hx hb dX8_carry_93 rfl (lv_at hl 5 rfl) ?_
      refine mm_callVi (n := 1) (As := [.int day]) (rest := [.ref (ad 20 0)]) (r := (m_X8_isDay q day)) (q2 := q) ⟨hx, hb, hml, hown, hts⟩ (c_X8_isDay l D b0 Pc cA ad q day) gX8_carry_X8_isDay rfl (by decide +kernel) rfl ⟨Nat.le_of_ble_eq_true rfl, Nat.le_of_ble_eq_true rfl⟩ ⟨Nat.le_of_ble_eq_true rfl, Nat.le_of_ble_eq_true rfl⟩ hK hW hS hl.1 rfl (Nat.le_of_ble_eq_true rfl) dX8_carry_94 (fun H locs hW hS => ?_)
      refine lv_if_ne (tgt := 104) hx hb dX8_carry_97 (by decide) (fun c_18 => ?_) (fun c_18 => ?_)
      · refine lv_aload_n hx hb dX8_carry_104 rfl (lv_at hl 2 rfl) ?_
        refine mm_get (v := .ref (ad 21 30)) hx hb hts hin hown hK hW 30 (by decide) (List.mem_of_getElem? (i := 3) rfl) rfl rfl dX8_carry_105 ?_
        refine lv_iload_n hx hb dX8_carry_108 rfl (lv_at hl 3 rfl) ?_
        have b_19 : vp_in li 16 := by
          have u_1 := rg_e li
          have u_2 := rg_e (m_X8_noList q li)
          have k_3 : (0 : Int32).toInt = 0 := rfl
          have v_4 := cv_eq c_1
          have v_5 := nl_t hL c_1
          have u_6 := rg_e (m_X8_noOfficer officer)
          have v_7 := cv_eq c_2
          have u_8 := rg_e officer
          have v_9 := no_t c_2
          have u_10 := rg_e (m_X8_isDay q day)
          have v_11 := cv_ne c_18
          have u_12 := rg_e day
          have v_13 := dy_t c_18
          have w_14 := hL.2.2.2.2.2
          have w_15 := hI.2.2.2.1
          have w_16 := hL.1
          have w_17 := hL.2.1 (Int32.toNatClampNeg li)
          have w_18 := ho_3
          exact vp_in_iff.mpr (by omega)
        refine mm_zald (v := (q.1 30 (Int32.toNatClampNeg li))) hx hb hK hW 30 16 rfl b_19 ((rfl)) dX8_carry_109 ?_
        refine lv_if_ne (tgt := 146) hx hb dX8_carry_110 (by decide) (fun c_20 => ?_) (fun c_20 => ?_)
        · refine lv_iconst (v := 3) hx hb dX8_carry_146 (by decide) ?_
          refine lv_goto (tgt := 151) hx hb dX8_carry_147 (by decide) ?_
          refine mm_put hx hb hts hin hown hK hW hS 0 (by decide) (List.mem_of_getElem? (i := 5) rfl) rfl rfl (by decide +kernel) rfl (ws_0 ad _ _) dX8_carry_151 (fun H locs hW hS => ?_)
          refine lv_aload_n hx hb dX8_carry_154 rfl (lv_at hl 2 rfl) ?_
          refine mm_gets (v := 3) hx hb hts hin hown hK hW 0 (by decide) (List.mem_of_getElem? (i := 5) rfl) rfl rfl (mq_same q 0 0 3) dX8_carry_155 ?_
          refine lv_if_le (tgt := 163) hx hb dX8_carry_158 (by decide) (fun h => absurd h (by decide)) (fun _ => ?_)
          refine lv_iconst (v := 0) hx hb dX8_carry_161 (by decide) ?_
          exact mm_iret hx hb hr hlk hK hW hS (by rw [m_X8_carry, if_pos c_1, if_pos c_2, ← eo_3, if_neg c_18, if_neg c_20]) dX8_carry_162
        · refine lv_aload_n hx hb dX8_carry_113 rfl (lv_at hl 2 rfl) ?_
          refine mm_get (v := .ref (ad 21 29)) hx hb hts hin hown hK hW 29 (by decide) (List.mem_of_getElem? (i := 4) rfl) rfl rfl dX8_carry_114 ?_
          refine lv_iload_n hx hb dX8_carry_117 rfl (lv_at hl 3 rfl) ?_
          have b_21 : vp_in li 16 := by
            have u_1 := rg_e li
            have u_2 := rg_e (m_X8_noList q li)
            have k_3 : (0 : Int32).toInt = 0 := rfl
            have v_4 := cv_eq c_1
            have v_5 := nl_t hL c_1
            have u_6 := rg_e (m_X8_noOfficer officer)
            have v_7 := cv_eq c_2
            have u_8 := rg_e officer
            have v_9 := no_t c_2
            have u_10 := rg_e (m_X8_isDay q day)
            have v_11 := cv_ne c_18
            have u_12 := rg_e day
            have v_13 := dy_t c_18
            have u_14 := rg_e (q.1 30 (Int32.toNatClampNeg li))
            have v_15 := cv_eq c_20
            have w_16 := hL.2.2.2.2.2
            have w_17 := hI.2.2.2.1
            have w_18 := hL.1
            have w_19 := hL.2.1 (Int32.toNatClampNeg li)
            have w_20 := ho_3
            exact vp_in_iff.mpr (by omega)
          refine mm_iald (v := (q.1 29 (Int32.toNatClampNeg li))) hx hb hK hW 29 16 rfl b_21 ((rfl)) dX8_carry_118 ?_
          refine mm_callSi (n := 1) (As := [.int (q.1 29 (Int32.toNatClampNeg li))]) (rest := [.ref (ad 20 0)]) (r := (m_X8_bits (q.1 29 (Int32.toNatClampNeg li)))) (q2 := q) ⟨hx, hb, hml, hown, hts⟩ (c_X8_bits l D b0 Pc cA ad q (q.1 29 (Int32.toNatClampNeg li))) gX8_carry_X8_bits rfl (by decide +kernel) rfl ⟨Nat.le_of_ble_eq_true rfl, Nat.le_of_ble_eq_true rfl⟩ ⟨Nat.le_of_ble_eq_true rfl, Nat.le_of_ble_eq_true rfl⟩ hK hW hS hl.1 rfl (Nat.le_of_ble_eq_true rfl) dX8_carry_119 (fun H locs hW hS => ?_)
          refine lv_iconst (v := 2) hx hb dX8_carry_122 (by decide) ?_
          refine lv_icmp_lt (tgt := 146) hx hb dX8_carry_123 (by decide) (fun c_22 => ?_) (fun c_22 => ?_)
          · refine lv_iconst (v := 3) hx hb dX8_carry_146 (by decide) ?_
            refine lv_goto (tgt := 151) hx hb dX8_carry_147 (by decide) ?_
            refine mm_put hx hb hts hin hown hK hW hS 0 (by decide) (List.mem_of_getElem? (i := 5) rfl) rfl rfl (by decide +kernel) rfl (ws_0 ad _ _) dX8_carry_151 (fun H locs hW hS => ?_)
            refine lv_aload_n hx hb dX8_carry_154 rfl (lv_at hl 2 rfl) ?_
            refine mm_gets (v := 3) hx hb hts hin hown hK hW 0 (by decide) (List.mem_of_getElem? (i := 5) rfl) rfl rfl (mq_same q 0 0 3) dX8_carry_155 ?_
            refine lv_if_le (tgt := 163) hx hb dX8_carry_158 (by decide) (fun h => absurd h (by decide)) (fun _ => ?_)
            refine lv_iconst (v := 0) hx hb dX8_carry_161 (by decide) ?_
            exact mm_iret hx hb hr hlk hK hW hS (by rw [m_X8_carry, if_pos c_1, if_pos c_2, ← eo_3, if_neg c_18, if_pos c_20, if_pos c_22]) dX8_carry_162
          · refine lv_aload_n hx hb dX8_carry_126 rfl (lv_at hl 2 rfl) ?_
            refine lv_iload_n hx hb dX8_carry_127 rfl (lv_at hl 4 rfl) ?_
            refine lv_iconst (v := 4) hx hb dX8_carry_128 (by decide) ?_
            have h_23 : 0 ≤ (officer : Int32).toInt ∧ (officer : Int32).toInt ≤ 7 := by
              have u_1 := rg_e officer
              have k_2 : (4 : Int32).toInt = 4 := rfl
              have u_3 := rg_e (m_X8_noList q li)
              have k_4 : (0 : Int32).toInt = 0 := rfl
              have v_5 := cv_eq c_1
              have u_6 := rg_e li
              have v_7 := nl_t hL c_1
              have u_8 := rg_e (m_X8_noOfficer officer)
              have v_9 := cv_eq c_2
              have v_10 := no_t c_2
              have u_11 := rg_e (m_X8_isDay q day)
              have v_12 := cv_ne c_18
              have u_13 := rg_e day
              have v_14 := dy_t c_18
              have u_15 := rg_e (q.1 30 (Int32.toNatClampNeg li))
              have v_16 := cv_eq c_20
              have u_17 := rg_e (m_X8_bits (q.1 29 (Int32.toNatClampNeg li)))
              have k_18 : (2 : Int32).toInt = 2 := rfl
              have v_19 := cv_nlt c_22
              have w_20 := hL.2.2.2.2.2
              have w_21 := hI.2.2.2.1
              have w_22 := hL.1
              have w_23 := hL.2.1 (Int32.toNatClampNeg li)
              have w_24 := ho_3
              exact by omega
            refine mm_callVi (n := 2) (As := [.int officer, .int 4]) (rest := [.ref (ad 20 0)]) (r := (m_X8_hasRight q officer 4)) (q2 := q) ⟨hx, hb, hml, hown, hts⟩ (c_X8_hasRight l D b0 Pc cA ad q officer 4 h_23) gX8_carry_X8_hasRight rfl (by decide +kernel) rfl ⟨Nat.le_of_ble_eq_true rfl, Nat.le_of_ble_eq_true rfl⟩ ⟨Nat.le_of_ble_eq_true rfl, Nat.le_of_ble_eq_true rfl⟩ hK hW hS hl.1 rfl (Nat.le_of_ble_eq_true rfl) dX8_carry_129 (fun H locs hW hS => ?_)
            refine lv_if_eq (tgt := 146) hx hb dX8_carry_132 (by decide) (fun c_24 => ?_) (fun c_24 => ?_)
            · refine lv_iconst (v := 3) hx hb dX8_carry_146 (by decide) ?_
              refine lv_goto (tgt := 151) hx hb dX8_carry_147 (by decide) ?_
              refine mm_put hx hb hts hin hown hK hW hS 0 (by decide) (List.mem_of_getElem? (i := 5) rfl) rfl rfl (by decide +kernel) rfl (ws_0 ad _ _) dX8_carry_151 (fun H locs hW hS => ?_)
              refine lv_aload_n hx hb dX8_carry_154 rfl (lv_at hl 2 rfl) ?_
              refine mm_gets (v := 3) hx hb hts hin hown hK hW 0 (by decide) (List.mem_of_getElem? (i := 5) rfl) rfl rfl (mq_same q 0 0 3) dX8_carry_155 ?_
              refine lv_if_le (tgt := 163) hx hb dX8_carry_158 (by decide) (fun h => absurd h (by decide)) (fun _ => ?_)
              refine lv_iconst (v := 0) hx hb dX8_carry_161 (by decide) ?_
              exact mm_iret hx hb hr hlk hK hW hS (by rw [m_X8_carry, if_pos c_1, if_pos c_2, ← eo_3, if_neg c_18, if_pos c_20, if_neg c_22, if_pos c_24]) dX8_carry_162
            · refine lv_aload_n hx hb dX8_carry_135 rfl (lv_at hl 2 rfl) ?_
              refine lv_iload hx hb dX8_carry_136 (lv_at hl 0 rfl) ?_
              refine lv_iconst (v := 1) hx hb dX8_carry_138 (by decide) ?_
              refine lv_iadd hx hb dX8_carry_139 ?_
              refine mm_callVi (n := 1) (As := [.int (o_3 + 1)]) (rest := [.ref (ad 20 0)]) (r := (m_X8_hasRoom q (o_3 + 1))) (q2 := q) ⟨hx, hb, hml, hown, hts⟩ (c_X8_hasRoom l D b0 Pc cA ad q (o_3 + 1)) gX8_carry_X8_hasRoom rfl (by decide +kernel) rfl ⟨Nat.le_of_ble_eq_true rfl, Nat.le_of_ble_eq_true rfl⟩ ⟨Nat.le_of_ble_eq_true rfl, Nat.le_of_ble_eq_true rfl⟩ hK hW hS hl.1 rfl (Nat.le_of_ble_eq_true rfl) dX8_carry_140 (fun H locs hW hS => ?_)
              refine lv_if_ne (tgt := 150) hx hb dX8_carry_143 (by decide) (fun c_25 => ?_) (fun c_25 => ?_)
              · refine lv_iconst (v := 0) hx hb dX8_carry_150 (by decide) ?_
                refine mm_put hx hb hts hin hown hK hW hS 0 (by decide) (List.mem_of_getElem? (i := 5) rfl) rfl rfl (by decide +kernel) rfl (ws_0 ad _ _) dX8_carry_151 (fun H locs hW hS => ?_)
                refine lv_aload_n hx hb dX8_carry_154 rfl (lv_at hl 2 rfl) ?_
                refine mm_gets (v := 0) hx hb hts hin hown hK hW 0 (by decide) (List.mem_of_getElem? (i := 5) rfl) rfl rfl (mq_same q 0 0 0) dX8_carry_155 ?_
                refine lv_if_le (tgt := 163) hx hb dX8_carry_158 (by decide) (fun _ => ?_) (fun h => absurd h (by decide))
                refine lv_aload_n hx hb dX8_carry_163 rfl (lv_at hl 2 rfl) ?_
                refine mm_get (v := .ref (ad 21 30)) hx hb hts hin hown hK hW 30 (by decide) (List.mem_of_getElem? (i := 3) rfl) rfl rfl dX8_carry_164 ?_
                refine lv_iload_n hx hb dX8_carry_167 rfl (lv_at hl 3 rfl) ?_
                refine lv_iconst (v := 1) hx hb dX8_carry_168 (by decide) ?_
                have b_26 : vp_in li 16 := by
                  have u_1 := rg_e li
                  have u_2 := rg_e (m_X8_noList q li)
                  have k_3 : (0 : Int32).toInt = 0 := rfl
                  have v_4 := cv_eq c_1
                  have v_5 := nl_t hL c_1
                  have u_6 := rg_e (m_X8_noOfficer officer)
                  have v_7 := cv_eq c_2
                  have u_8 := rg_e officer
                  have v_9 := no_t c_2
                  have u_10 := rg_e (m_X8_isDay q day)
                  have v_11 := cv_ne c_18
                  have u_12 := rg_e day
                  have v_13 := dy_t c_18
                  have u_14 := rg_e (q.1 30 (Int32.toNatClampNeg li))
                  have v_15 := cv_eq c_20
                  have u_16 := rg_e (m_X8_bits (q.1 29 (Int32.toNatClampNeg li)))
                  have k_17 : (2 : Int32).toInt = 2 := rfl
                  have v_18 := cv_nlt c_22
                  have u_19 := rg_e (m_X8_hasRight q officer 4)
                  have v_20 := cv_ne c_24
                  have u_21 := rg_e (m_X8_hasRoom q (o_3 + 1))
                  have v_22 := cv_ne c_25
                  have u_23 := rg_e o_3
                  have k_24 : (1 : Int32).toInt = 1 := rfl
                  have v_26 := hr_t c_25
                  have w_27 := hL.2.2.2.2.2
                  have w_28 := hI.2.2.2.1
                  have w_29 := hL.1
                  have w_30 := hL.2.1 (Int32.toNatClampNeg li)
                  have w_31 := ho_3
                  have u_25 := ad_o o_3 1
                  exact vp_in_iff.mpr (by omega)
                refine mm_zast hx hb hK hW hS 30 16 rfl rfl b_26 dX8_carry_169 (fun H locs hW hS => ?_)
                refine lv_aload_n hx hb dX8_carry_170 rfl (lv_at hl 2 rfl) ?_
                refine lv_iload_n hx hb dX8_carry_171 rfl (lv_at hl 5 rfl) ?_
                refine mm_put hx hb hts hin hown hK hW hS 3 (by decide) (List.mem_of_getElem? (i := 6) rfl) rfl rfl (by decide +kernel) rfl (ws_3 ad _ _) dX8_carry_172 (fun H locs hW hS => ?_)
                refine lv_iconst (v := 0) hx hb dX8_carry_175 (by decide) ?_
                refine lv_istore (lv' := [(6, .int 0), (5, .int o_3), (4, .int 1), (0, .ref (ad 20 0)), (1, .int li), (2, .int officer), (3, .int day)]) hx hb dX8_carry_176 hl (by decide) rfl (fun ls hl => ?_)
                have lp_49 : ∀ (Q : State → Prop) (n : Nat) (k : Int32) (q1 : qM), (0 ≤ k.toInt ∧ k.toInt ≤ 64) → (gI q1) → (q1.1 27 = q.1 27 ∧ q1.1 26 = q.1 26 ∧ q1.1 12 0 = q.1 12 0) → (0 ≤ (q1.1 31 0).toInt ∧ (q1.1 31 0).toInt + cn q li day k ≤ 399) → (∀ x : Int32, m_X8_mayGo q x day = 0 → m_X8_mayGo q1 x day = 0) → 64 - k.toInt < (n : Int) → (∀ o_27 : qM, o_27 = (m_X8_carry_lp2 li day n k q1) → (((o_27).1 12 0 = q.1 12 0 ∧ (o_27).1 27 = q.1 27) ∧ 0 ≤ ((o_27).1 31 0).toInt ∧ ((o_27).1 31 0).toInt ≤ 399) → ∀ (H : Heap) (locs : List Loc), wd D (wA b0) (PW Pc cA ad o_27) ad H → va_S (wA b0) s.heap H locs → ∀ ls : Array Slot, lv_has ls 8 [(5, .int o_3), (4, .int 1), (0, .ref (ad 20 0)), (1, .int li), (2, .int officer), (3, .int day)] → W p l e { frames := 5, cells := 0, slots := 0, locals := 116 } s m [.ref (ad 20 0), .int li, .int officer, .int day].toArray below meth c H locs 0 0 Q (F0 m 237 ls [])) → ∀ (H : Heap) (locs : List Loc), wd D (wA b0) (PW Pc cA ad q1) ad H → va_S (wA b0) s.heap H locs → ∀ ls : Array Slot, lv_has ls 8 [(6, .int k), (5, .int o_3), (4, .int 1), (0, .ref (ad 20 0)), (1, .int li), (2, .int officer), (3, .int day)] → W p l e { frames := 5, cells := 0, slots := 0, locals := 116 } s m [.ref (ad 20 0), .int li, .int officer, .int day].toArray below meth c H locs 0 0 Q (F0 m 178 ls []) := by
                  intro Q n
                  induction n with
                  | zero =>
                    intro k q1 i1 i2 i3 i4 i5 hm
                    have hz : 0 ≤ 64 - k.toInt := by
                      have w_1 := hL.2.2.2.2.2
                      have w_2 := hI.2.2.2.1
                      have w_3 := hL.1
                      have w_4 := hL.2.1 (Int32.toNatClampNeg li)
                      have w_5 := ho_3
                      have w_6 := congrArg Int32.toInt (congrFun i3.1 (Int32.toNatClampNeg li))
                      have w_7 := congrArg Int32.toInt (congrFun i3.2.1 (Int32.toNatClampNeg ((64 * li) + k)))
                      have w_8 := congrArg Int32.toInt i3.2.2
                      have w_9 := i2.2.2.2.1
                      have w_10 := (rfl : (1 : Int32).toInt = 1)
                      have w_11 := hL.2.2.1 (Int32.toNatClampNeg ((64 * li) + k))
                      have w_12 := hL.2.2.2.1 li k
                      have w_13 := (fun h1 h2 => cn_nn hL li day k h1 h2)
                      have w_14 := i1
                      have w_15 := i4
                      omega
                    exact absurd hm (by omega)
                  | succ n ih =>
                    intro k q1 i1 i2 i3 i4 i5 hm kk H locs hW hS ls hl
                    refine lv_iload hx hb dX8_carry_178 (lv_at hl 0 rfl) ?_
                    refine lv_aload_n hx hb dX8_carry_180 rfl (lv_at hl 3 rfl) ?_
                    refine mm_get (v := .ref (ad 21 27)) hx hb hts hin hown hK hW 27 (by decide) (List.mem_of_getElem? (i := 1) rfl) rfl rfl dX8_carry_181 ?_
                    refine lv_iload_n hx hb dX8_carry_184 rfl (lv_at hl 4 rfl) ?_
                    have b_28 : vp_in li 16 := by
                      have u_1 := rg_e li
                      have u_2 := rg_e (m_X8_noList q li)
                      have k_3 : (0 : Int32).toInt = 0 := rfl
                      have v_4 := cv_eq c_1
                      have v_5 := nl_t hL c_1
                      have u_6 := rg_e (m_X8_noOfficer officer)
                      have v_7 := cv_eq c_2
                      have u_8 := rg_e officer
                      have v_9 := no_t c_2
                      have u_10 := rg_e (m_X8_isDay q day)
                      have v_11 := cv_ne c_18
                      have u_12 := rg_e day
                      have v_13 := dy_t c_18
                      have u_14 := rg_e (q.1 30 (Int32.toNatClampNeg li))
                      have v_15 := cv_eq c_20
                      have u_16 := rg_e (m_X8_bits (q.1 29 (Int32.toNatClampNeg li)))
                      have k_17 : (2 : Int32).toInt = 2 := rfl
                      have v_18 := cv_nlt c_22
                      have u_19 := rg_e (m_X8_hasRight q officer 4)
                      have v_20 := cv_ne c_24
                      have u_21 := rg_e (m_X8_hasRoom q (o_3 + 1))
                      have v_22 := cv_ne c_25
                      have u_23 := rg_e o_3
                      have k_24 : (1 : Int32).toInt = 1 := rfl
                      have v_26 := hr_t c_25
                      have w_27 := hL.2.2.2.2.2
                      have w_28 := hI.2.2.2.1
                      have w_29 := hL.1
                      have w_30 := hL.2.1 (Int32.toNatClampNeg li)
                      have w_31 := ho_3
                      have w_32 := congrArg Int32.toInt (congrFun i3.1 (Int32.toNatClampNeg li))
                      have w_33 := congrArg Int32.toInt (congrFun i3.2.1 (Int32.toNatClampNeg ((64 * li) + k)))
                      have w_34 := congrArg Int32.toInt i3.2.2
                      have w_35 := i2.2.2.2.1
                      have w_36 := (rfl : (1 : Int32).toInt = 1)
                      have w_37 := hL.2.2.1 (Int32.toNatClampNeg ((64 * li) + k))
                      have w_38 := hL.2.2.2.1 li k
                      have w_39 := (fun h1 h2 => cn_nn hL li day k h1 h2)
                      have w_40 := i1
                      have w_41 := i4
                      have u_25 := ad_o o_3 1
                      exact vp_in_iff.mpr (by omega)
                    refine mm_iald (v := (q1.1 27 (Int32.toNatClampNeg li))) hx hb hK hW 27 16 rfl b_28 ((rfl)) dX8_carry_185 ?_
                    refine lv_icmp_ge (tgt := 237) hx hb dX8_carry_186 (by decide) (fun c_29 => ?_) (fun c_29 => ?_)
                    · have h_30 : ((q1).1 12 0 = q.1 12 0 ∧ (q1).1 27 = q.1 27) ∧ 0 ≤ ((q1).1 31 0).toInt ∧ ((q1).1 31 0).toInt ≤ 399 := by
                        have u_1 := rg_e (m_X8_noList q li)
                        have k_2 : (0 : Int32).toInt = 0 := rfl
                        have v_3 := cv_eq c_1
                        have u_4 := rg_e li
                        have v_5 := nl_t hL c_1
                        have u_6 := rg_e (m_X8_noOfficer officer)
                        have v_7 := cv_eq c_2
                        have u_8 := rg_e officer
                        have v_9 := no_t c_2
                        have u_10 := rg_e (m_X8_isDay q day)
                        have v_11 := cv_ne c_18
                        have u_12 := rg_e day
                        have v_13 := dy_t c_18
                        have u_14 := rg_e (q.1 30 (Int32.toNatClampNeg li))
                        have v_15 := cv_eq c_20
                        have u_16 := rg_e (m_X8_bits (q.1 29 (Int32.toNatClampNeg li)))
                        have k_17 : (2 : Int32).toInt = 2 := rfl
                        have v_18 := cv_nlt c_22
                        have u_19 := rg_e (m_X8_hasRight q officer 4)
                        have v_20 := cv_ne c_24
                        have u_21 := rg_e (m_X8_hasRoom q (o_3 + 1))
                        have v_22 := cv_ne c_25
                        have u_23 := rg_e o_3
                        have k_24 : (1 : Int32).toInt = 1 := rfl
                        have v_26 := hr_t c_25
                        have u_27 := rg_e (q1.1 27 (Int32.toNatClampNeg li))
                        have u_28 := rg_e k
                        have v_29 := cv_le c_29
                        have w_30 := hL.2.2.2.2.2
                        have w_31 := hI.2.2.2.1
                        have w_32 := hL.1
                        have w_33 := hL.2.1 (Int32.toNatClampNeg li)
                        have w_34 := ho_3
                        have w_35 := congrArg Int32.toInt (congrFun i3.1 (Int32.toNatClampNeg li))
                        have w_36 := congrArg Int32.toInt (congrFun i3.2.1 (Int32.toNatClampNeg ((64 * li) + k)))
                        have w_37 := congrArg Int32.toInt i3.2.2
                        have w_38 := i2.2.2.2.1
                        have w_39 := (rfl : (1 : Int32).toInt = 1)
                        have w_40 := hL.2.2.1 (Int32.toNatClampNeg ((64 * li) + k))
                        have w_41 := hL.2.2.2.1 li k
                        have w_42 := (fun h1 h2 => cn_nn hL li day k h1 h2)
                        have w_43 := i1
                        have w_44 := i4
                        have u_25 := ad_o o_3 1
                        exact ⟨⟨i3.2.2, i3.1⟩, by omega⟩
                      exact kk q1 (by rw [m_X8_carry_lp2, if_pos c_29]) h_30 H locs hW hS ls (lv_sub hl [1, 2, 3, 4, 5, 6] rfl)
                    · refine lv_aload_n hx hb dX8_carry_189 rfl (lv_at hl 3 rfl) ?_
                      refine mm_get (v := .ref (ad 21 26)) hx hb hts hin hown hK hW 26 (by decide) (List.mem_of_getElem? (i := 2) rfl) rfl rfl dX8_carry_190 ?_
                      refine lv_bipush (v := 64) hx hb dX8_carry_193 (by decide) ?_
                      refine lv_iload_n hx hb dX8_carry_195 rfl (lv_at hl 4 rfl) ?_
                      refine lv_imul hx hb dX8_carry_196 ?_
                      refine lv_iload hx hb dX8_carry_197 (lv_at hl 0 rfl) ?_
                      refine lv_iadd hx hb dX8_carry_199 ?_
                      have b_31 : vp_in ((64 * li) + k) 1024 := by
                        have k_1 : (64 : Int32).toInt = 64 := rfl
                        have u_2 := rg_e li
                        have u_4 := rg_e k
                        have u_6 := rg_e (m_X8_noList q li)
                        have k_7 : (0 : Int32).toInt = 0 := rfl
                        have v_8 := cv_eq c_1
                        have v_9 := nl_t hL c_1
                        have u_10 := rg_e (m_X8_noOfficer officer)
                        have v_11 := cv_eq c_2
                        have u_12 := rg_e officer
                        have v_13 := no_t c_2
                        have u_14 := rg_e (m_X8_isDay q day)
                        have v_15 := cv_ne c_18
                        have u_16 := rg_e day
                        have v_17 := dy_t c_18
                        have u_18 := rg_e (q.1 30 (Int32.toNatClampNeg li))
                        have v_19 := cv_eq c_20
                        have u_20 := rg_e (m_X8_bits (q.1 29 (Int32.toNatClampNeg li)))
                        have k_21 : (2 : Int32).toInt = 2 := rfl
                        have v_22 := cv_nlt c_22
                        have u_23 := rg_e (m_X8_hasRight q officer 4)
                        have v_24 := cv_ne c_24
                        have u_25 := rg_e (m_X8_hasRoom q (o_3 + 1))
                        have v_26 := cv_ne c_25
                        have u_27 := rg_e o_3
                        have k_28 : (1 : Int32).toInt = 1 := rfl
                        have v_30 := hr_t c_25
                        have u_31 := rg_e (q1.1 27 (Int32.toNatClampNeg li))
                        have v_32 := cv_nle c_29
                        have w_33 := hL.2.2.2.2.2
                        have w_34 := hI.2.2.2.1
                        have w_35 := hL.1
                        have w_36 := hL.2.1 (Int32.toNatClampNeg li)
                        have w_37 := ho_3
                        have w_38 := congrArg Int32.toInt (congrFun i3.1 (Int32.toNatClampNeg li))
                        have w_39 := congrArg Int32.toInt (congrFun i3.2.1 (Int32.toNatClampNeg ((64 * li) + k)))
                        have w_40 := congrArg Int32.toInt i3.2.2
                        have w_41 := i2.2.2.2.1
                        have w_42 := (rfl : (1 : Int32).toInt = 1)
                        have w_43 := hL.2.2.1 (Int32.toNatClampNeg ((64 * li) + k))
                        have w_44 := hL.2.2.2.1 li k
                        have w_45 := (fun h1 h2 => cn_nn hL li day k h1 h2)
                        have w_46 := i1
                        have w_47 := i4
                        have u_3 := mu_o 64 64 li rfl
                        have u_5 := ad_o (64 * li) k
                        have u_29 := ad_o o_3 1
                        exact vp_in_iff.mpr (by omega)
                      refine mm_iald (v := (q1.1 26 (Int32.toNatClampNeg ((64 * li) + k)))) hx hb hK hW 26 1024 rfl b_31 ((rfl)) dX8_carry_200 ?_
                      refine lv_istore (lv' := [(7, .int (q1.1 26 (Int32.toNatClampNeg ((64 * li) + k)))), (6, .int k), (5, .int o_3), (4, .int 1), (0, .ref (ad 20 0)), (1, .int li), (2, .int officer), (3, .int day)]) hx hb dX8_carry_201 hl (by decide) rfl (fun ls hl => ?_)
                      refine lv_aload_n hx hb dX8_carry_203 rfl (lv_at hl 4 rfl) ?_
                      refine lv_iload hx hb dX8_carry_204 (lv_at hl 0 rfl) ?_
                      refine lv_iload_n hx hb dX8_carry_206 rfl (lv_at hl 7 rfl) ?_
                      have h_32 : 0 ≤ ((q1.1 26 (Int32.toNatClampNeg ((64 * li) + k))) : Int32).toInt ∧ ((q1.1 26 (Int32.toNatClampNeg ((64 * li) + k))) : Int32).toInt < (q1.1 12 0).toInt := by
                        have k_1 : (64 : Int32).toInt = 64 := rfl
                        have u_2 := rg_e li
                        have u_4 := rg_e k
                        have u_6 := rg_e (q1.1 26 (Int32.toNatClampNeg ((64 * li) + k)))
                        have u_7 := rg_e day
                        have u_8 := rg_e (m_X8_noList q li)
                        have k_9 : (0 : Int32).toInt = 0 := rfl
                        have v_10 := cv_eq c_1
                        have v_11 := nl_t hL c_1
                        have u_12 := rg_e (m_X8_noOfficer officer)
                        have v_13 := cv_eq c_2
                        have u_14 := rg_e officer
                        have v_15 := no_t c_2
                        have u_16 := rg_e (m_X8_isDay q day)
                        have v_17 := cv_ne c_18
                        have v_18 := dy_t c_18
                        have u_19 := rg_e (q.1 30 (Int32.toNatClampNeg li))
                        have v_20 := cv_eq c_20
                        have u_21 := rg_e (m_X8_bits (q.1 29 (Int32.toNatClampNeg li)))
                        have k_22 : (2 : Int32).toInt = 2 := rfl
                        have v_23 := cv_nlt c_22
                        have u_24 := rg_e (m_X8_hasRight q officer 4)
                        have v_25 := cv_ne c_24
                        have u_26 := rg_e (m_X8_hasRoom q (o_3 + 1))
                        have v_27 := cv_ne c_25
                        have u_28 := rg_e o_3
                        have k_29 : (1 : Int32).toInt = 1 := rfl
                        have v_31 := hr_t c_25
                        have u_32 := rg_e (q1.1 27 (Int32.toNatClampNeg li))
                        have v_33 := cv_nle c_29
                        have w_34 := hL.2.2.2.2.2
                        have w_35 := hI.2.2.2.1
                        have w_36 := hL.1
                        have w_37 := hL.2.1 (Int32.toNatClampNeg li)
                        have w_38 := ho_3
                        have w_39 := congrArg Int32.toInt (congrFun i3.1 (Int32.toNatClampNeg li))
                        have w_40 := congrArg Int32.toInt (congrFun i3.2.1 (Int32.toNatClampNeg ((64 * li) + k)))
                        have w_41 := congrArg Int32.toInt i3.2.2
                        have w_42 := i2.2.2.2.1
                        have w_43 := (rfl : (1 : Int32).toInt = 1)
                        have w_44 := hL.2.2.1 (Int32.toNatClampNeg ((64 * li) + k))
                        have w_45 := hL.2.2.2.1 li k
                        have w_46 := (fun h1 h2 => cn_nn hL li day k h1 h2)
                        have w_47 := i1
                        have w_48 := i4
                        have u_3 := mu_o 64 64 li rfl
                        have u_5 := ad_o (64 * li) k
                        have u_30 := ad_o o_3 1
                        exact by omega
                      refine mm_callVi (n := 2) (As := [.int (q1.1 26 (Int32.toNatClampNeg ((64 * li) + k))), .int day]) (rest := []) (r := (m_X8_mayGo q1 (q1.1 26 (Int32.toNatClampNeg ((64 * li) + k))) day)) (q2 := q1) ⟨hx, hb, hml, hown, hts⟩ (c_X8_mayGo l D b0 Pc cA ad q1 (q1.1 26 (Int32.toNatClampNeg ((64 * li) + k))) day h_32 i2) gX8_carry_X8_mayGo rfl (by decide +kernel) rfl ⟨Nat.le_of_ble_eq_true rfl, Nat.le_of_ble_eq_true rfl⟩ ⟨Nat.le_of_ble_eq_true rfl, Nat.le_of_ble_eq_true rfl⟩ hK hW hS hl.1 rfl (Nat.le_of_ble_eq_true rfl) dX8_carry_207 (fun H locs hW hS => ?_)
                      refine lv_if_eq (tgt := 231) hx hb dX8_carry_210 (by decide) (fun c_33 => ?_) (fun c_33 => ?_)
                      · refine lv_iinc (v := (k + 1)) (lv' := [(6, .int (k + 1)), (7, .int (q1.1 26 (Int32.toNatClampNeg ((64 * li) + k)))), (5, .int o_3), (4, .int 1), (0, .ref (ad 20 0)), (1, .int li), (2, .int officer), (3, .int day)]) hx hb dX8_carry_231 hl (k := 1) rfl (by first | rfl | decide) (by decide) rfl (fun ls hl => ?_)
                        refine lv_goto (tgt := 178) hx hb dX8_carry_234 (by decide) ?_
                        have h_34 : 0 ≤ (k + 1).toInt ∧ (k + 1).toInt ≤ 64 := by
                          have u_1 := rg_e k
                          have k_2 : (1 : Int32).toInt = 1 := rfl
                          have u_4 := rg_e (m_X8_noList q li)
                          have k_5 : (0 : Int32).toInt = 0 := rfl
                          have v_6 := cv_eq c_1
                          have u_7 := rg_e li
                          have v_8 := nl_t hL c_1
                          have u_9 := rg_e (m_X8_noOfficer officer)
                          have v_10 := cv_eq c_2
                          have u_11 := rg_e officer
                          have v_12 := no_t c_2
                          have u_13 := rg_e (m_X8_isDay q day)
                          have v_14 := cv_ne c_18
                          have u_15 := rg_e day
                          have v_16 := dy_t c_18
                          have u_17 := rg_e (q.1 30 (Int32.toNatClampNeg li))
                          have v_18 := cv_eq c_20
                          have u_19 := rg_e (m_X8_bits (q.1 29 (Int32.toNatClampNeg li)))
                          have k_20 : (2 : Int32).toInt = 2 := rfl
                          have v_21 := cv_nlt c_22
                          have u_22 := rg_e (m_X8_hasRight q officer 4)
                          have v_23 := cv_ne c_24
                          have u_24 := rg_e (m_X8_hasRoom q (o_3 + 1))
                          have v_25 := cv_ne c_25
                          have u_26 := rg_e o_3
                          have v_28 := hr_t c_25
                          have u_29 := rg_e (q1.1 27 (Int32.toNatClampNeg li))
                          have v_30 := cv_nle c_29
                          have u_31 := rg_e (m_X8_mayGo q1 (q1.1 26 (Int32.toNatClampNeg ((64 * li) + k))) day)
                          have v_32 := cv_eq c_33
                          have w_33 := hL.2.2.2.2.2
                          have w_34 := hI.2.2.2.1
                          have w_35 := hL.1
                          have w_36 := hL.2.1 (Int32.toNatClampNeg li)
                          have w_37 := ho_3
                          have w_38 := congrArg Int32.toInt (congrFun i3.1 (Int32.toNatClampNeg li))
                          have w_39 := congrArg Int32.toInt (congrFun i3.2.1 (Int32.toNatClampNeg ((64 * li) + k)))
                          have w_40 := congrArg Int32.toInt i3.2.2
                          have w_41 := i2.2.2.2.1
                          have w_42 := (rfl : (1 : Int32).toInt = 1)
                          have w_43 := hL.2.2.1 (Int32.toNatClampNeg ((64 * li) + k))
                          have w_44 := hL.2.2.2.1 li k
                          have w_45 := (fun h1 h2 => cn_nn hL li day k h1 h2)
                          have w_46 := i1
                          have w_47 := i4
                          have u_3 := ad_o k 1
                          have u_27 := ad_o o_3 1
                          omega
                        have h_35 : gI q1 := i2
                        have h_36 : q1.1 27 = q.1 27 ∧ q1.1 26 = q.1 26 ∧ q1.1 12 0 = q.1 12 0 := i3
                        have h_37 : 0 ≤ (q1.1 31 0).toInt ∧ (q1.1 31 0).toInt + cn q li day (k + 1) ≤ 399 := by
                          have u_1 := rg_e k
                          have k_2 : (1 : Int32).toInt = 1 := rfl
                          have u_4 := rg_e (m_X8_noList q li)
                          have k_5 : (0 : Int32).toInt = 0 := rfl
                          have v_6 := cv_eq c_1
                          have u_7 := rg_e li
                          have v_8 := nl_t hL c_1
                          have u_9 := rg_e (m_X8_noOfficer officer)
                          have v_10 := cv_eq c_2
                          have u_11 := rg_e officer
                          have v_12 := no_t c_2
                          have u_13 := rg_e (m_X8_isDay q day)
                          have v_14 := cv_ne c_18
                          have u_15 := rg_e day
                          have v_16 := dy_t c_18
                          have u_17 := rg_e (q.1 30 (Int32.toNatClampNeg li))
                          have v_18 := cv_eq c_20
                          have u_19 := rg_e (m_X8_bits (q.1 29 (Int32.toNatClampNeg li)))
                          have k_20 : (2 : Int32).toInt = 2 := rfl
                          have v_21 := cv_nlt c_22
                          have u_22 := rg_e (m_X8_hasRight q officer 4)
                          have v_23 := cv_ne c_24
                          have u_24 := rg_e (m_X8_hasRoom q (o_3 + 1))
                          have v_25 := cv_ne c_25
                          have u_26 := rg_e o_3
                          have v_28 := hr_t c_25
                          have u_29 := rg_e (q1.1 27 (Int32.toNatClampNeg li))
                          have v_30 := cv_nle c_29
                          have u_31 := rg_e (m_X8_mayGo q1 (q1.1 26 (Int32.toNatClampNeg ((64 * li) + k))) day)
                          have v_32 := cv_eq c_33
                          have w_33 := hL.2.2.2.2.2
                          have w_34 := hI.2.2.2.1
                          have w_35 := hL.1
                          have w_36 := hL.2.1 (Int32.toNatClampNeg li)
                          have w_37 := ho_3
                          have w_38 := congrArg Int32.toInt (congrFun i3.1 (Int32.toNatClampNeg li))
                          have w_39 := congrArg Int32.toInt (congrFun i3.2.1 (Int32.toNatClampNeg ((64 * li) + k)))
                          have w_40 := congrArg Int32.toInt i3.2.2
                          have w_41 := i2.2.2.2.1
                          have w_42 := (rfl : (1 : Int32).toInt = 1)
                          have w_43 := hL.2.2.1 (Int32.toNatClampNeg ((64 * li) + k))
                          have w_44 := hL.2.2.2.1 li k
                          have w_45 := (fun h1 h2 => cn_nn hL li day k h1 h2)
                          have w_46 := i1
                          have w_47 := i4
                          have u_3 := ad_o k 1
                          have u_27 := ad_o o_3 1
                          have e9 := cn_step hL li day k i1.1 (by rw [← i3.1]; exact c_29); split at e9 <;> omega
                        have h_38 : ∀ x : Int32, m_X8_mayGo q x day = 0 → m_X8_mayGo q1 x day = 0 := i5
                        have h_39 : 64 - (k + 1).toInt < (n : Int) := by
                          have u_1 := rg_e k
                          have k_2 : (1 : Int32).toInt = 1 := rfl
                          have u_4 := rg_e (m_X8_noList q li)
                          have k_5 : (0 : Int32).toInt = 0 := rfl
                          have v_6 := cv_eq c_1
                          have u_7 := rg_e li
                          have v_8 := nl_t hL c_1
                          have u_9 := rg_e (m_X8_noOfficer officer)
                          have v_10 := cv_eq c_2
                          have u_11 := rg_e officer
                          have v_12 := no_t c_2
                          have u_13 := rg_e (m_X8_isDay q day)
                          have v_14 := cv_ne c_18
                          have u_15 := rg_e day
                          have v_16 := dy_t c_18
                          have u_17 := rg_e (q.1 30 (Int32.toNatClampNeg li))
                          have v_18 := cv_eq c_20
                          have u_19 := rg_e (m_X8_bits (q.1 29 (Int32.toNatClampNeg li)))
                          have k_20 : (2 : Int32).toInt = 2 := rfl
                          have v_21 := cv_nlt c_22
                          have u_22 := rg_e (m_X8_hasRight q officer 4)
                          have v_23 := cv_ne c_24
                          have u_24 := rg_e (m_X8_hasRoom q (o_3 + 1))
                          have v_25 := cv_ne c_25
                          have u_26 := rg_e o_3
                          have v_28 := hr_t c_25
                          have u_29 := rg_e (q1.1 27 (Int32.toNatClampNeg li))
                          have v_30 := cv_nle c_29
                          have u_31 := rg_e (m_X8_mayGo q1 (q1.1 26 (Int32.toNatClampNeg ((64 * li) + k))) day)
                          have v_32 := cv_eq c_33
                          have w_33 := hL.2.2.2.2.2
                          have w_34 := hI.2.2.2.1
                          have w_35 := hL.1
                          have w_36 := hL.2.1 (Int32.toNatClampNeg li)
                          have w_37 := ho_3
                          have w_38 := congrArg Int32.toInt (congrFun i3.1 (Int32.toNatClampNeg li))
                          have w_39 := congrArg Int32.toInt (congrFun i3.2.1 (Int32.toNatClampNeg ((64 * li) + k)))
                          have w_40 := congrArg Int32.toInt i3.2.2
                          have w_41 := i2.2.2.2.1
                          have w_42 := (rfl : (1 : Int32).toInt = 1)
                          have w_43 := hL.2.2.1 (Int32.toNatClampNeg ((64 * li) + k))
                          have w_44 := hL.2.2.2.1 li k
                          have w_45 := (fun h1 h2 => cn_nn hL li day k h1 h2)
                          have w_46 := i1
                          have w_47 := i4
                          have w_48 := hm
                          have u_3 := ad_o k 1
                          have u_27 := ad_o o_3 1
                          omega
                        exact ih (k + 1) q1 h_34 h_35 h_36 h_37 h_38 h_39 (fun o_27 eo_27 => kk o_27 (eo_27.trans (by rw [m_X8_carry_lp2, if_neg c_29, if_pos c_33]))) _ _ hW hS ls (lv_sub hl [0, 2, 3, 4, 5, 6, 7] rfl)
                      · refine lv_aload_n hx hb dX8_carry_213 rfl (lv_at hl 4 rfl) ?_
                        refine mm_get (v := .ref (ad 21 18)) hx hb hts hin hown hK hW 18 (by decide) (List.mem_of_getElem? (i := 7) rfl) rfl rfl dX8_carry_214 ?_
                        refine lv_iload hx hb dX8_carry_217 (lv_at hl 0 rfl) ?_
                        refine lv_iconst (v := 1) hx hb dX8_carry_219 (by decide) ?_
                        have b_40 : vp_in (q1.1 26 (Int32.toNatClampNeg ((64 * li) + k))) 64 := by
                          have k_1 : (64 : Int32).toInt = 64 := rfl
                          have u_2 := rg_e li
                          have u_4 := rg_e k
                          have u_6 := rg_e (q1.1 26 (Int32.toNatClampNeg ((64 * li) + k)))
                          have u_7 := rg_e (m_X8_noList q li)
                          have k_8 : (0 : Int32).toInt = 0 := rfl
                          have v_9 := cv_eq c_1
                          have v_10 := nl_t hL c_1
                          have u_11 := rg_e (m_X8_noOfficer officer)
                          have v_12 := cv_eq c_2
                          have u_13 := rg_e officer
                          have v_14 := no_t c_2
                          have u_15 := rg_e (m_X8_isDay q day)
                          have v_16 := cv_ne c_18
                          have u_17 := rg_e day
                          have v_18 := dy_t c_18
                          have u_19 := rg_e (q.1 30 (Int32.toNatClampNeg li))
                          have v_20 := cv_eq c_20
                          have u_21 := rg_e (m_X8_bits (q.1 29 (Int32.toNatClampNeg li)))
                          have k_22 : (2 : Int32).toInt = 2 := rfl
                          have v_23 := cv_nlt c_22
                          have u_24 := rg_e (m_X8_hasRight q officer 4)
                          have v_25 := cv_ne c_24
                          have u_26 := rg_e (m_X8_hasRoom q (o_3 + 1))
                          have v_27 := cv_ne c_25
                          have u_28 := rg_e o_3
                          have k_29 : (1 : Int32).toInt = 1 := rfl
                          have v_31 := hr_t c_25
                          have u_32 := rg_e (q1.1 27 (Int32.toNatClampNeg li))
                          have v_33 := cv_nle c_29
                          have u_34 := rg_e (m_X8_mayGo q1 (q1.1 26 (Int32.toNatClampNeg ((64 * li) + k))) day)
                          have v_35 := cv_ne c_33
                          have w_36 := hL.2.2.2.2.2
                          have w_37 := hI.2.2.2.1
                          have w_38 := hL.1
                          have w_39 := hL.2.1 (Int32.toNatClampNeg li)
                          have w_40 := ho_3
                          have w_41 := congrArg Int32.toInt (congrFun i3.1 (Int32.toNatClampNeg li))
                          have w_42 := congrArg Int32.toInt (congrFun i3.2.1 (Int32.toNatClampNeg ((64 * li) + k)))
                          have w_43 := congrArg Int32.toInt i3.2.2
                          have w_44 := i2.2.2.2.1
                          have w_45 := (rfl : (1 : Int32).toInt = 1)
                          have w_46 := hL.2.2.1 (Int32.toNatClampNeg ((64 * li) + k))
                          have w_47 := hL.2.2.2.1 li k
                          have w_48 := (fun h1 h2 => cn_nn hL li day k h1 h2)
                          have w_49 := i1
                          have w_50 := i4
                          have u_3 := mu_o 64 64 li rfl
                          have u_5 := ad_o (64 * li) k
                          have u_30 := ad_o o_3 1
                          exact vp_in_iff.mpr (by omega)
                        refine mm_zast hx hb hK hW hS 18 64 rfl rfl b_40 dX8_carry_220 (fun H locs hW hS => ?_)
                        refine lv_aload_n hx hb dX8_carry_221 rfl (lv_at hl 4 rfl) ?_
                        refine lv_bipush (v := 11) hx hb dX8_carry_222 (by decide) ?_
                        refine lv_iload hx hb dX8_carry_224 (lv_at hl 0 rfl) ?_
                        refine lv_iload_n hx hb dX8_carry_226 rfl (lv_at hl 5 rfl) ?_
                        refine lv_iload_n hx hb dX8_carry_227 rfl (lv_at hl 7 rfl) ?_
                        have h_41 : 0 ≤ ((mq_i q1 18 (Int32.toNatClampNeg (q1.1 26 (Int32.toNatClampNeg ((64 * li) + k)))) 1).1 31 0).toInt ∧ ((mq_i q1 18 (Int32.toNatClampNeg (q1.1 26 (Int32.toNatClampNeg ((64 * li) + k)))) 1).1 31 0).toInt ≤ 399 := by
                          rw [show (mq_i q1 18 (Int32.toNatClampNeg (q1.1 26 (Int32.toNatClampNeg ((64 * li) + k)))) 1).1 31 0 = (q1.1 31 0) from (mq_ne (by decide))]
                          have k_1 : (11 : Int32).toInt = 11 := rfl
                          have k_2 : (64 : Int32).toInt = 64 := rfl
                          have u_3 := rg_e li
                          have u_5 := rg_e k
                          have u_7 := rg_e (q1.1 26 (Int32.toNatClampNeg ((64 * li) + k)))
                          have u_8 := rg_e day
                          have u_9 := rg_e (m_X8_noList q li)
                          have k_10 : (0 : Int32).toInt = 0 := rfl
                          have v_11 := cv_eq c_1
                          have v_12 := nl_t hL c_1
                          have u_13 := rg_e (m_X8_noOfficer officer)
                          have v_14 := cv_eq c_2
                          have u_15 := rg_e officer
                          have v_16 := no_t c_2
                          have u_17 := rg_e (m_X8_isDay q day)
                          have v_18 := cv_ne c_18
                          have v_19 := dy_t c_18
                          have u_20 := rg_e (q.1 30 (Int32.toNatClampNeg li))
                          have v_21 := cv_eq c_20
                          have u_22 := rg_e (m_X8_bits (q.1 29 (Int32.toNatClampNeg li)))
                          have k_23 : (2 : Int32).toInt = 2 := rfl
                          have v_24 := cv_nlt c_22
                          have u_25 := rg_e (m_X8_hasRight q officer 4)
                          have v_26 := cv_ne c_24
                          have u_27 := rg_e (m_X8_hasRoom q (o_3 + 1))
                          have v_28 := cv_ne c_25
                          have u_29 := rg_e o_3
                          have k_30 : (1 : Int32).toInt = 1 := rfl
                          have v_32 := hr_t c_25
                          have u_33 := rg_e (q1.1 27 (Int32.toNatClampNeg li))
                          have v_34 := cv_nle c_29
                          have u_35 := rg_e (m_X8_mayGo q1 (q1.1 26 (Int32.toNatClampNeg ((64 * li) + k))) day)
                          have v_36 := cv_ne c_33
                          have w_37 := hL.2.2.2.2.2
                          have w_38 := hI.2.2.2.1
                          have w_39 := hL.1
                          have w_40 := hL.2.1 (Int32.toNatClampNeg li)
                          have w_41 := ho_3
                          have w_42 := congrArg Int32.toInt (congrFun i3.1 (Int32.toNatClampNeg li))
                          have w_43 := congrArg Int32.toInt (congrFun i3.2.1 (Int32.toNatClampNeg ((64 * li) + k)))
                          have w_44 := congrArg Int32.toInt i3.2.2
                          have w_45 := i2.2.2.2.1
                          have w_46 := (rfl : (1 : Int32).toInt = 1)
                          have w_47 := hL.2.2.1 (Int32.toNatClampNeg ((64 * li) + k))
                          have w_48 := hL.2.2.2.1 li k
                          have w_49 := (fun h1 h2 => cn_nn hL li day k h1 h2)
                          have w_50 := i1
                          have w_51 := i4
                          have u_4 := mu_o 64 64 li rfl
                          have u_6 := ad_o (64 * li) k
                          have u_31 := ad_o o_3 1
                          exact by omega
                        have h_42 : 0 ≤ ((mq_i q1 18 (Int32.toNatClampNeg (q1.1 26 (Int32.toNatClampNeg ((64 * li) + k)))) 1).1 12 0).toInt ∧ ((mq_i q1 18 (Int32.toNatClampNeg (q1.1 26 (Int32.toNatClampNeg ((64 * li) + k)))) 1).1 12 0).toInt ≤ 64 := by
                          rw [show (mq_i q1 18 (Int32.toNatClampNeg (q1.1 26 (Int32.toNatClampNeg ((64 * li) + k)))) 1).1 12 0 = (q1.1 12 0) from (mq_ne (by decide))]
                          have k_1 : (11 : Int32).toInt = 11 := rfl
                          have k_2 : (64 : Int32).toInt = 64 := rfl
                          have u_3 := rg_e li
                          have u_5 := rg_e k
                          have u_7 := rg_e (q1.1 26 (Int32.toNatClampNeg ((64 * li) + k)))
                          have u_8 := rg_e day
                          have u_9 := rg_e (m_X8_noList q li)
                          have k_10 : (0 : Int32).toInt = 0 := rfl
                          have v_11 := cv_eq c_1
                          have v_12 := nl_t hL c_1
                          have u_13 := rg_e (m_X8_noOfficer officer)
                          have v_14 := cv_eq c_2
                          have u_15 := rg_e officer
                          have v_16 := no_t c_2
                          have u_17 := rg_e (m_X8_isDay q day)
                          have v_18 := cv_ne c_18
                          have v_19 := dy_t c_18
                          have u_20 := rg_e (q.1 30 (Int32.toNatClampNeg li))
                          have v_21 := cv_eq c_20
                          have u_22 := rg_e (m_X8_bits (q.1 29 (Int32.toNatClampNeg li)))
                          have k_23 : (2 : Int32).toInt = 2 := rfl
                          have v_24 := cv_nlt c_22
                          have u_25 := rg_e (m_X8_hasRight q officer 4)
                          have v_26 := cv_ne c_24
                          have u_27 := rg_e (m_X8_hasRoom q (o_3 + 1))
                          have v_28 := cv_ne c_25
                          have u_29 := rg_e o_3
                          have k_30 : (1 : Int32).toInt = 1 := rfl
                          have v_32 := hr_t c_25
                          have u_33 := rg_e (q1.1 27 (Int32.toNatClampNeg li))
                          have v_34 := cv_nle c_29
                          have u_35 := rg_e (m_X8_mayGo q1 (q1.1 26 (Int32.toNatClampNeg ((64 * li) + k))) day)
                          have v_36 := cv_ne c_33
                          have w_37 := hL.2.2.2.2.2
                          have w_38 := hI.2.2.2.1
                          have w_39 := hL.1
                          have w_40 := hL.2.1 (Int32.toNatClampNeg li)
                          have w_41 := ho_3
                          have w_42 := congrArg Int32.toInt (congrFun i3.1 (Int32.toNatClampNeg li))
                          have w_43 := congrArg Int32.toInt (congrFun i3.2.1 (Int32.toNatClampNeg ((64 * li) + k)))
                          have w_44 := congrArg Int32.toInt i3.2.2
                          have w_45 := i2.2.2.2.1
                          have w_46 := (rfl : (1 : Int32).toInt = 1)
                          have w_47 := hL.2.2.1 (Int32.toNatClampNeg ((64 * li) + k))
                          have w_48 := hL.2.2.2.1 li k
                          have w_49 := (fun h1 h2 => cn_nn hL li day k h1 h2)
                          have w_50 := i1
                          have w_51 := i4
                          have u_4 := mu_o 64 64 li rfl
                          have u_6 := ad_o (64 * li) k
                          have u_31 := ad_o o_3 1
                          exact by omega
                        refine mm_callVv (n := 4) (As := [.int 11, .int (q1.1 26 (Int32.toNatClampNeg ((64 * li) + k))), .int li, .int day]) (rest := []) (q2 := (m_X8_write (mq_i q1 18 (Int32.toNatClampNeg (q1.1 26 (Int32.toNatClampNeg ((64 * li) + k)))) 1) 11 (q1.1 26 (Int32.toNatClampNeg ((64 * li) + k))) li day)) ⟨hx, hb, hml, hown, hts⟩ (c_X8_write l D b0 Pc cA ad (mq_i q1 18 (Int32.toNatClampNeg (q1.1 26 (Int32.toNatClampNeg ((64 * li) + k)))) 1) 11 (q1.1 26 (Int32.toNatClampNeg ((64 * li) + k))) li day h_41 h_42) gX8_carry_X8_write rfl (by decide +kernel) rfl ⟨Nat.le_of_ble_eq_true rfl, Nat.le_of_ble_eq_true rfl⟩ ⟨Nat.le_of_ble_eq_true rfl, Nat.le_of_ble_eq_true rfl⟩ hK hW hS hl.1 rfl (Nat.le_of_ble_eq_true rfl) dX8_carry_228 (fun H locs hW hS => ?_)
                        refine lv_iinc (v := (k + 1)) (lv' := [(6, .int (k + 1)), (7, .int (q1.1 26 (Int32.toNatClampNeg ((64 * li) + k)))), (5, .int o_3), (4, .int 1), (0, .ref (ad 20 0)), (1, .int li), (2, .int officer), (3, .int day)]) hx hb dX8_carry_231 hl (k := 1) rfl (by first | rfl | decide) (by decide) rfl (fun ls hl => ?_)
                        refine lv_goto (tgt := 178) hx hb dX8_carry_234 (by decide) ?_
                        have h_43 : 0 ≤ (k + 1).toInt ∧ (k + 1).toInt ≤ 64 := by
                          have u_1 := rg_e k
                          have k_2 : (1 : Int32).toInt = 1 := rfl
                          have u_4 := rg_e (m_X8_noList q li)
                          have k_5 : (0 : Int32).toInt = 0 := rfl
                          have v_6 := cv_eq c_1
                          have u_7 := rg_e li
                          have v_8 := nl_t hL c_1
                          have u_9 := rg_e (m_X8_noOfficer officer)
                          have v_10 := cv_eq c_2
                          have u_11 := rg_e officer
                          have v_12 := no_t c_2
                          have u_13 := rg_e (m_X8_isDay q day)
                          have v_14 := cv_ne c_18
                          have u_15 := rg_e day
                          have v_16 := dy_t c_18
                          have u_17 := rg_e (q.1 30 (Int32.toNatClampNeg li))
                          have v_18 := cv_eq c_20
                          have u_19 := rg_e (m_X8_bits (q.1 29 (Int32.toNatClampNeg li)))
                          have k_20 : (2 : Int32).toInt = 2 := rfl
                          have v_21 := cv_nlt c_22
                          have u_22 := rg_e (m_X8_hasRight q officer 4)
                          have v_23 := cv_ne c_24
                          have u_24 := rg_e (m_X8_hasRoom q (o_3 + 1))
                          have v_25 := cv_ne c_25
                          have u_26 := rg_e o_3
                          have v_28 := hr_t c_25
                          have u_29 := rg_e (q1.1 27 (Int32.toNatClampNeg li))
                          have v_30 := cv_nle c_29
                          have u_31 := rg_e (m_X8_mayGo q1 (q1.1 26 (Int32.toNatClampNeg ((64 * li) + k))) day)
                          have v_32 := cv_ne c_33
                          have w_33 := hL.2.2.2.2.2
                          have w_34 := hI.2.2.2.1
                          have w_35 := hL.1
                          have w_36 := hL.2.1 (Int32.toNatClampNeg li)
                          have w_37 := ho_3
                          have w_38 := congrArg Int32.toInt (congrFun i3.1 (Int32.toNatClampNeg li))
                          have w_39 := congrArg Int32.toInt (congrFun i3.2.1 (Int32.toNatClampNeg ((64 * li) + k)))
                          have w_40 := congrArg Int32.toInt i3.2.2
                          have w_41 := i2.2.2.2.1
                          have w_42 := (rfl : (1 : Int32).toInt = 1)
                          have w_43 := hL.2.2.1 (Int32.toNatClampNeg ((64 * li) + k))
                          have w_44 := hL.2.2.2.1 li k
                          have w_45 := (fun h1 h2 => cn_nn hL li day k h1 h2)
                          have w_46 := i1
                          have w_47 := i4
                          have u_3 := ad_o k 1
                          have u_27 := ad_o o_3 1
                          omega
                        have h_44 : gI (m_X8_write (mq_i q1 18 (Int32.toNatClampNeg (q1.1 26 (Int32.toNatClampNeg ((64 * li) + k)))) 1) 11 (q1.1 26 (Int32.toNatClampNeg ((64 * li) + k))) li day) := wr_gI (gI_i (by decide) i2)
                        have h_45 : (m_X8_write (mq_i q1 18 (Int32.toNatClampNeg (q1.1 26 (Int32.toNatClampNeg ((64 * li) + k)))) 1) 11 (q1.1 26 (Int32.toNatClampNeg ((64 * li) + k))) li day).1 27 = q.1 27 ∧ (m_X8_write (mq_i q1 18 (Int32.toNatClampNeg (q1.1 26 (Int32.toNatClampNeg ((64 * li) + k)))) 1) 11 (q1.1 26 (Int32.toNatClampNeg ((64 * li) + k))) li day).1 26 = q.1 26 ∧ (m_X8_write (mq_i q1 18 (Int32.toNatClampNeg (q1.1 26 (Int32.toNatClampNeg ((64 * li) + k)))) 1) 11 (q1.1 26 (Int32.toNatClampNeg ((64 * li) + k))) li day).1 12 0 = q.1 12 0 := ⟨(wr_1 (by decide) (by decide)).trans ((mq_i_ne _ _ (by decide)).trans i3.1), (wr_1 (by decide) (by decide)).trans ((mq_i_ne _ _ (by decide)).trans i3.2.1), (congrFun (wr_1 (by decide) (by decide)) 0).trans ((mq_ne (by decide)).trans i3.2.2)⟩
                        have h_46 : 0 ≤ ((m_X8_write (mq_i q1 18 (Int32.toNatClampNeg (q1.1 26 (Int32.toNatClampNeg ((64 * li) + k)))) 1) 11 (q1.1 26 (Int32.toNatClampNeg ((64 * li) + k))) li day).1 31 0).toInt ∧ ((m_X8_write (mq_i q1 18 (Int32.toNatClampNeg (q1.1 26 (Int32.toNatClampNeg ((64 * li) + k)))) 1) 11 (q1.1 26 (Int32.toNatClampNeg ((64 * li) + k))) li day).1 31 0).toInt + cn q li day (k + 1) ≤ 399 := by
                          have u_1 := rg_e k
                          have k_2 : (1 : Int32).toInt = 1 := rfl
                          have u_4 := rg_e (m_X8_noList q li)
                          have k_5 : (0 : Int32).toInt = 0 := rfl
                          have v_6 := cv_eq c_1
                          have u_7 := rg_e li
                          have v_8 := nl_t hL c_1
                          have u_9 := rg_e (m_X8_noOfficer officer)
                          have v_10 := cv_eq c_2
                          have u_11 := rg_e officer
                          have v_12 := no_t c_2
                          have u_13 := rg_e (m_X8_isDay q day)
                          have v_14 := cv_ne c_18
                          have u_15 := rg_e day
                          have v_16 := dy_t c_18
                          have u_17 := rg_e (q.1 30 (Int32.toNatClampNeg li))
                          have v_18 := cv_eq c_20
                          have u_19 := rg_e (m_X8_bits (q.1 29 (Int32.toNatClampNeg li)))
                          have k_20 : (2 : Int32).toInt = 2 := rfl
                          have v_21 := cv_nlt c_22
                          have u_22 := rg_e (m_X8_hasRight q officer 4)
                          have v_23 := cv_ne c_24
                          have u_24 := rg_e (m_X8_hasRoom q (o_3 + 1))
                          have v_25 := cv_ne c_25
                          have u_26 := rg_e o_3
                          have v_28 := hr_t c_25
                          have u_29 := rg_e (q1.1 27 (Int32.toNatClampNeg li))
                          have v_30 := cv_nle c_29
                          have u_31 := rg_e (m_X8_mayGo q1 (q1.1 26 (Int32.toNatClampNeg ((64 * li) + k))) day)
                          have v_32 := cv_ne c_33
                          have w_33 := hL.2.2.2.2.2
                          have w_34 := hI.2.2.2.1
                          have w_35 := hL.1
                          have w_36 := hL.2.1 (Int32.toNatClampNeg li)
                          have w_37 := ho_3
                          have w_38 := congrArg Int32.toInt (congrFun i3.1 (Int32.toNatClampNeg li))
                          have w_39 := congrArg Int32.toInt (congrFun i3.2.1 (Int32.toNatClampNeg ((64 * li) + k)))
                          have w_40 := congrArg Int32.toInt i3.2.2
                          have w_41 := i2.2.2.2.1
                          have w_42 := (rfl : (1 : Int32).toInt = 1)
                          have w_43 := hL.2.2.1 (Int32.toNatClampNeg ((64 * li) + k))
                          have w_44 := hL.2.2.2.1 li k
                          have w_45 := (fun h1 h2 => cn_nn hL li day k h1 h2)
                          have w_46 := i1
                          have w_47 := i4
                          have u_3 := ad_o k 1
                          have u_27 := ad_o o_3 1
                          have e9 := cn_step hL li day k i1.1 (by rw [← i3.1]; exact c_29); rw [if_neg (fun z => c_33 (by rw [i3.2.1]; exact i5 _ z))] at e9; rw [wr_31, mq_ne (by decide)]; have g9 := ad_o (q1.1 31 0) 1; have g8 := cn_nn hL li day (k + 1) (by omega) (by omega); omega
                        have h_47 : ∀ x : Int32, m_X8_mayGo q x day = 0 → m_X8_mayGo (m_X8_write (mq_i q1 18 (Int32.toNatClampNeg (q1.1 26 (Int32.toNatClampNeg ((64 * li) + k)))) 1) 11 (q1.1 26 (Int32.toNatClampNeg ((64 * li) + k))) li day) x day = 0 := fun x hz => by rw [sg_mayGo wr_sg _ _ (by rw [wr_1 (by decide) (by decide)])]; exact mg_des (i5 x hz)
                        have h_48 : 64 - (k + 1).toInt < (n : Int) := by
                          have u_1 := rg_e k
                          have k_2 : (1 : Int32).toInt = 1 := rfl
                          have u_4 := rg_e (m_X8_noList q li)
                          have k_5 : (0 : Int32).toInt = 0 := rfl
                          have v_6 := cv_eq c_1
                          have u_7 := rg_e li
                          have v_8 := nl_t hL c_1
                          have u_9 := rg_e (m_X8_noOfficer officer)
                          have v_10 := cv_eq c_2
                          have u_11 := rg_e officer
                          have v_12 := no_t c_2
                          have u_13 := rg_e (m_X8_isDay q day)
                          have v_14 := cv_ne c_18
                          have u_15 := rg_e day
                          have v_16 := dy_t c_18
                          have u_17 := rg_e (q.1 30 (Int32.toNatClampNeg li))
                          have v_18 := cv_eq c_20
                          have u_19 := rg_e (m_X8_bits (q.1 29 (Int32.toNatClampNeg li)))
                          have k_20 : (2 : Int32).toInt = 2 := rfl
                          have v_21 := cv_nlt c_22
                          have u_22 := rg_e (m_X8_hasRight q officer 4)
                          have v_23 := cv_ne c_24
                          have u_24 := rg_e (m_X8_hasRoom q (o_3 + 1))
                          have v_25 := cv_ne c_25
                          have u_26 := rg_e o_3
                          have v_28 := hr_t c_25
                          have u_29 := rg_e (q1.1 27 (Int32.toNatClampNeg li))
                          have v_30 := cv_nle c_29
                          have u_31 := rg_e (m_X8_mayGo q1 (q1.1 26 (Int32.toNatClampNeg ((64 * li) + k))) day)
                          have v_32 := cv_ne c_33
                          have w_33 := hL.2.2.2.2.2
                          have w_34 := hI.2.2.2.1
                          have w_35 := hL.1
                          have w_36 := hL.2.1 (Int32.toNatClampNeg li)
                          have w_37 := ho_3
                          have w_38 := congrArg Int32.toInt (congrFun i3.1 (Int32.toNatClampNeg li))
                          have w_39 := congrArg Int32.toInt (congrFun i3.2.1 (Int32.toNatClampNeg ((64 * li) + k)))
                          have w_40 := congrArg Int32.toInt i3.2.2
                          have w_41 := i2.2.2.2.1
                          have w_42 := (rfl : (1 : Int32).toInt = 1)
                          have w_43 := hL.2.2.1 (Int32.toNatClampNeg ((64 * li) + k))
                          have w_44 := hL.2.2.2.1 li k
                          have w_45 := (fun h1 h2 => cn_nn hL li day k h1 h2)
                          have w_46 := i1
                          have w_47 := i4
                          have w_48 := hm
                          have u_3 := ad_o k 1
                          have u_27 := ad_o o_3 1
                          omega
                        exact ih (k + 1) (m_X8_write (mq_i q1 18 (Int32.toNatClampNeg (q1.1 26 (Int32.toNatClampNeg ((64 * li) + k)))) 1) 11 (q1.1 26 (Int32.toNatClampNeg ((64 * li) + k))) li day) h_43 h_44 h_45 h_46 h_47 h_48 (fun o_27 eo_27 => kk o_27 (eo_27.trans (by rw [m_X8_carry_lp2, if_neg c_29, if_neg c_33]))) _ _ hW hS ls (lv_sub hl [0, 2, 3, 4, 5, 6, 7] rfl)
                have h_50 : 0 ≤ (0 : Int32).toInt ∧ (0 : Int32).toInt ≤ 64 := by
                  have k_1 : (0 : Int32).toInt = 0 := rfl
                  have u_2 := rg_e (m_X8_noList q li)
                  have v_3 := cv_eq c_1
                  have u_4 := rg_e li
                  have v_5 := nl_t hL c_1
                  have u_6 := rg_e (m_X8_noOfficer officer)
                  have v_7 := cv_eq c_2
                  have u_8 := rg_e officer
                  have v_9 := no_t c_2
                  have u_10 := rg_e (m_X8_isDay q day)
                  have v_11 := cv_ne c_18
                  have u_12 := rg_e day
                  have v_13 := dy_t c_18
                  have u_14 := rg_e (q.1 30 (Int32.toNatClampNeg li))
                  have v_15 := cv_eq c_20
                  have u_16 := rg_e (m_X8_bits (q.1 29 (Int32.toNatClampNeg li)))
                  have k_17 : (2 : Int32).toInt = 2 := rfl
                  have v_18 := cv_nlt c_22
                  have u_19 := rg_e (m_X8_hasRight q officer 4)
                  have v_20 := cv_ne c_24
                  have u_21 := rg_e (m_X8_hasRoom q (o_3 + 1))
                  have v_22 := cv_ne c_25
                  have u_23 := rg_e o_3
                  have k_24 : (1 : Int32).toInt = 1 := rfl
                  have v_26 := hr_t c_25
                  have w_27 := hL.2.2.2.2.2
                  have w_28 := hI.2.2.2.1
                  have w_29 := hL.1
                  have w_30 := hL.2.1 (Int32.toNatClampNeg li)
                  have w_31 := ho_3
                  have u_25 := ad_o o_3 1
                  omega
                have h_51 : gI (mq_i (mq_i (mq_i q 0 0 0) 30 (Int32.toNatClampNeg li) 1) 3 0 day) := gI_i (by decide) (gI_i (by decide) (gI_i (by decide) hI))
                have h_52 : (mq_i (mq_i (mq_i q 0 0 0) 30 (Int32.toNatClampNeg li) 1) 3 0 day).1 27 = q.1 27 ∧ (mq_i (mq_i (mq_i q 0 0 0) 30 (Int32.toNatClampNeg li) 1) 3 0 day).1 26 = q.1 26 ∧ (mq_i (mq_i (mq_i q 0 0 0) 30 (Int32.toNatClampNeg li) 1) 3 0 day).1 12 0 = q.1 12 0 := ⟨(mq_i_ne _ _ (by decide)).trans ((mq_i_ne _ _ (by decide)).trans (mq_i_ne _ _ (by decide))), (mq_i_ne _ _ (by decide)).trans ((mq_i_ne _ _ (by decide)).trans (mq_i_ne _ _ (by decide))), (mq_ne (by decide)).trans ((mq_ne (by decide)).trans (mq_ne (by decide)))⟩
                have h_53 : 0 ≤ ((mq_i (mq_i (mq_i q 0 0 0) 30 (Int32.toNatClampNeg li) 1) 3 0 day).1 31 0).toInt ∧ ((mq_i (mq_i (mq_i q 0 0 0) 30 (Int32.toNatClampNeg li) 1) 3 0 day).1 31 0).toInt + cn q li day (0 : Int32) ≤ 399 := by
                  have k_1 : (0 : Int32).toInt = 0 := rfl
                  have u_2 := rg_e (m_X8_noList q li)
                  have v_3 := cv_eq c_1
                  have u_4 := rg_e li
                  have v_5 := nl_t hL c_1
                  have u_6 := rg_e (m_X8_noOfficer officer)
                  have v_7 := cv_eq c_2
                  have u_8 := rg_e officer
                  have v_9 := no_t c_2
                  have u_10 := rg_e (m_X8_isDay q day)
                  have v_11 := cv_ne c_18
                  have u_12 := rg_e day
                  have v_13 := dy_t c_18
                  have u_14 := rg_e (q.1 30 (Int32.toNatClampNeg li))
                  have v_15 := cv_eq c_20
                  have u_16 := rg_e (m_X8_bits (q.1 29 (Int32.toNatClampNeg li)))
                  have k_17 : (2 : Int32).toInt = 2 := rfl
                  have v_18 := cv_nlt c_22
                  have u_19 := rg_e (m_X8_hasRight q officer 4)
                  have v_20 := cv_ne c_24
                  have u_21 := rg_e (m_X8_hasRoom q (o_3 + 1))
                  have v_22 := cv_ne c_25
                  have u_23 := rg_e o_3
                  have k_24 : (1 : Int32).toInt = 1 := rfl
                  have v_26 := hr_t c_25
                  have w_27 := hL.2.2.2.2.2
                  have w_28 := hI.2.2.2.1
                  have w_29 := hL.1
                  have w_30 := hL.2.1 (Int32.toNatClampNeg li)
                  have w_31 := ho_3
                  have u_25 := ad_o o_3 1
                  rw [show ∀ st0 : qM, (mq_i (mq_i (mq_i st0 0 0 0) 30 (Int32.toNatClampNeg li) 1) 3 0 day).1 31 0 = st0.1 31 0 from fun _ => (mq_ne (by decide)).trans ((mq_ne (by decide)).trans (mq_ne (by decide)))]; unfold cn; rw [← eo_3]; omega
                have h_54 : ∀ x : Int32, m_X8_mayGo q x day = 0 → m_X8_mayGo (mq_i (mq_i (mq_i q 0 0 0) 30 (Int32.toNatClampNeg li) 1) 3 0 day) x day = 0 := fun x hz => by rw [sg_mayGo (sg_tr (sg_i rfl) (sg_tr (sg_i rfl) (sg_i rfl))) _ _ (by rw [mq_i_ne _ _ (by decide), mq_i_ne _ _ (by decide), mq_i_ne _ _ (by decide)])]; exact hz
                have h_55 : 64 - (0 : Int32).toInt < ((66 : Nat) : Int) := by
                  have k_1 : (0 : Int32).toInt = 0 := rfl
                  have u_2 := rg_e (m_X8_noList q li)
                  have v_3 := cv_eq c_1
                  have u_4 := rg_e li
                  have v_5 := nl_t hL c_1
                  have u_6 := rg_e (m_X8_noOfficer officer)
                  have v_7 := cv_eq c_2
                  have u_8 := rg_e officer
                  have v_9 := no_t c_2
                  have u_10 := rg_e (m_X8_isDay q day)
                  have v_11 := cv_ne c_18
                  have u_12 := rg_e day
                  have v_13 := dy_t c_18
                  have u_14 := rg_e (q.1 30 (Int32.toNatClampNeg li))
                  have v_15 := cv_eq c_20
                  have u_16 := rg_e (m_X8_bits (q.1 29 (Int32.toNatClampNeg li)))
                  have k_17 : (2 : Int32).toInt = 2 := rfl
                  have v_18 := cv_nlt c_22
                  have u_19 := rg_e (m_X8_hasRight q officer 4)
                  have v_20 := cv_ne c_24
                  have u_21 := rg_e (m_X8_hasRoom q (o_3 + 1))
                  have v_22 := cv_ne c_25
                  have u_23 := rg_e o_3
                  have k_24 : (1 : Int32).toInt = 1 := rfl
                  have v_26 := hr_t c_25
                  have w_27 := hL.2.2.2.2.2
                  have w_28 := hI.2.2.2.1
                  have w_29 := hL.1
                  have w_30 := hL.2.1 (Int32.toNatClampNeg li)
                  have w_31 := ho_3
                  have u_25 := ad_o o_3 1
                  omega
                refine lp_49 _ 66 0 (mq_i (mq_i (mq_i q 0 0 0) 30 (Int32.toNatClampNeg li) 1) 3 0 day) h_50 h_51 h_52 h_53 h_54 h_55 (fun o_27 eo_27 ho_27 H locs hW hS ls hl => ?_) _ _ hW hS ls (lv_sub hl [0, 1, 2, 3, 4, 5, 6] rfl)
                refine lv_aload_n hx hb dX8_carry_237 rfl (lv_at hl 2 rfl) ?_
                refine lv_bipush (v := 12) hx hb dX8_carry_238 (by decide) ?_
                refine lv_iload_n hx hb dX8_carry_240 rfl (lv_at hl 3 rfl) ?_
                refine lv_iload_n hx hb dX8_carry_241 rfl (lv_at hl 5 rfl) ?_
                refine lv_aload_n hx hb dX8_carry_242 rfl (lv_at hl 2 rfl) ?_
                refine mm_get (v := .ref (ad 21 27)) hx hb hts hin hown hK hW 27 (by decide) (List.mem_of_getElem? (i := 1) rfl) rfl rfl dX8_carry_243 ?_
                refine lv_iload_n hx hb dX8_carry_246 rfl (lv_at hl 3 rfl) ?_
                have b_56 : vp_in li 16 := by
                  have u_1 := rg_e li
                  have u_2 := rg_e (m_X8_noList q li)
                  have k_3 : (0 : Int32).toInt = 0 := rfl
                  have v_4 := cv_eq c_1
                  have v_5 := nl_t hL c_1
                  have u_6 := rg_e (m_X8_noOfficer officer)
                  have v_7 := cv_eq c_2
                  have u_8 := rg_e officer
                  have v_9 := no_t c_2
                  have u_10 := rg_e (m_X8_isDay q day)
                  have v_11 := cv_ne c_18
                  have u_12 := rg_e day
                  have v_13 := dy_t c_18
                  have u_14 := rg_e (q.1 30 (Int32.toNatClampNeg li))
                  have v_15 := cv_eq c_20
                  have u_16 := rg_e (m_X8_bits (q.1 29 (Int32.toNatClampNeg li)))
                  have k_17 : (2 : Int32).toInt = 2 := rfl
                  have v_18 := cv_nlt c_22
                  have u_19 := rg_e (m_X8_hasRight q officer 4)
                  have v_20 := cv_ne c_24
                  have u_21 := rg_e (m_X8_hasRoom q (o_3 + 1))
                  have v_22 := cv_ne c_25
                  have u_23 := rg_e o_3
                  have k_24 : (1 : Int32).toInt = 1 := rfl
                  have v_26 := hr_t c_25
                  have w_27 := hL.2.2.2.2.2
                  have w_28 := hI.2.2.2.1
                  have w_29 := hL.1
                  have w_30 := hL.2.1 (Int32.toNatClampNeg li)
                  have w_31 := ho_3
                  have w_32 := congrArg Int32.toInt ho_27.1.1
                  have w_33 := ho_27.2
                  have u_25 := ad_o o_3 1
                  exact vp_in_iff.mpr (by omega)
                refine mm_iald (v := (o_27.1 27 (Int32.toNatClampNeg li))) hx hb hK hW 27 16 rfl b_56 ((rfl)) dX8_carry_247 ?_
                refine lv_iload hx hb dX8_carry_248 (lv_at hl 0 rfl) ?_
                refine lv_isub hx hb dX8_carry_250 ?_
                have h_57 : 0 ≤ (o_27.1 31 0).toInt ∧ (o_27.1 31 0).toInt ≤ 399 := by
                  have k_1 : (12 : Int32).toInt = 12 := rfl
                  have u_2 := rg_e li
                  have u_3 := rg_e day
                  have u_4 := rg_e (o_27.1 27 (Int32.toNatClampNeg li))
                  have u_5 := rg_e o_3
                  have u_7 := rg_e (m_X8_noList q li)
                  have k_8 : (0 : Int32).toInt = 0 := rfl
                  have v_9 := cv_eq c_1
                  have v_10 := nl_t hL c_1
                  have u_11 := rg_e (m_X8_noOfficer officer)
                  have v_12 := cv_eq c_2
                  have u_13 := rg_e officer
                  have v_14 := no_t c_2
                  have u_15 := rg_e (m_X8_isDay q day)
                  have v_16 := cv_ne c_18
                  have v_17 := dy_t c_18
                  have u_18 := rg_e (q.1 30 (Int32.toNatClampNeg li))
                  have v_19 := cv_eq c_20
                  have u_20 := rg_e (m_X8_bits (q.1 29 (Int32.toNatClampNeg li)))
                  have k_21 : (2 : Int32).toInt = 2 := rfl
                  have v_22 := cv_nlt c_22
                  have u_23 := rg_e (m_X8_hasRight q officer 4)
                  have v_24 := cv_ne c_24
                  have u_25 := rg_e (m_X8_hasRoom q (o_3 + 1))
                  have v_26 := cv_ne c_25
                  have k_27 : (1 : Int32).toInt = 1 := rfl
                  have v_29 := hr_t c_25
                  have w_30 := hL.2.2.2.2.2
                  have w_31 := hI.2.2.2.1
                  have w_32 := hL.1
                  have w_33 := hL.2.1 (Int32.toNatClampNeg li)
                  have w_34 := ho_3
                  have w_35 := congrArg Int32.toInt ho_27.1.1
                  have w_36 := ho_27.2
                  have u_6 := su_o (o_27.1 27 (Int32.toNatClampNeg li)) o_3
                  have u_28 := ad_o o_3 1
                  exact by omega
                have h_58 : 0 ≤ (o_27.1 12 0).toInt ∧ (o_27.1 12 0).toInt ≤ 64 := by
                  have k_1 : (12 : Int32).toInt = 12 := rfl
                  have u_2 := rg_e li
                  have u_3 := rg_e day
                  have u_4 := rg_e (o_27.1 27 (Int32.toNatClampNeg li))
                  have u_5 := rg_e o_3
                  have u_7 := rg_e (m_X8_noList q li)
                  have k_8 : (0 : Int32).toInt = 0 := rfl
                  have v_9 := cv_eq c_1
                  have v_10 := nl_t hL c_1
                  have u_11 := rg_e (m_X8_noOfficer officer)
                  have v_12 := cv_eq c_2
                  have u_13 := rg_e officer
                  have v_14 := no_t c_2
                  have u_15 := rg_e (m_X8_isDay q day)
                  have v_16 := cv_ne c_18
                  have v_17 := dy_t c_18
                  have u_18 := rg_e (q.1 30 (Int32.toNatClampNeg li))
                  have v_19 := cv_eq c_20
                  have u_20 := rg_e (m_X8_bits (q.1 29 (Int32.toNatClampNeg li)))
                  have k_21 : (2 : Int32).toInt = 2 := rfl
                  have v_22 := cv_nlt c_22
                  have u_23 := rg_e (m_X8_hasRight q officer 4)
                  have v_24 := cv_ne c_24
                  have u_25 := rg_e (m_X8_hasRoom q (o_3 + 1))
                  have v_26 := cv_ne c_25
                  have k_27 : (1 : Int32).toInt = 1 := rfl
                  have v_29 := hr_t c_25
                  have w_30 := hL.2.2.2.2.2
                  have w_31 := hI.2.2.2.1
                  have w_32 := hL.1
                  have w_33 := hL.2.1 (Int32.toNatClampNeg li)
                  have w_34 := ho_3
                  have w_35 := congrArg Int32.toInt ho_27.1.1
                  have w_36 := ho_27.2
                  have u_6 := su_o (o_27.1 27 (Int32.toNatClampNeg li)) o_3
                  have u_28 := ad_o o_3 1
                  exact by omega
                refine mm_callVv (n := 4) (As := [.int 12, .int li, .int day, .int ((o_27.1 27 (Int32.toNatClampNeg li)) - o_3)]) (rest := []) (q2 := (m_X8_write o_27 12 li day ((o_27.1 27 (Int32.toNatClampNeg li)) - o_3))) ⟨hx, hb, hml, hown, hts⟩ (c_X8_write l D b0 Pc cA ad o_27 12 li day ((o_27.1 27 (Int32.toNatClampNeg li)) - o_3) h_57 h_58) gX8_carry_X8_write rfl (by decide +kernel) rfl ⟨Nat.le_of_ble_eq_true rfl, Nat.le_of_ble_eq_true rfl⟩ ⟨Nat.le_of_ble_eq_true rfl, Nat.le_of_ble_eq_true rfl⟩ hK hW hS hl.1 rfl (Nat.le_of_ble_eq_true rfl) dX8_carry_251 (fun H locs hW hS => ?_)
                refine lv_iload hx hb dX8_carry_254 (lv_at hl 0 rfl) ?_
                exact mm_iret hx hb hr hlk hK hW hS (by rw [m_X8_carry, if_pos c_1, if_pos c_2, ← eo_3, if_neg c_18, if_pos c_20, if_neg c_22, if_neg c_24, if_neg c_25, ← eo_27]) dX8_carry_256
              · refine lv_iconst (v := 3) hx hb dX8_carry_146 (by decide) ?_
                refine lv_goto (tgt := 151) hx hb dX8_carry_147 (by decide) ?_
                refine mm_put hx hb hts hin hown hK hW hS 0 (by decide) (List.mem_of_getElem? (i := 5) rfl) rfl rfl (by decide +kernel) rfl (ws_0 ad _ _) dX8_carry_151 (fun H locs hW hS => ?_)
                refine lv_aload_n hx hb dX8_carry_154 rfl (lv_at hl 2 rfl) ?_
                refine mm_gets (v := 3) hx hb hts hin hown hK hW 0 (by decide) (List.mem_of_getElem? (i := 5) rfl) rfl rfl (mq_same q 0 0 3) dX8_carry_155 ?_
                refine lv_if_le (tgt := 163) hx hb dX8_carry_158 (by decide) (fun h => absurd h (by decide)) (fun _ => ?_)
                refine lv_iconst (v := 0) hx hb dX8_carry_161 (by decide) ?_
                exact mm_iret hx hb hr hlk hK hW hS (by rw [m_X8_carry, if_pos c_1, if_pos c_2, ← eo_3, if_neg c_18, if_pos c_20, if_neg c_22, if_neg c_24, if_pos c_25]) dX8_carry_162
      · refine lv_iconst (v := 2) hx hb dX8_carry_100 (by decide) ?_
        refine lv_goto (tgt := 151) hx hb dX8_carry_101 (by decide) ?_
        refine mm_put hx hb hts hin hown hK hW hS 0 (by decide) (List.mem_of_getElem? (i := 5) rfl) rfl rfl (by decide +kernel) rfl (ws_0 ad _ _) dX8_carry_151 (fun H locs hW hS => ?_)
        refine lv_aload_n hx hb dX8_carry_154 rfl (lv_at hl 2 rfl) ?_
        refine mm_gets (v := 2) hx hb hts hin hown hK hW 0 (by decide) (List.mem_of_getElem? (i := 5) rfl) rfl rfl (mq_same q 0 0 2) dX8_carry_155 ?_
        refine lv_if_le (tgt := 163) hx hb dX8_carry_158 (by decide) (fun h => absurd h (by decide)) (fun _ => ?_)
        refine lv_iconst (v := 0) hx hb dX8_carry_161 (by decide) ?_
        exact mm_iret hx hb hr hlk hK hW hS (by rw [m_X8_carry, if_pos c_1, if_pos c_2, ← eo_3, if_pos c_18]) dX8_carry_162
