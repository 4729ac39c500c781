/-! laid by wip/whole/tools/model2.py -/
/-- what holds of the reference's numbers at all times: of classes, folders, records; of lists -/
def gI (q : qM) : Prop := (∀ j, 0 ≤ (q.1 5 j).toInt ∧ (q.1 5 j).toInt ≤ 6) ∧ (∀ j, -1 ≤ (q.1 9 j).toInt ∧ (q.1 9 j).toInt ≤ 7) ∧ (∀ j, 0 ≤ (q.1 13 j).toInt ∧ (q.1 13 j).toInt ≤ 15) ∧ (0 ≤ (q.1 12 0).toInt ∧ (q.1 12 0).toInt ≤ 64) ∧ (∀ j, 0 ≤ (q.1 14 j).toInt ∧ (q.1 14 j).toInt ≤ 120000) ∧ (∀ j, -1 ≤ (q.1 10 j).toInt ∧ (q.1 10 j).toInt ≤ 120000) ∧ (∀ j, -1 ≤ (q.1 11 j).toInt ∧ (q.1 11 j).toInt ≤ 120000) ∧ (∀ j, 0 ≤ (q.1 6 j).toInt ∧ (q.1 6 j).toInt ≤ 1211) ∧ (1 ≤ (q.1 2 0).toInt ∧ (q.1 2 0).toInt ≤ 12) ∧ (∀ j : Nat, (j : Int) < (q.1 12 0).toInt → 0 ≤ (q.1 9 (Int32.toNatClampNeg (q.1 13 j))).toInt)
def lI (q : qM) : Prop := (0 ≤ (q.1 25 0).toInt ∧ (q.1 25 0).toInt ≤ 16) ∧ (∀ j, 0 ≤ (q.1 27 j).toInt ∧ (q.1 27 j).toInt ≤ 64) ∧ (∀ j, 0 ≤ (q.1 26 j).toInt ∧ (q.1 26 j).toInt ≤ 63) ∧ (∀ a k : Int32, 0 ≤ a.toInt → a.toInt ≤ 15 → 0 ≤ k.toInt → k.toInt < (q.1 27 (Int32.toNatClampNeg a)).toInt → (q.1 26 (Int32.toNatClampNeg ((64 * a) + k))).toInt < (q.1 12 0).toInt) ∧ (∀ j : Nat, (q.1 25 0).toInt ≤ (j : Int) → (q.1 27 j).toInt = 0) ∧ (0 ≤ (q.1 31 0).toInt ∧ (q.1 31 0).toInt ≤ 400)
def gI_f (f : Nat) : Bool := f == 5 || f == 9 || f == 13 || f == 12 || f == 14 || f == 10 || f == 11 || f == 6 || f == 2
theorem gI_i {q : qM} {f i : Nat} {v : Int32} (h : gI_f f = false) (hI : gI q) : gI (mq_i q f i v) := by
  simp [gI_f] at h
  obtain ⟨⟨⟨⟨⟨⟨⟨⟨h5, h9⟩, h13⟩, h12⟩, h14⟩, h10⟩, h11⟩, h6⟩, h2⟩ := h
  unfold gI
  rw [mq_i_ne q v (Ne.symm h5), mq_i_ne q v (Ne.symm h9), mq_i_ne q v (Ne.symm h13), mq_i_ne q v (Ne.symm h12), mq_i_ne q v (Ne.symm h14), mq_i_ne q v (Ne.symm h10), mq_i_ne q v (Ne.symm h11), mq_i_ne q v (Ne.symm h6), mq_i_ne q v (Ne.symm h2)]
  exact hI
theorem gI_l {q : qM} {f i : Nat} {v : Int64} (h : true = true) (hI : gI q) : gI (mq_l q f i v) := hI
def lI_f (f : Nat) : Bool := f == 25 || f == 27 || f == 26 || f == 12 || f == 31
theorem lI_i {q : qM} {f i : Nat} {v : Int32} (h : lI_f f = false) (hI : lI q) : lI (mq_i q f i v) := by
  simp [lI_f] at h
  obtain ⟨⟨⟨⟨h25, h27⟩, h26⟩, h12⟩, h31⟩ := h
  unfold lI
  rw [mq_i_ne q v (Ne.symm h25), mq_i_ne q v (Ne.symm h27), mq_i_ne q v (Ne.symm h26), mq_i_ne q v (Ne.symm h12), mq_i_ne q v (Ne.symm h31)]
  exact hI
theorem lI_l {q : qM} {f i : Nat} {v : Int64} (h : true = true) (hI : lI q) : lI (mq_l q f i v) := hI
theorem nf_t {q : qM} {f : Int32} (h : m_X8_noFolder q f = 0) : 0 ≤ f.toInt ∧ f.toInt ≤ 15 ∧ ¬ (q.1 9 (Int32.toNatClampNeg f)).toInt = -1 := by
  unfold m_X8_noFolder at h
  by_cases h1 : m_X8_isIn f 0 15 = 0
  · rw [if_pos h1] at h; exact absurd h (by decide)
  · rw [if_neg h1] at h
    have h2 := is_t h1
    by_cases h3 : (q.1 9 (Int32.toNatClampNeg f)) = (-1)
    · rw [if_pos h3] at h; exact absurd h (by decide)
    · exact ⟨h2.1, h2.2, cv_ne h3⟩
theorem nr_t {q : qM} {r : Int32} (hI : gI q) (h : m_X8_noRecord q r = 0) : 0 ≤ r.toInt ∧ r.toInt < (q.1 12 0).toInt := by
  unfold m_X8_noRecord at h
  have h9 := hI.2.2.2.1
  obtain ⟨t, ht⟩ := su_e (q.1 12 0) 1
  have k1 : (1 : Int32).toInt = 1 := rfl
  by_cases h1 : m_X8_isIn r 0 ((q.1 12 0) - 1) = 0
  · rw [if_pos h1] at h; exact absurd h (by decide)
  · have h2 := is_t h1
    have k0 : (0 : Int32).toInt = 0 := rfl
    omega
theorem nl_t {q : qM} {r : Int32} (hL : lI q) (h : m_X8_noList q r = 0) : 0 ≤ r.toInt ∧ r.toInt < (q.1 25 0).toInt ∧ r.toInt ≤ 15 := by
  unfold m_X8_noList at h
  have h9 := hL.1
  obtain ⟨t, ht⟩ := su_e (q.1 25 0) 1
  have k1 : (1 : Int32).toInt = 1 := rfl
  by_cases h1 : m_X8_isIn r 0 ((q.1 25 0) - 1) = 0
  · rw [if_pos h1] at h; exact absurd h (by decide)
  · have h2 := is_t h1
    have k0 : (0 : Int32).toInt = 0 := rfl
    omega
theorem na_t {q : qM} {r : Int32} (hL : lI q) (h : m_X8_noAct q r = 0) : 0 ≤ r.toInt ∧ r.toInt < (q.1 31 0).toInt ∧ r.toInt ≤ 399 := by
  unfold m_X8_noAct at h
  have h9 := hL.2.2.2.2.2
  obtain ⟨t, ht⟩ := su_e (q.1 31 0) 1
  have k1 : (1 : Int32).toInt = 1 := rfl
  by_cases h1 : m_X8_isIn r 0 ((q.1 31 0) - 1) = 0
  · rw [if_pos h1] at h; exact absurd h (by decide)
  · have h2 := is_t h1
    have k0 : (0 : Int32).toInt = 0 := rfl
    omega
theorem no_t {k : Int32} (h : m_X8_noOfficer k = 0) : 0 ≤ k.toInt ∧ k.toInt ≤ 7 := by
  unfold m_X8_noOfficer at h
  by_cases h1 : m_X8_isIn k 0 7 = 0
  · rw [if_pos h1] at h; exact absurd h (by decide)
  · exact is_t h1
theorem hr_t {q : qM} {n : Int32} (h : ¬ m_X8_hasRoom q n = 0) : (q.1 31 0).toInt + n.toInt ≤ 400 ∨ 2147483647 < (q.1 31 0).toInt + n.toInt := by
  unfold m_X8_hasRoom at h
  by_cases h1 : 400 < ((q.1 31 0) + n)
  · rw [if_pos h1] at h; exact absurd rfl h
  · have h2 := cv_nlt h1
    have h3 := ad_o (q.1 31 0) n
    have k4 : (400 : Int32).toInt = 400 := rfl
    omega
theorem dy_t {q : qM} {d : Int32} (h : ¬ m_X8_isDay q d = 0) : 0 ≤ d.toInt ∧ d.toInt ≤ 120000 ∧ (q.1 3 0).toInt ≤ d.toInt := by
  unfold m_X8_isDay at h
  by_cases h1 : m_X8_isIn d 0 120000 = 0
  · rw [if_pos h1] at h; exact absurd rfl h
  · rw [if_neg h1] at h
    have h2 := is_t h1
    by_cases h3 : d < (q.1 3 0)
    · rw [if_pos h3] at h; exact absurd rfl h
    · exact ⟨h2.1, h2.2, cv_nlt h3⟩
theorem tm_t {a b : Int32} (h : ¬ m_X8_isTerm a b = 0) : 0 ≤ a.toInt ∧ a.toInt ≤ 100 ∧ 0 ≤ b.toInt ∧ b.toInt ≤ 11 := by
  unfold m_X8_isTerm at h
  by_cases h1 : m_X8_isIn a 0 100 = 0
  · rw [if_pos h1] at h; exact absurd rfl h
  · rw [if_neg h1] at h
    have h2 := is_t h1
    by_cases h3 : m_X8_isIn b 0 11 = 0
    · rw [if_pos h3] at h; exact absurd rfl h
    · have h4 := is_t h3
      exact ⟨h2.1, h2.2, h4.1, h4.2⟩

theorem mo_lp_rg : ∀ (n : Nat) (a k : Int32), 0 ≤ a.toInt → 0 ≤ k.toInt → a.toInt + k.toInt ≤ 200000 → 0 ≤ (m_X8_monthOf_lp n a k).toInt ∧ 28 * (m_X8_monthOf_lp n a k).toInt ≤ a.toInt + 28 * k.toInt := by
  intro n
  induction n with
  | zero => intro a k h1 h2 h3; exact ⟨by show 0 ≤ (0 : Int32).toInt; decide, by show 28 * (0 : Int32).toInt ≤ _; have k0 : (0 : Int32).toInt = 0 := rfl; omega⟩
  | succ n ih =>
    intro a k h1 h2 h3
    rw [m_X8_monthOf_lp]
    by_cases h : a < m_X8_inMonth (1900 + (k / 12)) ((k - k / 12 * 12) + 1)
    · rw [if_pos h]; exact ⟨h2, by omega⟩
    · rw [if_neg h]
      have g1 := im_rg (1900 + (k / 12)) ((k - k / 12 * 12) + 1)
      have g2 := cv_nlt h
      obtain ⟨t, ht⟩ := su_e a (m_X8_inMonth (1900 + (k / 12)) ((k - k / 12 * 12) + 1))
      obtain ⟨t2, ht2⟩ := ad_e k 1
      have k1 : (1 : Int32).toInt = 1 := rfl
      have := ih (a - m_X8_inMonth (1900 + (k / 12)) ((k - k / 12 * 12) + 1)) (k + 1) (by omega) (by omega) (by omega)
      omega
theorem mo_rg (d : Int32) (h1 : 0 ≤ d.toInt) (h2 : d.toInt ≤ 200000) : 0 ≤ (m_X8_monthOf d).toInt ∧ 28 * (m_X8_monthOf d).toInt ≤ d.toInt := by
  have := mo_lp_rg (Int.toNat d.toInt + 1) d 0 h1 (by decide) (by have k0 : (0 : Int32).toInt = 0 := rfl; omega)
  have k0 : (0 : Int32).toInt = 0 := rfl
  unfold m_X8_monthOf
  omega

def m_X8_begin_lp (month : Int32) : Nat → Int32 → Int32 → Int32
  | 0, _, _ => 0
  | n + 1, day, k => (if month ≤ k then day else (m_X8_begin_lp month n (day + (m_X8_inMonth (1900 + (k / 12)) ((k - k / 12 * 12) + 1))) (k + 1)))
def m_X8_begin (month : Int32) : Int32 := (m_X8_begin_lp month (Int.toNat month.toInt + 1) 0 0)
set_option maxHeartbeats 4000000 in
set_option maxRecDepth 100000 in
theorem c_X8_begin (l : Launch) (D : va_G) (b0 : Nat) (Pc : Nat → Nat → Option va_E) (cA : Nat → ClassId) (ad : Nat → Nat → Nat) (q : qM) (month : Int32) (hd : 0 ≤ (month : Int32).toInt) : mc_i l yX8_begin wsX8_begin 1 22 D b0 Pc cA ad q [.int month] (m_X8_begin month, q) := by
  refine mc_of (by decide) rfl (Nat.le_of_ble_eq_true rfl) ?_
  intro p e s m below meth c hx hb hml hr hlk hown hts hK hW ls hl
  have hown : s.vm.findClass RX8 = some m.cls := hown
  have hS : va_S (wA b0) s.heap s.heap [] := va_S.rf
  have hl : lv_has ls 3 [(0, .int month)] := hl
  refine lv_iconst (v := 0) hx hb dX8_begin_0 (by decide) ?_
  refine lv_istore_n (lv' := [(1, .int 0), (0, .int month)]) hx hb dX8_begin_1 rfl hl (by decide) rfl (fun ls hl => ?_)
  refine lv_iconst (v := 0) hx hb dX8_begin_2 (by decide) ?_
  refine lv_istore_n (lv' := [(2, .int 0), (1, .int 0), (0, .int month)]) hx hb dX8_begin_3 rfl hl (by decide) rfl (fun ls hl => ?_)
  have lp_5 : ∀ (Q : State → Prop) (n : Nat) (day : Int32) (k : Int32), (0 ≤ k.toInt ∧ k.toInt ≤ month.toInt) → month.toInt - k.toInt < (n : Int) → (∀ o_1 : Int32, o_1 = (m_X8_begin_lp month n day k) → ∀ (H : Heap) (locs : List Loc), wd D (wA b0) (PW Pc cA ad q) ad H → va_S (wA b0) s.heap H locs → ∀ ls : Array Slot, lv_has ls 3 [(1, .int o_1), (0, .int month)] → W p l e { frames := 1, cells := 0, slots := 0, locals := 22 } s m [.int month].toArray below meth c H locs 0 0 Q (F0 m 35 ls [])) → ∀ (H : Heap) (locs : List Loc), wd D (wA b0) (PW Pc cA ad q) ad H → va_S (wA b0) s.heap H locs → ∀ ls : Array Slot, lv_has ls 3 [(1, .int day), (2, .int k), (0, .int month)] → W p l e { frames := 1, cells := 0, slots := 0, locals := 22 } s m [.int month].toArray below meth c H locs 0 0 Q (F0 m 4 ls []) := by
    intro Q n
    induction n with
    | zero =>
      intro day k i1 hm
      have hz : 0 ≤ month.toInt - k.toInt := by
        have w_1 := hd
        have w_2 := i1
        omega
      exact absurd hm (by omega)
    | succ n ih =>
      intro day k i1 hm kk H locs hW hS ls hl
      refine lv_iload_n hx hb dX8_begin_4 rfl (lv_at hl 1 rfl) ?_
      refine lv_iload_n hx hb dX8_begin_5 rfl (lv_at hl 2 rfl) ?_
      refine lv_icmp_ge (tgt := 35) hx hb dX8_begin_6 (by decide) (fun c_2 => ?_) (fun c_2 => ?_)
      · exact kk day (by rw [m_X8_begin_lp, if_pos c_2])  H locs hW hS ls (lv_sub hl [0, 2] rfl)
      · refine lv_iload_n hx hb dX8_begin_9 rfl (lv_at hl 0 rfl) ?_
        refine lv_sipush (v := 1900) hx hb dX8_begin_10 (by decide) ?_
        refine lv_iload_n hx hb dX8_begin_13 rfl (lv_at hl 1 rfl) ?_
        refine lv_bipush (v := 12) hx hb dX8_begin_14 (by decide) ?_
        refine lv_idiv hx hb dX8_begin_16 (by decide) ?_
        refine lv_iadd hx hb dX8_begin_17 ?_
        refine lv_iload_n hx hb dX8_begin_18 rfl (lv_at hl 1 rfl) ?_
        refine lv_bipush (v := 12) hx hb dX8_begin_19 (by decide) ?_
        refine lv_irem hx hb dX8_begin_21 (by decide) ?_
        refine lv_iconst (v := 1) hx hb dX8_begin_22 (by decide) ?_
        refine lv_iadd hx hb dX8_begin_23 ?_
        refine mm_callSi (n := 2) (As := [.int (1900 + (k / 12)), .int ((k - k / 12 * 12) + 1)]) (rest := [.int day]) (r := (m_X8_inMonth (1900 + (k / 12)) ((k - k / 12 * 12) + 1))) (q2 := q) ⟨hx, hb, hml, hown, hts⟩ (c_X8_inMonth l D b0 Pc cA ad q (1900 + (k / 12)) ((k - k / 12 * 12) + 1)) gX8_begin_X8_inMonth rfl (by decide +kernel) rfl ⟨Nat.le_of_ble_eq_true rfl, Nat.le_of_ble_eq_true rfl⟩ ⟨Nat.le_of_ble_eq_true rfl, Nat.le_of_ble_eq_true rfl⟩ hK hW hS hl.1 rfl (Nat.le_of_ble_eq_true rfl) dX8_begin_24 (fun H locs hW hS => ?_)
        refine lv_iadd hx hb dX8_begin_27 ?_
        refine lv_istore_n (lv' := [(1, .int (day + (m_X8_inMonth (1900 + (k / 12)) ((k - k / 12 * 12) + 1)))), (2, .int k), (0, .int month)]) hx hb dX8_begin_28 rfl hl (by decide) rfl (fun ls hl => ?_)
        refine lv_iinc (v := (k + 1)) (lv' := [(2, .int (k + 1)), (1, .int (day + (m_X8_inMonth (1900 + (k / 12)) ((k - k / 12 * 12) + 1)))), (0, .int month)]) hx hb dX8_begin_29 hl (k := 1) rfl (by first | rfl | decide) (by decide) rfl (fun ls hl => ?_)
        refine lv_goto (tgt := 4) hx hb dX8_begin_32 (by decide) ?_
        have h_3 : 0 ≤ (k + 1).toInt ∧ (k + 1).toInt ≤ month.toInt := by
          have u_1 := rg_e day
          have u_2 := rg_e (m_X8_inMonth (1900 + (k / 12)) ((k - k / 12 * 12) + 1))
          have k_3 : (1900 : Int32).toInt = 1900 := rfl
          have u_4 := rg_e k
          have k_5 : (12 : Int32).toInt = 12 := rfl
          have r_6 := rg_e (k / 12)
          have r_8 := rg_e (k - k / 12 * 12)
          have k_9 : (1 : Int32).toInt = 1 := rfl
          have u_14 := rg_e month
          have v_15 := cv_nle c_2
          have w_16 := hd
          have w_17 := i1
          have u_6 := dv_e 12 k (rfl : (12 : Int32).toInt = 12) (by decide)
          have u_7 := ad_o 1900 (k / 12)
          have u_8 := rm_e 12 k (rfl : (12 : Int32).toInt = 12) (by decide)
          have u_10 := ad_o (k - k / 12 * 12) 1
          have u_11 := im_rg (1900 + (k / 12)) ((k - k / 12 * 12) + 1)
          have u_12 := ad_o day (m_X8_inMonth (1900 + (k / 12)) ((k - k / 12 * 12) + 1))
          have u_13 := ad_o k 1
          omega
        have h_4 : month.toInt - (k + 1).toInt < (n : Int) := by
          have u_1 := rg_e day
          have u_2 := rg_e (m_X8_inMonth (1900 + (k / 12)) ((k - k / 12 * 12) + 1))
          have k_3 : (1900 : Int32).toInt = 1900 := rfl
          have u_4 := rg_e k
          have k_5 : (12 : Int32).toInt = 12 := rfl
          have r_6 := rg_e (k / 12)
          have r_8 := rg_e (k - k / 12 * 12)
          have k_9 : (1 : Int32).toInt = 1 := rfl
          have u_14 := rg_e month
          have v_15 := cv_nle c_2
          have w_16 := hd
          have w_17 := i1
          have w_18 := hm
          have u_6 := dv_e 12 k (rfl : (12 : Int32).toInt = 12) (by decide)
          have u_7 := ad_o 1900 (k / 12)
          have u_8 := rm_e 12 k (rfl : (12 : Int32).toInt = 12) (by decide)
          have u_10 := ad_o (k - k / 12 * 12) 1
          have u_11 := im_rg (1900 + (k / 12)) ((k - k / 12 * 12) + 1)
          have u_12 := ad_o day (m_X8_inMonth (1900 + (k / 12)) ((k - k / 12 * 12) + 1))
          have u_13 := ad_o k 1
          omega
        exact ih (day + (m_X8_inMonth (1900 + (k / 12)) ((k - k / 12 * 12) + 1))) (k + 1) h_3 h_4 (fun o_1 eo_1 => kk o_1 (eo_1.trans (by rw [m_X8_begin_lp, if_neg c_2]))) _ _ hW hS ls (lv_sub hl [1, 0, 2] rfl)
  have h_6 : 0 ≤ (0 : Int32).toInt ∧ (0 : Int32).toInt ≤ month.toInt := by
    have k_1 : (0 : Int32).toInt = 0 := rfl
    have w_2 := hd
    omega
  have h_7 : month.toInt - (0 : Int32).toInt < (((Int.toNat month.toInt + 1) : Nat) : Int) := by
    have k_1 : (0 : Int32).toInt = 0 := rfl
    have w_2 := hd
    omega
  refine lp_5 _ (Int.toNat month.toInt + 1) 0 0 h_6 h_7 (fun o_1 eo_1 H locs hW hS ls hl => ?_) _ _ hW hS ls (lv_sub hl [1, 0, 2] rfl)
  refine lv_iload_n hx hb dX8_begin_35 rfl (lv_at hl 0 rfl) ?_
  exact mm_iret hx hb hr hlk hK hW hS (by rw [m_X8_begin, ← eo_1]) dX8_begin_36

def m_X8_add (day : Int32) (months : Int32) : Int32 := (if ((m_X8_inMonth (1900 + (((m_X8_monthOf day) + months) / 12)) ((((m_X8_monthOf day) + months) - ((m_X8_monthOf day) + months) / 12 * 12) + 1)) - 1) ≤ (day - (m_X8_begin (m_X8_monthOf day))) then ((m_X8_begin ((m_X8_monthOf day) + months)) + ((m_X8_inMonth (1900 + (((m_X8_monthOf day) + months) / 12)) ((((m_X8_monthOf day) + months) - ((m_X8_monthOf day) + months) / 12 * 12) + 1)) - 1)) else ((m_X8_begin ((m_X8_monthOf day) + months)) + (day - (m_X8_begin (m_X8_monthOf day)))))
set_option maxHeartbeats 4000000 in
set_option maxRecDepth 100000 in
theorem c_X8_add (l : Launch) (D : va_G) (b0 : Nat) (Pc : Nat → Nat → Option va_E) (cA : Nat → ClassId) (ad : Nat → Nat → Nat) (q : qM) (day : Int32) (months : Int32) (hd : 0 ≤ (day : Int32).toInt ∧ (day : Int32).toInt ≤ 200000) (hn : 0 ≤ (months : Int32).toInt ∧ (months : Int32).toInt ≤ 2000) : mc_i l yX8_add wsX8_add 2 44 D b0 Pc cA ad q [.int day, .int months] (m_X8_add day months, q) := by
  refine mc_of (by decide) rfl (Nat.le_of_ble_eq_true rfl) ?_
  intro p e s m below meth c hx hb hml hr hlk hown hts hK hW ls hl
  have hown : s.vm.findClass RX8 = some m.cls := hown
  have hS : va_S (wA b0) s.heap s.heap [] := va_S.rf
  have hl : lv_has ls 6 [(0, .int day), (1, .int months)] := hl
  refine lv_iload_n hx hb dX8_add_0 rfl (lv_at hl 0 rfl) ?_
  have h_1 : 0 ≤ (day : Int32).toInt := by
    have u_1 := rg_e day
    have w_2 := hd
    have w_3 := hn
    exact by omega
  refine mm_callSi (n := 1) (As := [.int day]) (rest := []) (r := (m_X8_monthOf day)) (q2 := q) ⟨hx, hb, hml, hown, hts⟩ (c_X8_monthOf l D b0 Pc cA ad q day h_1) gX8_add_X8_monthOf rfl (by decide +kernel) rfl ⟨Nat.le_of_ble_eq_true rfl, Nat.le_of_ble_eq_true rfl⟩ ⟨Nat.le_of_ble_eq_true rfl, Nat.le_of_ble_eq_true rfl⟩ hK hW hS hl.1 rfl (Nat.le_of_ble_eq_true rfl) dX8_add_1 (fun H locs hW hS => ?_)
  refine lv_istore_n (lv' := [(2, .int (m_X8_monthOf day)), (0, .int day), (1, .int months)]) hx hb dX8_add_4 rfl hl (by decide) rfl (fun ls hl => ?_)
  refine lv_iload_n hx hb dX8_add_5 rfl (lv_at hl 1 rfl) ?_
  refine lv_iload_n hx hb dX8_add_6 rfl (lv_at hl 0 rfl) ?_
  have h_2 : 0 ≤ ((m_X8_monthOf day) : Int32).toInt := by
    have u_1 := rg_e (m_X8_monthOf day)
    have u_2 := rg_e day
    have w_4 := hd
    have w_5 := hn
    have u_3 := (fun h1 h2 => mo_rg day h1 h2)
    exact by omega
  refine mm_callSi (n := 1) (As := [.int (m_X8_monthOf day)]) (rest := [.int day]) (r := (m_X8_begin (m_X8_monthOf day))) (q2 := q) ⟨hx, hb, hml, hown, hts⟩ (c_X8_begin l D b0 Pc cA ad q (m_X8_monthOf day) h_2) gX8_add_X8_begin rfl (by decide +kernel) rfl ⟨Nat.le_of_ble_eq_true rfl, Nat.le_of_ble_eq_true rfl⟩ ⟨Nat.le_of_ble_eq_true rfl, Nat.le_of_ble_eq_true rfl⟩ hK hW hS hl.1 rfl (Nat.le_of_ble_eq_true rfl) dX8_add_7 (fun H locs hW hS => ?_)
  refine lv_isub hx hb dX8_add_10 ?_
  refine lv_istore_n (lv' := [(3, .int (day - (m_X8_begin (m_X8_monthOf day)))), (2, .int (m_X8_monthOf day)), (0, .int day), (1, .int months)]) hx hb dX8_add_11 rfl hl (by decide) rfl (fun ls hl => ?_)
  refine lv_iload_n hx hb dX8_add_12 rfl (lv_at hl 1 rfl) ?_
  refine lv_iload_n hx hb dX8_add_13 rfl (lv_at hl 3 rfl) ?_
  refine lv_iadd hx hb dX8_add_14 ?_
  refine lv_istore (lv' := [(4, .int ((m_X8_monthOf day) + months)), (3, .int (day - (m_X8_begin (m_X8_monthOf day)))), (2, .int (m_X8_monthOf day)), (0, .int day), (1, .int months)]) hx hb dX8_add_15 hl (by decide) rfl (fun ls hl => ?_)
  refine lv_sipush (v := 1900) hx hb dX8_add_17 (by decide) ?_
  refine lv_iload hx hb dX8_add_20 (lv_at hl 0 rfl) ?_
  refine lv_bipush (v := 12) hx hb dX8_add_22 (by decide) ?_
  refine lv_idiv hx hb dX8_add_24 (by decide) ?_
  refine lv_iadd hx hb dX8_add_25 ?_
  refine lv_iload hx hb dX8_add_26 (lv_at hl 0 rfl) ?_
  refine lv_bipush (v := 12) hx hb dX8_add_28 (by decide) ?_
  refine lv_irem hx hb dX8_add_30 (by decide) ?_
  refine lv_iconst (v := 1) hx hb dX8_add_31 (by decide) ?_
  refine lv_iadd hx hb dX8_add_32 ?_
  refine mm_callSi (n := 2) (As := [.int (1900 + (((m_X8_monthOf day) + months) / 12)), .int ((((m_X8_monthOf day) + months) - ((m_X8_monthOf day) + months) / 12 * 12) + 1)]) (rest := []) (r := (m_X8_inMonth (1900 + (((m_X8_monthOf day) + months) / 12)) ((((m_X8_monthOf day) + months) - ((m_X8_monthOf day) + months) / 12 * 12) + 1))) (q2 := q) ⟨hx, hb, hml, hown, hts⟩ (c_X8_inMonth l D b0 Pc cA ad q (1900 + (((m_X8_monthOf day) + months) / 12)) ((((m_X8_monthOf day) + months) - ((m_X8_monthOf day) + months) / 12 * 12) + 1)) gX8_add_X8_inMonth rfl (by decide +kernel) rfl ⟨Nat.le_of_ble_eq_true rfl, Nat.le_of_ble_eq_true rfl⟩ ⟨Nat.le_of_ble_eq_true rfl, Nat.le_of_ble_eq_true rfl⟩ hK hW hS hl.1 rfl (Nat.le_of_ble_eq_true rfl) dX8_add_33 (fun H locs hW hS => ?_)
  refine lv_iconst (v := 1) hx hb dX8_add_36 (by decide) ?_
  refine lv_isub hx hb dX8_add_37 ?_
  refine lv_istore (lv' := [(5, .int ((m_X8_inMonth (1900 + (((m_X8_monthOf day) + months) / 12)) ((((m_X8_monthOf day) + months) - ((m_X8_monthOf day) + months) / 12 * 12) + 1)) - 1)), (4, .int ((m_X8_monthOf day) + months)), (3, .int (day - (m_X8_begin (m_X8_monthOf day)))), (2, .int (m_X8_monthOf day)), (0, .int day), (1, .int months)]) hx hb dX8_add_38 hl (by decide) rfl (fun ls hl => ?_)
  refine lv_iload hx hb dX8_add_40 (lv_at hl 1 rfl) ?_
  have h_3 : 0 ≤ (((m_X8_monthOf day) + months) : Int32).toInt := by
    have u_1 := rg_e (m_X8_monthOf day)
    have u_2 := rg_e day
    have u_4 := rg_e months
    have w_6 := hd
    have w_7 := hn
    have u_3 := (fun h1 h2 => mo_rg day h1 h2)
    have u_5 := ad_o (m_X8_monthOf day) months
    exact by omega
  refine mm_callSi (n := 1) (As := [.int ((m_X8_monthOf day) + months)]) (rest := []) (r := (m_X8_begin ((m_X8_monthOf day) + months))) (q2 := q) ⟨hx, hb, hml, hown, hts⟩ (c_X8_begin l D b0 Pc cA ad q ((m_X8_monthOf day) + months) h_3) gX8_add_X8_begin rfl (by decide +kernel) rfl ⟨Nat.le_of_ble_eq_true rfl, Nat.le_of_ble_eq_true rfl⟩ ⟨Nat.le_of_ble_eq_true rfl, Nat.le_of_ble_eq_true rfl⟩ hK hW hS hl.1 rfl (Nat.le_of_ble_eq_true rfl) dX8_add_42 (fun H locs hW hS => ?_)
  refine lv_iload_n hx hb dX8_add_45 rfl (lv_at hl 2 rfl) ?_
  refine lv_iload hx hb dX8_add_46 (lv_at hl 0 rfl) ?_
  refine lv_icmp_ge (tgt := 55) hx hb dX8_add_48 (by decide) (fun c_4 => ?_) (fun c_4 => ?_)
  · refine lv_iload hx hb dX8_add_55 (lv_at hl 0 rfl) ?_
    refine lv_iadd hx hb dX8_add_57 ?_
    exact mm_iret hx hb hr hlk hK hW hS (by rw [m_X8_add, if_pos c_4]) dX8_add_58
  · refine lv_iload_n hx hb dX8_add_51 rfl (lv_at hl 2 rfl) ?_
    refine lv_goto (tgt := 57) hx hb dX8_add_52 (by decide) ?_
    refine lv_iadd hx hb dX8_add_57 ?_
    exact mm_iret hx hb hr hlk hK hW hS (by rw [m_X8_add, if_neg c_4]) dX8_add_58

def m_X8_later (q : qM) (day : Int32) (years : Int32) (months : Int32) : Int32 × qM := (if (m_X8_isIn day 0 120000) = 0 then (0, (mq_i q 0 0 1)) else (if (m_X8_isTerm years months) = 0 then (0, (mq_i q 0 0 1)) else ((m_X8_add day ((12 * years) + months)), (mq_i q 0 0 0))))
set_option maxHeartbeats 4000000 in
set_option maxRecDepth 100000 in
theorem c_X8_later (l : Launch) (D : va_G) (b0 : Nat) (Pc : Nat → Nat → Option va_E) (cA : Nat → ClassId) (ad : Nat → Nat → Nat) (q : qM) (day : Int32) (years : Int32) (months : Int32) : mc_i l yX8_later wsX8_later 3 69 D b0 Pc cA ad q [.ref (ad 20 0), .int day, .int years, .int months] (m_X8_later q day years months) := by
  refine mc_of (by decide) rfl (Nat.le_of_ble_eq_true rfl) ?_
  intro p e s m below meth c hx hb hml hr hlk hown hts hK hW ls hl
  have hown : s.vm.findClass RX8 = some m.cls := hown
  have hS : va_S (wA b0) s.heap s.heap [] := va_S.rf
  have hl : lv_has ls 4 [(0, .ref (ad 20 0)), (1, .int day), (2, .int years), (3, .int months)] := hl
  have hin : ∀ w ∈ wsX80, w ∈ wsX8_later := fun w h => List.mem_cons_of_mem _ (List.mem_append_right _ h)
  refine lv_aload_n hx hb dX8_later_0 rfl (lv_at hl 0 rfl) ?_
  refine lv_iload_n hx hb dX8_later_1 rfl (lv_at hl 1 rfl) ?_
  refine lv_iconst (v := 0) hx hb dX8_later_2 (by decide) ?_
  refine lv_ldc (v := 120000) hx hb hown (hts _ (List.mem_of_getElem? (i := 1) rfl)) dX8_later_3 ?_
  refine mm_callSi (n := 3) (As := [.int day, .int 0, .int 120000]) (rest := [.ref (ad 20 0)]) (r := (m_X8_isIn day 0 120000)) (q2 := q) ⟨hx, hb, hml, hown, hts⟩ (c_X8_isIn l D b0 Pc cA ad q day 0 120000) gX8_later_X8_isIn rfl (by decide +kernel) rfl ⟨Nat.le_of_ble_eq_true rfl, Nat.le_of_ble_eq_true rfl⟩ ⟨Nat.le_of_ble_eq_true rfl, Nat.le_of_ble_eq_true rfl⟩ hK hW hS hl.1 rfl (Nat.le_of_ble_eq_true rfl) dX8_later_5 (fun H locs hW hS => ?_)
  refine lv_if_eq (tgt := 23) hx hb dX8_later_8 (by decide) (fun c_1 => ?_) (fun c_1 => ?_)
  · refine lv_iconst (v := 1) hx hb dX8_later_23 (by decide) ?_
    refine mm_put hx hb hts hin hown hK hW hS 0 (by decide) (List.mem_of_getElem? (i := 2) rfl) rfl rfl (by decide +kernel) rfl (ws_0 ad _ _) dX8_later_24 (fun H locs hW hS => ?_)
    refine lv_aload_n hx hb dX8_later_27 rfl (lv_at hl 0 rfl) ?_
    refine mm_gets (v := 1) hx hb hts hin hown hK hW 0 (by decide) (List.mem_of_getElem? (i := 2) rfl) rfl rfl (mq_same q 0 0 1) dX8_later_28 ?_
    refine lv_if_le (tgt := 38) hx hb dX8_later_31 (by decide) (fun h => absurd h (by decide)) (fun _ => ?_)
    refine lv_iconst (v := 0) hx hb dX8_later_34 (by decide) ?_
    refine lv_goto (tgt := 48) hx hb dX8_later_35 (by decide) ?_
    exact mm_iret hx hb hr hlk hK hW hS (by rw [m_X8_later, if_pos c_1]) dX8_later_48
  · refine lv_iload_n hx hb dX8_later_11 rfl (lv_at hl 2 rfl) ?_
    refine lv_iload_n hx hb dX8_later_12 rfl (lv_at hl 3 rfl) ?_
    refine mm_callSi (n := 2) (As := [.int years, .int months]) (rest := [.ref (ad 20 0)]) (r := (m_X8_isTerm years months)) (q2 := q) ⟨hx, hb, hml, hown, hts⟩ (c_X8_isTerm l D b0 Pc cA ad q years months) gX8_later_X8_isTerm rfl (by decide +kernel) rfl ⟨Nat.le_of_ble_eq_true rfl, Nat.le_of_ble_eq_true rfl⟩ ⟨Nat.le_of_ble_eq_true rfl, Nat.le_of_ble_eq_true rfl⟩ hK hW hS hl.1 rfl (Nat.le_of_ble_eq_true rfl) dX8_later_13 (fun H locs hW hS => ?_)
    refine lv_if_eq (tgt := 23) hx hb dX8_later_16 (by decide) (fun c_2 => ?_) (fun c_2 => ?_)
    · refine lv_iconst (v := 1) hx hb dX8_later_23 (by decide) ?_
      refine mm_put hx hb hts hin hown hK hW hS 0 (by decide) (List.mem_of_getElem? (i := 2) rfl) rfl rfl (by decide +kernel) rfl (ws_0 ad _ _) dX8_later_24 (fun H locs hW hS => ?_)
      refine lv_aload_n hx hb dX8_later_27 rfl (lv_at hl 0 rfl) ?_
      refine mm_gets (v := 1) hx hb hts hin hown hK hW 0 (by decide) (List.mem_of_getElem? (i := 2) rfl) rfl rfl (mq_same q 0 0 1) dX8_later_28 ?_
      refine lv_if_le (tgt := 38) hx hb dX8_later_31 (by decide) (fun h => absurd h (by decide)) (fun _ => ?_)
      refine lv_iconst (v := 0) hx hb dX8_later_34 (by decide) ?_
      refine lv_goto (tgt := 48) hx hb dX8_later_35 (by decide) ?_
      exact mm_iret hx hb hr hlk hK hW hS (by rw [m_X8_later, if_neg c_1, if_pos c_2]) dX8_later_48
    · refine lv_iconst (v := 0) hx hb dX8_later_19 (by decide) ?_
      refine lv_goto (tgt := 24) hx hb dX8_later_20 (by decide) ?_
      refine mm_put hx hb hts hin hown hK hW hS 0 (by decide) (List.mem_of_getElem? (i := 2) rfl) rfl rfl (by decide +kernel) rfl (ws_0 ad _ _) dX8_later_24 (fun H locs hW hS => ?_)
      refine lv_aload_n hx hb dX8_later_27 rfl (lv_at hl 0 rfl) ?_
      refine mm_gets (v := 0) hx hb hts hin hown hK hW 0 (by decide) (List.mem_of_getElem? (i := 2) rfl) rfl rfl (mq_same q 0 0 0) dX8_later_28 ?_
      refine lv_if_le (tgt := 38) hx hb dX8_later_31 (by decide) (fun _ => ?_) (fun h => absurd h (by decide))
      refine lv_iload_n hx hb dX8_later_38 rfl (lv_at hl 1 rfl) ?_
      refine lv_bipush (v := 12) hx hb dX8_later_39 (by decide) ?_
      refine lv_iload_n hx hb dX8_later_41 rfl (lv_at hl 2 rfl) ?_
      refine lv_imul hx hb dX8_later_42 ?_
      refine lv_iload_n hx hb dX8_later_43 rfl (lv_at hl 3 rfl) ?_
      refine lv_iadd hx hb dX8_later_44 ?_
      have h_3 : 0 ≤ (day : Int32).toInt ∧ (day : Int32).toInt ≤ 200000 := by
        have u_1 := rg_e day
        have k_2 : (12 : Int32).toInt = 12 := rfl
        have u_3 := rg_e years
        have u_5 := rg_e months
        have u_7 := rg_e (m_X8_isIn day 0 120000)
        have k_8 : (0 : Int32).toInt = 0 := rfl
        have v_9 := cv_ne c_1
        have k_10 : (120000 : Int32).toInt = 120000 := rfl
        have v_11 := is_t c_1
        have u_12 := rg_e (m_X8_isTerm years months)
        have v_13 := cv_ne c_2
        have v_14 := tm_t c_2
        have u_4 := mu_o 12 12 years rfl
        have u_6 := ad_o (12 * years) months
        exact by omega
      have h_4 : 0 ≤ (((12 * years) + months) : Int32).toInt ∧ (((12 * years) + months) : Int32).toInt ≤ 2000 := by
        have u_1 := rg_e day
        have k_2 : (12 : Int32).toInt = 12 := rfl
        have u_3 := rg_e years
        have u_5 := rg_e months
        have u_7 := rg_e (m_X8_isIn day 0 120000)
        have k_8 : (0 : Int32).toInt = 0 := rfl
        have v_9 := cv_ne c_1
        have k_10 : (120000 : Int32).toInt = 120000 := rfl
        have v_11 := is_t c_1
        have u_12 := rg_e (m_X8_isTerm years months)
        have v_13 := cv_ne c_2
        have v_14 := tm_t c_2
        have u_4 := mu_o 12 12 years rfl
        have u_6 := ad_o (12 * years) months
        exact by omega
      refine mm_callSi (n := 2) (As := [.int day, .int ((12 * years) + months)]) (rest := []) (r := (m_X8_add day ((12 * years) + months))) (q2 := (mq_i q 0 0 0)) ⟨hx, hb, hml, hown, hts⟩ (c_X8_add l D b0 Pc cA ad (mq_i q 0 0 0) day ((12 * years) + months) h_3 h_4) gX8_later_X8_add rfl (by decide +kernel) rfl ⟨Nat.le_of_ble_eq_true rfl, Nat.le_of_ble_eq_true rfl⟩ ⟨Nat.le_of_ble_eq_true rfl, Nat.le_of_ble_eq_true rfl⟩ hK hW hS hl.1 rfl (Nat.le_of_ble_eq_true rfl) dX8_later_45 (fun H locs hW hS => ?_)
      exact mm_iret hx hb hr hlk hK hW hS (by rw [m_X8_later, if_neg c_1, if_neg c_2]) dX8_later_48
