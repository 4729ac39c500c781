/-! laid by wip/whole/tools/model5.py -/
theorem be_lp_rg (month : Int32) : ∀ (n : Nat) (d k : Int32), 0 ≤ k.toInt → k.toInt ≤ month.toInt → month.toInt - k.toInt < (n : Int) → 0 ≤ d.toInt → d.toInt + 31 * (month.toInt - k.toInt) ≤ 2000000000 → d.toInt + 28 * (month.toInt - k.toInt) ≤ (m_X8_begin_lp month n d k).toInt ∧ (m_X8_begin_lp month n d k).toInt ≤ d.toInt + 31 * (month.toInt - k.toInt) := by
  intro n
  induction n with
  | zero => intro d k h1 h2 h3; omega
  | succ n ih =>
    intro d k h1 h2 h3 h4 h5
    rw [m_X8_begin_lp]
    by_cases h : month ≤ k
    · rw [if_pos h]; have := cv_le h; omega
    · rw [if_neg h]
      have g1 := im_rg (1900 + (k / 12)) ((k - k / 12 * 12) + 1)
      have g2 := cv_nle h
      have g3 := ad_o d (m_X8_inMonth (1900 + (k / 12)) ((k - k / 12 * 12) + 1))
      have g4 := ad_o k 1
      have g9 := rg_e month
      have k1 : (1 : Int32).toInt = 1 := rfl
      have := ih (d + m_X8_inMonth (1900 + (k / 12)) ((k - k / 12 * 12) + 1)) (k + 1) (by omega) (by omega) (by omega) (by omega) (by omega)
      omega
theorem be_rg (m : Int32) (h1 : 0 ≤ m.toInt) (h2 : m.toInt ≤ 10000) : 28 * m.toInt ≤ (m_X8_begin m).toInt ∧ (m_X8_begin m).toInt ≤ 31 * m.toInt := by
  have k0 : (0 : Int32).toInt = 0 := rfl
  have := be_lp_rg m (Int.toNat m.toInt + 1) 0 0 (by decide) (by omega) (by omega) (by decide) (by omega)
  unfold m_X8_begin
  omega

def m_X8_fiscalEnd_lp (q : qM) : Nat → Int32 → Int32
  | 0, _ => 0
  | n + 1, mm => (if ((mm - mm / 12 * 12) + 1) = (q.1 2 0) then mm else (m_X8_fiscalEnd_lp q n (mm + 1)))
def m_X8_fiscalEnd (q : qM) (day : Int32) : Int32 := ((m_X8_begin (m_X8_fiscalEnd_lp q 12 ((m_X8_monthOf day) + 1))) - 1)
set_option maxHeartbeats 4000000 in
set_option maxRecDepth 100000 in
theorem c_X8_fiscalEnd (l : Launch) (D : va_G) (b0 : Nat) (Pc : Nat → Nat → Option va_E) (cA : Nat → ClassId) (ad : Nat → Nat → Nat) (q : qM) (day : Int32) (hd : 0 ≤ (day : Int32).toInt ∧ (day : Int32).toInt ≤ 120000) (hI : gI q) : mc_i l yX8_fiscalEnd wsX8_fiscalEnd 2 44 D b0 Pc cA ad q [.ref (ad 20 0), .int day] (m_X8_fiscalEnd q day, q) := by
  refine mc_of (by decide) rfl (Nat.le_of_ble_eq_true rfl) ?_
  intro p e s m below meth c hx hb hml hr hlk hown hts hK hW ls hl
  have hown : s.vm.findClass RX8 = some m.cls := hown
  have hS : va_S (wA b0) s.heap s.heap [] := va_S.rf
  have hl : lv_has ls 3 [(0, .ref (ad 20 0)), (1, .int day)] := hl
  have hin : ∀ w ∈ wsX80, w ∈ wsX8_fiscalEnd := fun w h => List.mem_cons_of_mem _ (List.mem_append_right _ h)
  refine lv_iload_n hx hb dX8_fiscalEnd_0 rfl (lv_at hl 1 rfl) ?_
  have h_1 : 0 ≤ (day : Int32).toInt := by
    have u_1 := rg_e day
    have w_2 := hd
    have w_3 := hI.2.2.2.2.2.2.2.2.1
    exact by omega
  refine mm_callSi (n := 1) (As := [.int day]) (rest := []) (r := (m_X8_monthOf day)) (q2 := q) ⟨hx, hb, hml, hown, hts⟩ (c_X8_monthOf l D b0 Pc cA ad q day h_1) gX8_fiscalEnd_X8_monthOf rfl (by decide +kernel) rfl ⟨Nat.le_of_ble_eq_true rfl, Nat.le_of_ble_eq_true rfl⟩ ⟨Nat.le_of_ble_eq_true rfl, Nat.le_of_ble_eq_true rfl⟩ hK hW hS hl.1 rfl (Nat.le_of_ble_eq_true rfl) dX8_fiscalEnd_1 (fun H locs hW hS => ?_)
  refine lv_iconst (v := 1) hx hb dX8_fiscalEnd_4 (by decide) ?_
  refine lv_iadd hx hb dX8_fiscalEnd_5 ?_
  refine lv_istore_n (lv' := [(2, .int ((m_X8_monthOf day) + 1)), (0, .ref (ad 20 0)), (1, .int day)]) hx hb dX8_fiscalEnd_6 rfl hl (by decide) rfl (fun ls hl => ?_)
  have lp_7 : ∀ (Q : State → Prop) (n : Nat) (mm : Int32), (0 ≤ mm.toInt ∧ mm.toInt + ((q.1 2 0).toInt - 1 - mm.toInt) % 12 ≤ 5000) → ((q.1 2 0).toInt - 1 - mm.toInt) % 12 < (n : Int) → (∀ o_2 : Int32, o_2 = (m_X8_fiscalEnd_lp q n mm) → (0 ≤ (o_2).toInt) → ∀ (H : Heap) (locs : List Loc), wd D (wA b0) (PW Pc cA ad q) ad H → va_S (wA b0) s.heap H locs → ∀ ls : Array Slot, lv_has ls 3 [(2, .int o_2), (0, .ref (ad 20 0)), (1, .int day)] → W p l e { frames := 2, cells := 0, slots := 0, locals := 44 } s m [.ref (ad 20 0), .int day].toArray below meth c H locs 0 0 Q (F0 m 26 ls [])) → ∀ (H : Heap) (locs : List Loc), wd D (wA b0) (PW Pc cA ad q) ad H → va_S (wA b0) s.heap H locs → ∀ ls : Array Slot, lv_has ls 3 [(2, .int mm), (0, .ref (ad 20 0)), (1, .int day)] → W p l e { frames := 2, cells := 0, slots := 0, locals := 44 } s m [.ref (ad 20 0), .int day].toArray below meth c H locs 0 0 Q (F0 m 7 ls []) := by
    intro Q n
    induction n with
    | zero =>
      intro mm i1 hm
      have hz : 0 ≤ ((q.1 2 0).toInt - 1 - mm.toInt) % 12 := by
        have w_1 := hd
        have w_2 := hI.2.2.2.2.2.2.2.2.1
        have w_3 := i1
        omega
      exact absurd hm (by omega)
    | succ n ih =>
      intro mm i1 hm kk H locs hW hS ls hl
      refine lv_iload_n hx hb dX8_fiscalEnd_7 rfl (lv_at hl 0 rfl) ?_
      refine lv_bipush (v := 12) hx hb dX8_fiscalEnd_8 (by decide) ?_
      refine lv_irem hx hb dX8_fiscalEnd_10 (by decide) ?_
      refine lv_iconst (v := 1) hx hb dX8_fiscalEnd_11 (by decide) ?_
      refine lv_iadd hx hb dX8_fiscalEnd_12 ?_
      refine lv_aload_n hx hb dX8_fiscalEnd_13 rfl (lv_at hl 1 rfl) ?_
      refine mm_gets (v := (q.1 2 0)) hx hb hts hin hown hK hW 2 (by decide) (List.mem_of_getElem? (i := 1) rfl) rfl rfl (rfl) dX8_fiscalEnd_14 ?_
      refine lv_icmp_eq (tgt := 26) hx hb dX8_fiscalEnd_17 (by decide) (fun c_3 => ?_) (fun c_3 => ?_)
      · have h_4 : 0 ≤ (mm).toInt := by
          have u_1 := rg_e mm
          have k_2 : (12 : Int32).toInt = 12 := rfl
          have r_3 := rg_e (mm - mm / 12 * 12)
          have k_4 : (1 : Int32).toInt = 1 := rfl
          have u_6 := rg_e (q.1 2 0)
          have v_7 := cv_eq c_3
          have w_8 := hd
          have w_9 := hI.2.2.2.2.2.2.2.2.1
          have w_10 := i1
          have u_3 := rm_e 12 mm (rfl : (12 : Int32).toInt = 12) (by decide)
          have u_5 := ad_o (mm - mm / 12 * 12) 1
          omega
        exact kk mm (by rw [m_X8_fiscalEnd_lp, if_pos c_3]) h_4 H locs hW hS ls (lv_sub hl [0, 1, 2] rfl)
      · refine lv_iinc (v := (mm + 1)) (lv' := [(2, .int (mm + 1)), (0, .ref (ad 20 0)), (1, .int day)]) hx hb dX8_fiscalEnd_20 hl (k := 0) rfl (by first | rfl | decide) (by decide) rfl (fun ls hl => ?_)
        refine lv_goto (tgt := 7) hx hb dX8_fiscalEnd_23 (by decide) ?_
        have h_5 : 0 ≤ (mm + 1).toInt ∧ (mm + 1).toInt + ((q.1 2 0).toInt - 1 - (mm + 1).toInt) % 12 ≤ 5000 := by
          have u_1 := rg_e mm
          have k_2 : (1 : Int32).toInt = 1 := rfl
          have k_4 : (12 : Int32).toInt = 12 := rfl
          have r_5 := rg_e (mm - mm / 12 * 12)
          have u_7 := rg_e (q.1 2 0)
          have v_8 := cv_ne c_3
          have w_9 := hd
          have w_10 := hI.2.2.2.2.2.2.2.2.1
          have w_11 := i1
          have u_3 := ad_o mm 1
          have u_5 := rm_e 12 mm (rfl : (12 : Int32).toInt = 12) (by decide)
          have u_6 := ad_o (mm - mm / 12 * 12) 1
          omega
        have h_6 : ((q.1 2 0).toInt - 1 - (mm + 1).toInt) % 12 < (n : Int) := by
          have u_1 := rg_e mm
          have k_2 : (1 : Int32).toInt = 1 := rfl
          have k_4 : (12 : Int32).toInt = 12 := rfl
          have r_5 := rg_e (mm - mm / 12 * 12)
          have u_7 := rg_e (q.1 2 0)
          have v_8 := cv_ne c_3
          have w_9 := hd
          have w_10 := hI.2.2.2.2.2.2.2.2.1
          have w_11 := i1
          have w_12 := hm
          have u_3 := ad_o mm 1
          have u_5 := rm_e 12 mm (rfl : (12 : Int32).toInt = 12) (by decide)
          have u_6 := ad_o (mm - mm / 12 * 12) 1
          omega
        exact ih (mm + 1) h_5 h_6 (fun o_2 eo_2 => kk o_2 (eo_2.trans (by rw [m_X8_fiscalEnd_lp, if_neg c_3]))) _ _ hW hS ls (lv_sub hl [0, 1, 2] rfl)
  have h_8 : 0 ≤ ((m_X8_monthOf day) + 1).toInt ∧ ((m_X8_monthOf day) + 1).toInt + ((q.1 2 0).toInt - 1 - ((m_X8_monthOf day) + 1).toInt) % 12 ≤ 5000 := by
    have u_1 := rg_e (m_X8_monthOf day)
    have u_2 := rg_e day
    have k_4 : (1 : Int32).toInt = 1 := rfl
    have w_6 := hd
    have w_7 := hI.2.2.2.2.2.2.2.2.1
    have u_3 := (fun h1 h2 => mo_rg day h1 h2)
    have u_5 := ad_o (m_X8_monthOf day) 1
    omega
  have h_9 : ((q.1 2 0).toInt - 1 - ((m_X8_monthOf day) + 1).toInt) % 12 < ((12 : Nat) : Int) := by
    have u_1 := rg_e (m_X8_monthOf day)
    have u_2 := rg_e day
    have k_4 : (1 : Int32).toInt = 1 := rfl
    have w_6 := hd
    have w_7 := hI.2.2.2.2.2.2.2.2.1
    have u_3 := (fun h1 h2 => mo_rg day h1 h2)
    have u_5 := ad_o (m_X8_monthOf day) 1
    omega
  refine lp_7 _ 12 ((m_X8_monthOf day) + 1) h_8 h_9 (fun o_2 eo_2 ho_2 H locs hW hS ls hl => ?_) _ _ hW hS ls (lv_sub hl [0, 1, 2] rfl)
  refine lv_iload_n hx hb dX8_fiscalEnd_26 rfl (lv_at hl 0 rfl) ?_
  have h_10 : 0 ≤ (o_2 : Int32).toInt := by
    have u_1 := rg_e o_2
    have w_2 := hd
    have w_3 := hI.2.2.2.2.2.2.2.2.1
    have w_4 := ho_2
    exact by omega
  refine mm_callSi (n := 1) (As := [.int o_2]) (rest := []) (r := (m_X8_begin o_2)) (q2 := q) ⟨hx, hb, hml, hown, hts⟩ (c_X8_begin l D b0 Pc cA ad q o_2 h_10) gX8_fiscalEnd_X8_begin rfl (by decide +kernel) rfl ⟨Nat.le_of_ble_eq_true rfl, Nat.le_of_ble_eq_true rfl⟩ ⟨Nat.le_of_ble_eq_true rfl, Nat.le_of_ble_eq_true rfl⟩ hK hW hS hl.1 rfl (Nat.le_of_ble_eq_true rfl) dX8_fiscalEnd_27 (fun H locs hW hS => ?_)
  refine lv_iconst (v := 1) hx hb dX8_fiscalEnd_30 (by decide) ?_
  refine lv_isub hx hb dX8_fiscalEnd_31 ?_
  exact mm_iret hx hb hr hlk hK hW hS (by rw [m_X8_fiscalEnd, ← eo_2]) dX8_fiscalEnd_32

theorem fe_lp_rg (q : qM) : ∀ (n : Nat) (k : Int32), 0 ≤ k.toInt → k.toInt + (n : Int) ≤ 100000 → 0 ≤ (m_X8_fiscalEnd_lp q n k).toInt ∧ (m_X8_fiscalEnd_lp q n k).toInt ≤ k.toInt + (n : Int) := by
  intro n
  induction n with
  | zero => intro k h1 h2; exact ⟨by show 0 ≤ (0 : Int32).toInt; decide, by show (0 : Int32).toInt ≤ _; have k0 : (0 : Int32).toInt = 0 := rfl; omega⟩
  | succ n ih =>
    intro k h1 h2
    rw [m_X8_fiscalEnd_lp]
    split
    · omega
    · have g4 := ad_o k 1
      have k1 : (1 : Int32).toInt = 1 := rfl
      have := ih (k + 1) (by omega) (by omega)
      omega
theorem fe_rg (q : qM) (d : Int32) (h1 : 0 ≤ d.toInt) (h2 : d.toInt ≤ 120000) : -1 ≤ (m_X8_fiscalEnd q d).toInt ∧ (m_X8_fiscalEnd q d).toInt ≤ 200000 := by
  unfold m_X8_fiscalEnd
  have g1 := mo_rg d h1 (by omega)
  have g2 := ad_o (m_X8_monthOf d) 1
  have k1 : (1 : Int32).toInt = 1 := rfl
  have g3 := fe_lp_rg q 12 (m_X8_monthOf d + 1) (by omega) (by omega)
  have g4 := be_rg (m_X8_fiscalEnd_lp q 12 (m_X8_monthOf d + 1)) (by omega) (by omega)
  have g5 := su_o (m_X8_begin (m_X8_fiscalEnd_lp q 12 (m_X8_monthOf d + 1))) 1
  omega
theorem tf_rg {q : qM} (hI : gI q) (a b : Int32) : 0 ≤ (m_X8_termFor q a b).toInt ∧ (m_X8_termFor q a b).toInt ≤ 1211 := by
  unfold m_X8_termFor
  exact hI.2.2.2.2.2.2.2.1 _
theorem tn_e {r : Int32} (h : 0 ≤ r.toInt) : ((r.toNatClampNeg : Nat) : Int) = r.toInt := by
  show ((r.toInt.toNat : Nat) : Int) = r.toInt
  omega
theorem cg_e {q : qM} {r : Int32} (hI : gI q) (hr : 0 ≤ r.toInt ∧ r.toInt < (q.1 12 0).toInt) : 0 ≤ (q.1 9 (Int32.toNatClampNeg (q.1 13 (Int32.toNatClampNeg r)))).toInt :=
  hI.2.2.2.2.2.2.2.2.2 _ (by rw [tn_e hr.1]; exact hr.2)

def m_X8_dueOf (q : qM) (r : Int32) : Int32 := (if (q.1 4 (Int32.toNatClampNeg (q.1 9 (Int32.toNatClampNeg (q.1 13 (Int32.toNatClampNeg r)))))) = 0 then (if (q.1 14 (Int32.toNatClampNeg r)) = (-1) then (-1) else (m_X8_add (q.1 14 (Int32.toNatClampNeg r)) (m_X8_termFor q (q.1 9 (Int32.toNatClampNeg (q.1 13 (Int32.toNatClampNeg r)))) (q.1 14 (Int32.toNatClampNeg r))))) else (if (q.1 4 (Int32.toNatClampNeg (q.1 9 (Int32.toNatClampNeg (q.1 13 (Int32.toNatClampNeg r)))))) = 1 then (if (q.1 10 (Int32.toNatClampNeg (q.1 13 (Int32.toNatClampNeg r)))) = (-1) then (-1) else (m_X8_add (q.1 10 (Int32.toNatClampNeg (q.1 13 (Int32.toNatClampNeg r)))) (m_X8_termFor q (q.1 9 (Int32.toNatClampNeg (q.1 13 (Int32.toNatClampNeg r)))) (q.1 10 (Int32.toNatClampNeg (q.1 13 (Int32.toNatClampNeg r))))))) else (if (q.1 4 (Int32.toNatClampNeg (q.1 9 (Int32.toNatClampNeg (q.1 13 (Int32.toNatClampNeg r)))))) = 2 then (if (q.1 11 (Int32.toNatClampNeg (q.1 13 (Int32.toNatClampNeg r)))) = (-1) then (-1) else (m_X8_add (q.1 11 (Int32.toNatClampNeg (q.1 13 (Int32.toNatClampNeg r)))) (m_X8_termFor q (q.1 9 (Int32.toNatClampNeg (q.1 13 (Int32.toNatClampNeg r)))) (q.1 11 (Int32.toNatClampNeg (q.1 13 (Int32.toNatClampNeg r))))))) else (if (m_X8_fiscalEnd q (q.1 14 (Int32.toNatClampNeg r))) = (-1) then (-1) else (m_X8_add (m_X8_fiscalEnd q (q.1 14 (Int32.toNatClampNeg r))) (m_X8_termFor q (q.1 9 (Int32.toNatClampNeg (q.1 13 (Int32.toNatClampNeg r)))) (m_X8_fiscalEnd q (q.1 14 (Int32.toNatClampNeg r)))))))))
set_option maxHeartbeats 4000000 in
set_option maxRecDepth 100000 in
theorem c_X8_dueOf (l : Launch) (D : va_G) (b0 : Nat) (Pc : Nat → Nat → Option va_E) (cA : Nat → ClassId) (ad : Nat → Nat → Nat) (q : qM) (r : Int32) (hrr : 0 ≤ (r : Int32).toInt ∧ (r : Int32).toInt < (q.1 12 0).toInt) (hI : gI q) : mc_i l yX8_dueOf wsX8_dueOf 3 69 D b0 Pc cA ad q [.ref (ad 20 0), .int r] (m_X8_dueOf q r, q) := by
  refine mc_of (by decide) rfl (Nat.le_of_ble_eq_true rfl) ?_
  intro p e s m below meth c hx hb hml hr hlk hown hts hK hW ls hl
  have hown : s.vm.findClass RX8 = some m.cls := hown
  have hS : va_S (wA b0) s.heap s.heap [] := va_S.rf
  have hl : lv_has ls 5 [(0, .ref (ad 20 0)), (1, .int r)] := hl
  have hin : ∀ w ∈ wsX80, w ∈ wsX8_dueOf := fun w h => List.mem_cons_of_mem _ (List.mem_append_right _ h)
  refine lv_aload_n hx hb dX8_dueOf_0 rfl (lv_at hl 0 rfl) ?_
  refine mm_get (v := .ref (ad 21 13)) hx hb hts hin hown hK hW 13 (by decide) (List.mem_of_getElem? (i := 1) rfl) rfl rfl dX8_dueOf_1 ?_
  refine lv_iload_n hx hb dX8_dueOf_4 rfl (lv_at hl 1 rfl) ?_
  have b_1 : vp_in r 64 := by
    have u_1 := rg_e r
    have w_2 := hrr
    have w_3 := hI.2.2.2.1
    have w_4 := hI.2.2.1 (Int32.toNatClampNeg r)
    have w_5 := hI.2.1 (Int32.toNatClampNeg (q.1 13 (Int32.toNatClampNeg r)))
    have w_6 := cg_e hI hrr
    have w_7 := hI.2.2.2.2.1 (Int32.toNatClampNeg r)
    have w_8 := hI.2.2.2.2.2.1 (Int32.toNatClampNeg (q.1 13 (Int32.toNatClampNeg r)))
    have w_9 := hI.2.2.2.2.2.2.1 (Int32.toNatClampNeg (q.1 13 (Int32.toNatClampNeg r)))
    exact vp_in_iff.mpr (by omega)
  refine mm_iald (v := (q.1 13 (Int32.toNatClampNeg r))) hx hb hK hW 13 64 rfl b_1 ((rfl)) dX8_dueOf_5 ?_
  refine lv_istore_n (lv' := [(2, .int (q.1 13 (Int32.toNatClampNeg r))), (0, .ref (ad 20 0)), (1, .int r)]) hx hb dX8_dueOf_6 rfl hl (by decide) rfl (fun ls hl => ?_)
  refine lv_aload_n hx hb dX8_dueOf_7 rfl (lv_at hl 1 rfl) ?_
  refine mm_get (v := .ref (ad 21 9)) hx hb hts hin hown hK hW 9 (by decide) (List.mem_of_getElem? (i := 2) rfl) rfl rfl dX8_dueOf_8 ?_
  refine lv_iload_n hx hb dX8_dueOf_11 rfl (lv_at hl 0 rfl) ?_
  have b_2 : vp_in (q.1 13 (Int32.toNatClampNeg r)) 16 := by
    have u_1 := rg_e r
    have u_2 := rg_e (q.1 13 (Int32.toNatClampNeg r))
    have w_3 := hrr
    have w_4 := hI.2.2.2.1
    have w_5 := hI.2.2.1 (Int32.toNatClampNeg r)
    have w_6 := hI.2.1 (Int32.toNatClampNeg (q.1 13 (Int32.toNatClampNeg r)))
    have w_7 := cg_e hI hrr
    have w_8 := hI.2.2.2.2.1 (Int32.toNatClampNeg r)
    have w_9 := hI.2.2.2.2.2.1 (Int32.toNatClampNeg (q.1 13 (Int32.toNatClampNeg r)))
    have w_10 := hI.2.2.2.2.2.2.1 (Int32.toNatClampNeg (q.1 13 (Int32.toNatClampNeg r)))
    exact vp_in_iff.mpr (by omega)
  refine mm_iald (v := (q.1 9 (Int32.toNatClampNeg (q.1 13 (Int32.toNatClampNeg r))))) hx hb hK hW 9 16 rfl b_2 ((rfl)) dX8_dueOf_12 ?_
  refine lv_istore_n (lv' := [(3, .int (q.1 9 (Int32.toNatClampNeg (q.1 13 (Int32.toNatClampNeg r))))), (2, .int (q.1 13 (Int32.toNatClampNeg r))), (0, .ref (ad 20 0)), (1, .int r)]) hx hb dX8_dueOf_13 rfl hl (by decide) rfl (fun ls hl => ?_)
  refine lv_aload_n hx hb dX8_dueOf_14 rfl (lv_at hl 2 rfl) ?_
  refine mm_get (v := .ref (ad 21 4)) hx hb hts hin hown hK hW 4 (by decide) (List.mem_of_getElem? (i := 3) rfl) rfl rfl dX8_dueOf_15 ?_
  refine lv_iload_n hx hb dX8_dueOf_18 rfl (lv_at hl 0 rfl) ?_
  have b_3 : vp_in (q.1 9 (Int32.toNatClampNeg (q.1 13 (Int32.toNatClampNeg r)))) 8 := by
    have u_1 := rg_e r
    have u_2 := rg_e (q.1 13 (Int32.toNatClampNeg r))
    have u_3 := rg_e (q.1 9 (Int32.toNatClampNeg (q.1 13 (Int32.toNatClampNeg r))))
    have w_4 := hrr
    have w_5 := hI.2.2.2.1
    have w_6 := hI.2.2.1 (Int32.toNatClampNeg r)
    have w_7 := hI.2.1 (Int32.toNatClampNeg (q.1 13 (Int32.toNatClampNeg r)))
    have w_8 := cg_e hI hrr
    have w_9 := hI.2.2.2.2.1 (Int32.toNatClampNeg r)
    have w_10 := hI.2.2.2.2.2.1 (Int32.toNatClampNeg (q.1 13 (Int32.toNatClampNeg r)))
    have w_11 := hI.2.2.2.2.2.2.1 (Int32.toNatClampNeg (q.1 13 (Int32.toNatClampNeg r)))
    exact vp_in_iff.mpr (by omega)
  refine mm_iald (v := (q.1 4 (Int32.toNatClampNeg (q.1 9 (Int32.toNatClampNeg (q.1 13 (Int32.toNatClampNeg r))))))) hx hb hK hW 4 8 rfl b_3 ((rfl)) dX8_dueOf_19 ?_
  refine lv_if_ne (tgt := 32) hx hb dX8_dueOf_20 (by decide) (fun c_4 => ?_) (fun c_4 => ?_)
  · refine lv_aload_n hx hb dX8_dueOf_32 rfl (lv_at hl 2 rfl) ?_
    refine mm_get (v := .ref (ad 21 4)) hx hb hts hin hown hK hW 4 (by decide) (List.mem_of_getElem? (i := 3) rfl) rfl rfl dX8_dueOf_33 ?_
    refine lv_iload_n hx hb dX8_dueOf_36 rfl (lv_at hl 0 rfl) ?_
    have b_5 : vp_in (q.1 9 (Int32.toNatClampNeg (q.1 13 (Int32.toNatClampNeg r)))) 8 := by
      have u_1 := rg_e r
      have u_2 := rg_e (q.1 13 (Int32.toNatClampNeg r))
      have u_3 := rg_e (q.1 9 (Int32.toNatClampNeg (q.1 13 (Int32.toNatClampNeg r))))
      have u_4 := rg_e (q.1 4 (Int32.toNatClampNeg (q.1 9 (Int32.toNatClampNeg (q.1 13 (Int32.toNatClampNeg r))))))
      have k_5 : (0 : Int32).toInt = 0 := rfl
      have v_6 := cv_ne c_4
      have w_7 := hrr
      have w_8 := hI.2.2.2.1
      have w_9 := hI.2.2.1 (Int32.toNatClampNeg r)
      have w_10 := hI.2.1 (Int32.toNatClampNeg (q.1 13 (Int32.toNatClampNeg r)))
      have w_11 := cg_e hI hrr
      have w_12 := hI.2.2.2.2.1 (Int32.toNatClampNeg r)
      have w_13 := hI.2.2.2.2.2.1 (Int32.toNatClampNeg (q.1 13 (Int32.toNatClampNeg r)))
      have w_14 := hI.2.2.2.2.2.2.1 (Int32.toNatClampNeg (q.1 13 (Int32.toNatClampNeg r)))
      exact vp_in_iff.mpr (by omega)
    refine mm_iald (v := (q.1 4 (Int32.toNatClampNeg (q.1 9 (Int32.toNatClampNeg (q.1 13 (Int32.toNatClampNeg r))))))) hx hb hK hW 4 8 rfl b_5 ((rfl)) dX8_dueOf_37 ?_
    refine lv_iconst (v := 1) hx hb dX8_dueOf_38 (by decide) ?_
    refine lv_icmp_ne (tgt := 51) hx hb dX8_dueOf_39 (by decide) (fun c_6 => ?_) (fun c_6 => ?_)
    · refine lv_aload_n hx hb dX8_dueOf_51 rfl (lv_at hl 2 rfl) ?_
      refine mm_get (v := .ref (ad 21 4)) hx hb hts hin hown hK hW 4 (by decide) (List.mem_of_getElem? (i := 3) rfl) rfl rfl dX8_dueOf_52 ?_
      refine lv_iload_n hx hb dX8_dueOf_55 rfl (lv_at hl 0 rfl) ?_
      have b_7 : vp_in (q.1 9 (Int32.toNatClampNeg (q.1 13 (Int32.toNatClampNeg r)))) 8 := by
        have u_1 := rg_e r
        have u_2 := rg_e (q.1 13 (Int32.toNatClampNeg r))
        have u_3 := rg_e (q.1 9 (Int32.toNatClampNeg (q.1 13 (Int32.toNatClampNeg r))))
        have u_4 := rg_e (q.1 4 (Int32.toNatClampNeg (q.1 9 (Int32.toNatClampNeg (q.1 13 (Int32.toNatClampNeg r))))))
        have k_5 : (0 : Int32).toInt = 0 := rfl
        have v_6 := cv_ne c_4
        have k_7 : (1 : Int32).toInt = 1 := rfl
        have v_8 := cv_ne c_6
        have w_9 := hrr
        have w_10 := hI.2.2.2.1
        have w_11 := hI.2.2.1 (Int32.toNatClampNeg r)
        have w_12 := hI.2.1 (Int32.toNatClampNeg (q.1 13 (Int32.toNatClampNeg r)))
        have w_13 := cg_e hI hrr
        have w_14 := hI.2.2.2.2.1 (Int32.toNatClampNeg r)
        have w_15 := hI.2.2.2.2.2.1 (Int32.toNatClampNeg (q.1 13 (Int32.toNatClampNeg r)))
        have w_16 := hI.2.2.2.2.2.2.1 (Int32.toNatClampNeg (q.1 13 (Int32.toNatClampNeg r)))
        exact vp_in_iff.mpr (by omega)
      refine mm_iald (v := (q.1 4 (Int32.toNatClampNeg (q.1 9 (Int32.toNatClampNeg (q.1 13 (Int32.toNatClampNeg r))))))) hx hb hK hW 4 8 rfl b_7 ((rfl)) dX8_dueOf_56 ?_
      refine lv_iconst (v := 2) hx hb dX8_dueOf_57 (by decide) ?_
      refine lv_icmp_ne (tgt := 70) hx hb dX8_dueOf_58 (by decide) (fun c_8 => ?_) (fun c_8 => ?_)
      · refine lv_aload_n hx hb dX8_dueOf_70 rfl (lv_at hl 2 rfl) ?_
        refine lv_aload_n hx hb dX8_dueOf_71 rfl (lv_at hl 2 rfl) ?_
        refine mm_get (v := .ref (ad 21 14)) hx hb hts hin hown hK hW 14 (by decide) (List.mem_of_getElem? (i := 4) rfl) rfl rfl dX8_dueOf_72 ?_
        refine lv_iload_n hx hb dX8_dueOf_75 rfl (lv_at hl 3 rfl) ?_
        have b_9 : vp_in r 64 := by
          have u_1 := rg_e r
          have u_2 := rg_e (q.1 13 (Int32.toNatClampNeg r))
          have u_3 := rg_e (q.1 9 (Int32.toNatClampNeg (q.1 13 (Int32.toNatClampNeg r))))
          have u_4 := rg_e (q.1 4 (Int32.toNatClampNeg (q.1 9 (Int32.toNatClampNeg (q.1 13 (Int32.toNatClampNeg r))))))
          have k_5 : (0 : Int32).toInt = 0 := rfl
          have v_6 := cv_ne c_4
          have k_7 : (1 : Int32).toInt = 1 := rfl
          have v_8 := cv_ne c_6
          have k_9 : (2 : Int32).toInt = 2 := rfl
          have v_10 := cv_ne c_8
          have w_11 := hrr
          have w_12 := hI.2.2.2.1
          have w_13 := hI.2.2.1 (Int32.toNatClampNeg r)
          have w_14 := hI.2.1 (Int32.toNatClampNeg (q.1 13 (Int32.toNatClampNeg r)))
          have w_15 := cg_e hI hrr
          have w_16 := hI.2.2.2.2.1 (Int32.toNatClampNeg r)
          have w_17 := hI.2.2.2.2.2.1 (Int32.toNatClampNeg (q.1 13 (Int32.toNatClampNeg r)))
          have w_18 := hI.2.2.2.2.2.2.1 (Int32.toNatClampNeg (q.1 13 (Int32.toNatClampNeg r)))
          exact vp_in_iff.mpr (by omega)
        refine mm_iald (v := (q.1 14 (Int32.toNatClampNeg r))) hx hb hK hW 14 64 rfl b_9 ((rfl)) dX8_dueOf_76 ?_
        have h_10 : 0 ≤ ((q.1 14 (Int32.toNatClampNeg r)) : Int32).toInt ∧ ((q.1 14 (Int32.toNatClampNeg r)) : Int32).toInt ≤ 120000 := by
          have u_1 := rg_e r
          have u_2 := rg_e (q.1 14 (Int32.toNatClampNeg r))
          have u_3 := rg_e (q.1 13 (Int32.toNatClampNeg r))
          have u_4 := rg_e (q.1 9 (Int32.toNatClampNeg (q.1 13 (Int32.toNatClampNeg r))))
          have u_5 := rg_e (q.1 4 (Int32.toNatClampNeg (q.1 9 (Int32.toNatClampNeg (q.1 13 (Int32.toNatClampNeg r))))))
          have k_6 : (0 : Int32).toInt = 0 := rfl
          have v_7 := cv_ne c_4
          have k_8 : (1 : Int32).toInt = 1 := rfl
          have v_9 := cv_ne c_6
          have k_10 : (2 : Int32).toInt = 2 := rfl
          have v_11 := cv_ne c_8
          have w_12 := hrr
          have w_13 := hI.2.2.2.1
          have w_14 := hI.2.2.1 (Int32.toNatClampNeg r)
          have w_15 := hI.2.1 (Int32.toNatClampNeg (q.1 13 (Int32.toNatClampNeg r)))
          have w_16 := cg_e hI hrr
          have w_17 := hI.2.2.2.2.1 (Int32.toNatClampNeg r)
          have w_18 := hI.2.2.2.2.2.1 (Int32.toNatClampNeg (q.1 13 (Int32.toNatClampNeg r)))
          have w_19 := hI.2.2.2.2.2.2.1 (Int32.toNatClampNeg (q.1 13 (Int32.toNatClampNeg r)))
          exact by omega
        refine mm_callVi (n := 1) (As := [.int (q.1 14 (Int32.toNatClampNeg r))]) (rest := []) (r := (m_X8_fiscalEnd q (q.1 14 (Int32.toNatClampNeg r)))) (q2 := q) ⟨hx, hb, hml, hown, hts⟩ (c_X8_fiscalEnd l D b0 Pc cA ad q (q.1 14 (Int32.toNatClampNeg r)) h_10 hI) gX8_dueOf_X8_fiscalEnd rfl (by decide +kernel) rfl ⟨Nat.le_of_ble_eq_true rfl, Nat.le_of_ble_eq_true rfl⟩ ⟨Nat.le_of_ble_eq_true rfl, Nat.le_of_ble_eq_true rfl⟩ hK hW hS hl.1 rfl (Nat.le_of_ble_eq_true rfl) dX8_dueOf_77 (fun H locs hW hS => ?_)
        refine lv_istore (lv' := [(4, .int (m_X8_fiscalEnd q (q.1 14 (Int32.toNatClampNeg r)))), (3, .int (q.1 9 (Int32.toNatClampNeg (q.1 13 (Int32.toNatClampNeg r))))), (2, .int (q.1 13 (Int32.toNatClampNeg r))), (0, .ref (ad 20 0)), (1, .int r)]) hx hb dX8_dueOf_80 hl (by decide) rfl (fun ls hl => ?_)
        refine lv_iload hx hb dX8_dueOf_82 (lv_at hl 0 rfl) ?_
        refine lv_iconst (v := (-1)) hx hb dX8_dueOf_84 (by decide) ?_
        refine lv_icmp_ne (tgt := 92) hx hb dX8_dueOf_85 (by decide) (fun c_11 => ?_) (fun c_11 => ?_)
        · refine lv_iload hx hb dX8_dueOf_92 (lv_at hl 0 rfl) ?_
          refine lv_aload_n hx hb dX8_dueOf_94 rfl (lv_at hl 3 rfl) ?_
          refine lv_iload_n hx hb dX8_dueOf_95 rfl (lv_at hl 1 rfl) ?_
          refine lv_iload hx hb dX8_dueOf_96 (lv_at hl 0 rfl) ?_
          have h_12 : 0 ≤ ((q.1 9 (Int32.toNatClampNeg (q.1 13 (Int32.toNatClampNeg r)))) : Int32).toInt ∧ ((q.1 9 (Int32.toNatClampNeg (q.1 13 (Int32.toNatClampNeg r)))) : Int32).toInt ≤ 7 := by
            have u_1 := rg_e r
            have u_2 := rg_e (q.1 13 (Int32.toNatClampNeg r))
            have u_3 := rg_e (q.1 9 (Int32.toNatClampNeg (q.1 13 (Int32.toNatClampNeg r))))
            have u_4 := rg_e (m_X8_fiscalEnd q (q.1 14 (Int32.toNatClampNeg r)))
            have u_5 := rg_e (q.1 14 (Int32.toNatClampNeg r))
            have u_7 := rg_e (q.1 4 (Int32.toNatClampNeg (q.1 9 (Int32.toNatClampNeg (q.1 13 (Int32.toNatClampNeg r))))))
            have k_8 : (0 : Int32).toInt = 0 := rfl
            have v_9 := cv_ne c_4
            have k_10 : (1 : Int32).toInt = 1 := rfl
            have v_11 := cv_ne c_6
            have k_12 : (2 : Int32).toInt = 2 := rfl
            have v_13 := cv_ne c_8
            have k_14 : ((-1) : Int32).toInt = -1 := rfl
            have v_15 := cv_ne c_11
            have w_16 := hrr
            have w_17 := hI.2.2.2.1
            have w_18 := hI.2.2.1 (Int32.toNatClampNeg r)
            have w_19 := hI.2.1 (Int32.toNatClampNeg (q.1 13 (Int32.toNatClampNeg r)))
            have w_20 := cg_e hI hrr
            have w_21 := hI.2.2.2.2.1 (Int32.toNatClampNeg r)
            have w_22 := hI.2.2.2.2.2.1 (Int32.toNatClampNeg (q.1 13 (Int32.toNatClampNeg r)))
            have w_23 := hI.2.2.2.2.2.2.1 (Int32.toNatClampNeg (q.1 13 (Int32.toNatClampNeg r)))
            have u_6 := (fun h1 h2 => fe_rg q (q.1 14 (Int32.toNatClampNeg r)) h1 h2)
            exact by omega
          refine mm_callVi (n := 2) (As := [.int (q.1 9 (Int32.toNatClampNeg (q.1 13 (Int32.toNatClampNeg r)))), .int (m_X8_fiscalEnd q (q.1 14 (Int32.toNatClampNeg r)))]) (rest := [.int (m_X8_fiscalEnd q (q.1 14 (Int32.toNatClampNeg r)))]) (r := (m_X8_termFor q (q.1 9 (Int32.toNatClampNeg (q.1 13 (Int32.toNatClampNeg r)))) (m_X8_fiscalEnd q (q.1 14 (Int32.toNatClampNeg r))))) (q2 := q) ⟨hx, hb, hml, hown, hts⟩ (c_X8_termFor l D b0 Pc cA ad q (q.1 9 (Int32.toNatClampNeg (q.1 13 (Int32.toNatClampNeg r)))) (m_X8_fiscalEnd q (q.1 14 (Int32.toNatClampNeg r))) h_12 hI) gX8_dueOf_X8_termFor rfl (by decide +kernel) rfl ⟨Nat.le_of_ble_eq_true rfl, Nat.le_of_ble_eq_true rfl⟩ ⟨Nat.le_of_ble_eq_true rfl, Nat.le_of_ble_eq_true rfl⟩ hK hW hS hl.1 rfl (Nat.le_of_ble_eq_true rfl) dX8_dueOf_98 (fun H locs hW hS => ?_)
          have h_13 : 0 ≤ ((m_X8_fiscalEnd q (q.1 14 (Int32.toNatClampNeg r))) : Int32).toInt ∧ ((m_X8_fiscalEnd q (q.1 14 (Int32.toNatClampNeg r))) : Int32).toInt ≤ 200000 := by
            have u_1 := rg_e (m_X8_fiscalEnd q (q.1 14 (Int32.toNatClampNeg r)))
            have u_2 := rg_e r
            have u_3 := rg_e (q.1 14 (Int32.toNatClampNeg r))
            have u_5 := rg_e (m_X8_termFor q (q.1 9 (Int32.toNatClampNeg (q.1 13 (Int32.toNatClampNeg r)))) (m_X8_fiscalEnd q (q.1 14 (Int32.toNatClampNeg r))))
            have u_6 := rg_e (q.1 13 (Int32.toNatClampNeg r))
            have u_7 := rg_e (q.1 9 (Int32.toNatClampNeg (q.1 13 (Int32.toNatClampNeg r))))
            have u_9 := rg_e (q.1 4 (Int32.toNatClampNeg (q.1 9 (Int32.toNatClampNeg (q.1 13 (Int32.toNatClampNeg r))))))
            have k_10 : (0 : Int32).toInt = 0 := rfl
            have v_11 := cv_ne c_4
            have k_12 : (1 : Int32).toInt = 1 := rfl
            have v_13 := cv_ne c_6
            have k_14 : (2 : Int32).toInt = 2 := rfl
            have v_15 := cv_ne c_8
            have k_16 : ((-1) : Int32).toInt = -1 := rfl
            have v_17 := cv_ne c_11
            have w_18 := hrr
            have w_19 := hI.2.2.2.1
            have w_20 := hI.2.2.1 (Int32.toNatClampNeg r)
            have w_21 := hI.2.1 (Int32.toNatClampNeg (q.1 13 (Int32.toNatClampNeg r)))
            have w_22 := cg_e hI hrr
            have w_23 := hI.2.2.2.2.1 (Int32.toNatClampNeg r)
            have w_24 := hI.2.2.2.2.2.1 (Int32.toNatClampNeg (q.1 13 (Int32.toNatClampNeg r)))
            have w_25 := hI.2.2.2.2.2.2.1 (Int32.toNatClampNeg (q.1 13 (Int32.toNatClampNeg r)))
            have u_4 := (fun h1 h2 => fe_rg q (q.1 14 (Int32.toNatClampNeg r)) h1 h2)
            have u_8 := tf_rg hI (q.1 9 (Int32.toNatClampNeg (q.1 13 (Int32.toNatClampNeg r)))) (m_X8_fiscalEnd q (q.1 14 (Int32.toNatClampNeg r)))
            exact by omega
          have h_14 : 0 ≤ ((m_X8_termFor q (q.1 9 (Int32.toNatClampNeg (q.1 13 (Int32.toNatClampNeg r)))) (m_X8_fiscalEnd q (q.1 14 (Int32.toNatClampNeg r)))) : Int32).toInt ∧ ((m_X8_termFor q (q.1 9 (Int32.toNatClampNeg (q.1 13 (Int32.toNatClampNeg r)))) (m_X8_fiscalEnd q (q.1 14 (Int32.toNatClampNeg r)))) : Int32).toInt ≤ 2000 := by
            have u_1 := rg_e (m_X8_fiscalEnd q (q.1 14 (Int32.toNatClampNeg r)))
            have u_2 := rg_e r
            have u_3 := rg_e (q.1 14 (Int32.toNatClampNeg r))
            have u_5 := rg_e (m_X8_termFor q (q.1 9 (Int32.toNatClampNeg (q.1 13 (Int32.toNatClampNeg r)))) (m_X8_fiscalEnd q (q.1 14 (Int32.toNatClampNeg r))))
            have u_6 := rg_e (q.1 13 (Int32.toNatClampNeg r))
            have u_7 := rg_e (q.1 9 (Int32.toNatClampNeg (q.1 13 (Int32.toNatClampNeg r))))
            have u_9 := rg_e (q.1 4 (Int32.toNatClampNeg (q.1 9 (Int32.toNatClampNeg (q.1 13 (Int32.toNatClampNeg r))))))
            have k_10 : (0 : Int32).toInt = 0 := rfl
            have v_11 := cv_ne c_4
            have k_12 : (1 : Int32).toInt = 1 := rfl
            have v_13 := cv_ne c_6
            have k_14 : (2 : Int32).toInt = 2 := rfl
            have v_15 := cv_ne c_8
            have k_16 : ((-1) : Int32).toInt = -1 := rfl
            have v_17 := cv_ne c_11
            have w_18 := hrr
            have w_19 := hI.2.2.2.1
            have w_20 := hI.2.2.1 (Int32.toNatClampNeg r)
            have w_21 := hI.2.1 (Int32.toNatClampNeg (q.1 13 (Int32.toNatClampNeg r)))
            have w_22 := cg_e hI hrr
            have w_23 := hI.2.2.2.2.1 (Int32.toNatClampNeg r)
            have w_24 := hI.2.2.2.2.2.1 (Int32.toNatClampNeg (q.1 13 (Int32.toNatClampNeg r)))
            have w_25 := hI.2.2.2.2.2.2.1 (Int32.toNatClampNeg (q.1 13 (Int32.toNatClampNeg r)))
            have u_4 := (fun h1 h2 => fe_rg q (q.1 14 (Int32.toNatClampNeg r)) h1 h2)
            have u_8 := tf_rg hI (q.1 9 (Int32.toNatClampNeg (q.1 13 (Int32.toNatClampNeg r)))) (m_X8_fiscalEnd q (q.1 14 (Int32.toNatClampNeg r)))
            exact by omega
          refine mm_callSi (n := 2) (As := [.int (m_X8_fiscalEnd q (q.1 14 (Int32.toNatClampNeg r))), .int (m_X8_termFor q (q.1 9 (Int32.toNatClampNeg (q.1 13 (Int32.toNatClampNeg r)))) (m_X8_fiscalEnd q (q.1 14 (Int32.toNatClampNeg r))))]) (rest := []) (r := (m_X8_add (m_X8_fiscalEnd q (q.1 14 (Int32.toNatClampNeg r))) (m_X8_termFor q (q.1 9 (Int32.toNatClampNeg (q.1 13 (Int32.toNatClampNeg r)))) (m_X8_fiscalEnd q (q.1 14 (Int32.toNatClampNeg r)))))) (q2 := q) ⟨hx, hb, hml, hown, hts⟩ (c_X8_add l D b0 Pc cA ad q (m_X8_fiscalEnd q (q.1 14 (Int32.toNatClampNeg r))) (m_X8_termFor q (q.1 9 (Int32.toNatClampNeg (q.1 13 (Int32.toNatClampNeg r)))) (m_X8_fiscalEnd q (q.1 14 (Int32.toNatClampNeg r)))) h_13 h_14) gX8_dueOf_X8_add rfl (by decide +kernel) rfl ⟨Nat.le_of_ble_eq_true rfl, Nat.le_of_ble_eq_true rfl⟩ ⟨Nat.le_of_ble_eq_true rfl, Nat.le_of_ble_eq_true rfl⟩ hK hW hS hl.1 rfl (Nat.le_of_ble_eq_true rfl) dX8_dueOf_101 (fun H locs hW hS => ?_)
          exact mm_iret hx hb hr hlk hK hW hS (by rw [m_X8_dueOf, if_neg c_4, if_neg c_6, if_neg c_8, if_neg c_11]) dX8_dueOf_104
        · refine lv_iconst (v := (-1)) hx hb dX8_dueOf_88 (by decide) ?_
          refine lv_goto (tgt := 104) hx hb dX8_dueOf_89 (by decide) ?_
          exact mm_iret hx hb hr hlk hK hW hS (by rw [m_X8_dueOf, if_neg c_4, if_neg c_6, if_neg c_8, if_pos c_11]) dX8_dueOf_104
      · refine lv_aload_n hx hb dX8_dueOf_61 rfl (lv_at hl 2 rfl) ?_
        refine mm_get (v := .ref (ad 21 11)) hx hb hts hin hown hK hW 11 (by decide) (List.mem_of_getElem? (i := 6) rfl) rfl rfl dX8_dueOf_62 ?_
        refine lv_iload_n hx hb dX8_dueOf_65 rfl (lv_at hl 1 rfl) ?_
        have b_15 : vp_in (q.1 13 (Int32.toNatClampNeg r)) 16 := by
          have u_1 := rg_e r
          have u_2 := rg_e (q.1 13 (Int32.toNatClampNeg r))
          have u_3 := rg_e (q.1 9 (Int32.toNatClampNeg (q.1 13 (Int32.toNatClampNeg r))))
          have u_4 := rg_e (q.1 4 (Int32.toNatClampNeg (q.1 9 (Int32.toNatClampNeg (q.1 13 (Int32.toNatClampNeg r))))))
          have k_5 : (0 : Int32).toInt = 0 := rfl
          have v_6 := cv_ne c_4
          have k_7 : (1 : Int32).toInt = 1 := rfl
          have v_8 := cv_ne c_6
          have k_9 : (2 : Int32).toInt = 2 := rfl
          have v_10 := cv_eq c_8
          have w_11 := hrr
          have w_12 := hI.2.2.2.1
          have w_13 := hI.2.2.1 (Int32.toNatClampNeg r)
          have w_14 := hI.2.1 (Int32.toNatClampNeg (q.1 13 (Int32.toNatClampNeg r)))
          have w_15 := cg_e hI hrr
          have w_16 := hI.2.2.2.2.1 (Int32.toNatClampNeg r)
          have w_17 := hI.2.2.2.2.2.1 (Int32.toNatClampNeg (q.1 13 (Int32.toNatClampNeg r)))
          have w_18 := hI.2.2.2.2.2.2.1 (Int32.toNatClampNeg (q.1 13 (Int32.toNatClampNeg r)))
          exact vp_in_iff.mpr (by omega)
        refine mm_iald (v := (q.1 11 (Int32.toNatClampNeg (q.1 13 (Int32.toNatClampNeg r))))) hx hb hK hW 11 16 rfl b_15 ((rfl)) dX8_dueOf_66 ?_
        refine lv_goto (tgt := 80) hx hb dX8_dueOf_67 (by decide) ?_
        refine lv_istore (lv' := [(4, .int (q.1 11 (Int32.toNatClampNeg (q.1 13 (Int32.toNatClampNeg r))))), (3, .int (q.1 9 (Int32.toNatClampNeg (q.1 13 (Int32.toNatClampNeg r))))), (2, .int (q.1 13 (Int32.toNatClampNeg r))), (0, .ref (ad 20 0)), (1, .int r)]) hx hb dX8_dueOf_80 hl (by decide) rfl (fun ls hl => ?_)
        refine lv_iload hx hb dX8_dueOf_82 (lv_at hl 0 rfl) ?_
        refine lv_iconst (v := (-1)) hx hb dX8_dueOf_84 (by decide) ?_
        refine lv_icmp_ne (tgt := 92) hx hb dX8_dueOf_85 (by decide) (fun c_16 => ?_) (fun c_16 => ?_)
        · refine lv_iload hx hb dX8_dueOf_92 (lv_at hl 0 rfl) ?_
          refine lv_aload_n hx hb dX8_dueOf_94 rfl (lv_at hl 3 rfl) ?_
          refine lv_iload_n hx hb dX8_dueOf_95 rfl (lv_at hl 1 rfl) ?_
          refine lv_iload hx hb dX8_dueOf_96 (lv_at hl 0 rfl) ?_
          have h_17 : 0 ≤ ((q.1 9 (Int32.toNatClampNeg (q.1 13 (Int32.toNatClampNeg r)))) : Int32).toInt ∧ ((q.1 9 (Int32.toNatClampNeg (q.1 13 (Int32.toNatClampNeg r)))) : Int32).toInt ≤ 7 := by
            have u_1 := rg_e r
            have u_2 := rg_e (q.1 13 (Int32.toNatClampNeg r))
            have u_3 := rg_e (q.1 9 (Int32.toNatClampNeg (q.1 13 (Int32.toNatClampNeg r))))
            have u_4 := rg_e (q.1 11 (Int32.toNatClampNeg (q.1 13 (Int32.toNatClampNeg r))))
            have u_5 := rg_e (q.1 4 (Int32.toNatClampNeg (q.1 9 (Int32.toNatClampNeg (q.1 13 (Int32.toNatClampNeg r))))))
            have k_6 : (0 : Int32).toInt = 0 := rfl
            have v_7 := cv_ne c_4
            have k_8 : (1 : Int32).toInt = 1 := rfl
            have v_9 := cv_ne c_6
            have k_10 : (2 : Int32).toInt = 2 := rfl
            have v_11 := cv_eq c_8
            have k_12 : ((-1) : Int32).toInt = -1 := rfl
            have v_13 := cv_ne c_16
            have w_14 := hrr
            have w_15 := hI.2.2.2.1
            have w_16 := hI.2.2.1 (Int32.toNatClampNeg r)
            have w_17 := hI.2.1 (Int32.toNatClampNeg (q.1 13 (Int32.toNatClampNeg r)))
            have w_18 := cg_e hI hrr
            have w_19 := hI.2.2.2.2.1 (Int32.toNatClampNeg r)
            have w_20 := hI.2.2.2.2.2.1 (Int32.toNatClampNeg (q.1 13 (Int32.toNatClampNeg r)))
            have w_21 := hI.2.2.2.2.2.2.1 (Int32.toNatClampNeg (q.1 13 (Int32.toNatClampNeg r)))
            exact by omega
          refine mm_callVi (n := 2) (As := [.int (q.1 9 (Int32.toNatClampNeg (q.1 13 (Int32.toNatClampNeg r)))), .int (q.1 11 (Int32.toNatClampNeg (q.1 13 (Int32.toNatClampNeg r))))]) (rest := [.int (q.1 11 (Int32.toNatClampNeg (q.1 13 (Int32.toNatClampNeg r))))]) (r := (m_X8_termFor q (q.1 9 (Int32.toNatClampNeg (q.1 13 (Int32.toNatClampNeg r)))) (q.1 11 (Int32.toNatClampNeg (q.1 13 (Int32.toNatClampNeg r)))))) (q2 := q) ⟨hx, hb, hml, hown, hts⟩ (c_X8_termFor l D b0 Pc cA ad q (q.1 9 (Int32.toNatClampNeg (q.1 13 (Int32.toNatClampNeg r)))) (q.1 11 (Int32.toNatClampNeg (q.1 13 (Int32.toNatClampNeg r)))) h_17 hI) gX8_dueOf_X8_termFor rfl (by decide +kernel) rfl ⟨Nat.le_of_ble_eq_true rfl, Nat.le_of_ble_eq_true rfl⟩ ⟨Nat.le_of_ble_eq_true rfl, Nat.le_of_ble_eq_true rfl⟩ hK hW hS hl.1 rfl (Nat.le_of_ble_eq_true rfl) dX8_dueOf_98 (fun H locs hW hS => ?_)
          have h_18 : 0 ≤ ((q.1 11 (Int32.toNatClampNeg (q.1 13 (Int32.toNatClampNeg r)))) : Int32).toInt ∧ ((q.1 11 (Int32.toNatClampNeg (q.1 13 (Int32.toNatClampNeg r)))) : Int32).toInt ≤ 200000 := by
            have u_1 := rg_e r
            have u_2 := rg_e (q.1 13 (Int32.toNatClampNeg r))
            have u_3 := rg_e (q.1 11 (Int32.toNatClampNeg (q.1 13 (Int32.toNatClampNeg r))))
            have u_4 := rg_e (m_X8_termFor q (q.1 9 (Int32.toNatClampNeg (q.1 13 (Int32.toNatClampNeg r)))) (q.1 11 (Int32.toNatClampNeg (q.1 13 (Int32.toNatClampNeg r)))))
            have u_5 := rg_e (q.1 9 (Int32.toNatClampNeg (q.1 13 (Int32.toNatClampNeg r))))
            have u_7 := rg_e (q.1 4 (Int32.toNatClampNeg (q.1 9 (Int32.toNatClampNeg (q.1 13 (Int32.toNatClampNeg r))))))
            have k_8 : (0 : Int32).toInt = 0 := rfl
            have v_9 := cv_ne c_4
            have k_10 : (1 : Int32).toInt = 1 := rfl
            have v_11 := cv_ne c_6
            have k_12 : (2 : Int32).toInt = 2 := rfl
            have v_13 := cv_eq c_8
            have k_14 : ((-1) : Int32).toInt = -1 := rfl
            have v_15 := cv_ne c_16
            have w_16 := hrr
            have w_17 := hI.2.2.2.1
            have w_18 := hI.2.2.1 (Int32.toNatClampNeg r)
            have w_19 := hI.2.1 (Int32.toNatClampNeg (q.1 13 (Int32.toNatClampNeg r)))
            have w_20 := cg_e hI hrr
            have w_21 := hI.2.2.2.2.1 (Int32.toNatClampNeg r)
            have w_22 := hI.2.2.2.2.2.1 (Int32.toNatClampNeg (q.1 13 (Int32.toNatClampNeg r)))
            have w_23 := hI.2.2.2.2.2.2.1 (Int32.toNatClampNeg (q.1 13 (Int32.toNatClampNeg r)))
            have u_6 := tf_rg hI (q.1 9 (Int32.toNatClampNeg (q.1 13 (Int32.toNatClampNeg r)))) (q.1 11 (Int32.toNatClampNeg (q.1 13 (Int32.toNatClampNeg r))))
            exact by omega
          have h_19 : 0 ≤ ((m_X8_termFor q (q.1 9 (Int32.toNatClampNeg (q.1 13 (Int32.toNatClampNeg r)))) (q.1 11 (Int32.toNatClampNeg (q.1 13 (Int32.toNatClampNeg r))))) : Int32).toInt ∧ ((m_X8_termFor q (q.1 9 (Int32.toNatClampNeg (q.1 13 (Int32.toNatClampNeg r)))) (q.1 11 (Int32.toNatClampNeg (q.1 13 (Int32.toNatClampNeg r))))) : Int32).toInt ≤ 2000 := by
            have u_1 := rg_e r
            have u_2 := rg_e (q.1 13 (Int32.toNatClampNeg r))
            have u_3 := rg_e (q.1 11 (Int32.toNatClampNeg (q.1 13 (Int32.toNatClampNeg r))))
            have u_4 := rg_e (m_X8_termFor q (q.1 9 (Int32.toNatClampNeg (q.1 13 (Int32.toNatClampNeg r)))) (q.1 11 (Int32.toNatClampNeg (q.1 13 (Int32.toNatClampNeg r)))))
            have u_5 := rg_e (q.1 9 (Int32.toNatClampNeg (q.1 13 (Int32.toNatClampNeg r))))
            have u_7 := rg_e (q.1 4 (Int32.toNatClampNeg (q.1 9 (Int32.toNatClampNeg (q.1 13 (Int32.toNatClampNeg r))))))
            have k_8 : (0 : Int32).toInt = 0 := rfl
            have v_9 := cv_ne c_4
            have k_10 : (1 : Int32).toInt = 1 := rfl
            have v_11 := cv_ne c_6
            have k_12 : (2 : Int32).toInt = 2 := rfl
            have v_13 := cv_eq c_8
            have k_14 : ((-1) : Int32).toInt = -1 := rfl
            have v_15 := cv_ne c_16
            have w_16 := hrr
            have w_17 := hI.2.2.2.1
            have w_18 := hI.2.2.1 (Int32.toNatClampNeg r)
            have w_19 := hI.2.1 (Int32.toNatClampNeg (q.1 13 (Int32.toNatClampNeg r)))
            have w_20 := cg_e hI hrr
            have w_21 := hI.2.2.2.2.1 (Int32.toNatClampNeg r)
            have w_22 := hI.2.2.2.2.2.1 (Int32.toNatClampNeg (q.1 13 (Int32.toNatClampNeg r)))
            have w_23 := hI.2.2.2.2.2.2.1 (Int32.toNatClampNeg (q.1 13 (Int32.toNatClampNeg r)))
            have u_6 := tf_rg hI (q.1 9 (Int32.toNatClampNeg (q.1 13 (Int32.toNatClampNeg r)))) (q.1 11 (Int32.toNatClampNeg (q.1 13 (Int32.toNatClampNeg r))))
            exact by omega
          refine mm_callSi (n := 2) (As := [.int (q.1 11 (Int32.toNatClampNeg (q.1 13 (Int32.toNatClampNeg r)))), .int (m_X8_termFor q (q.1 9 (Int32.toNatClampNeg (q.1 13 (Int32.toNatClampNeg r)))) (q.1 11 (Int32.toNatClampNeg (q.1 13 (Int32.toNatClampNeg r)))))]) (rest := []) (r := (m_X8_add (q.1 11 (Int32.toNatClampNeg (q.1 13 (Int32.toNatClampNeg r)))) (m_X8_termFor q (q.1 9 (Int32.toNatClampNeg (q.1 13 (Int32.toNatClampNeg r)))) (q.1 11 (Int32.toNatClampNeg (q.1 13 (Int32.toNatClampNeg r))))))) (q2 := q) ⟨hx, hb, hml, hown, hts⟩ (c_X8_add l D b0 Pc cA ad q (q.1 11 (Int32.toNatClampNeg (q.1 13 (Int32.toNatClampNeg r)))) (m_X8_termFor q (q.1 9 (Int32.toNatClampNeg (q.1 13 (Int32.toNatClampNeg r)))) (q.1 11 (Int32.toNatClampNeg (q.1 13 (Int32.toNatClampNeg r))))) h_18 h_19) gX8_dueOf_X8_add rfl (by decide +kernel) rfl ⟨Nat.le_of_ble_eq_true rfl, Nat.le_of_ble_eq_true rfl⟩ ⟨Nat.le_of_ble_eq_true rfl, Nat.le_of_ble_eq_true rfl⟩ hK hW hS hl.1 rfl (Nat.le_of_ble_eq_true rfl) dX8_dueOf_101 (fun H locs hW hS => ?_)
          exact mm_iret hx hb hr hlk hK hW hS (by rw [m_X8_dueOf, if_neg c_4, if_neg c_6, if_pos c_8, if_neg c_16]) dX8_dueOf_104
        · refine lv_iconst (v := (-1)) hx hb dX8_dueOf_88 (by decide) ?_
          refine lv_goto (tgt := 104) hx hb dX8_dueOf_89 (by decide) ?_
          exact mm_iret hx hb hr hlk hK hW hS (by rw [m_X8_dueOf, if_neg c_4, if_neg c_6, if_pos c_8, if_pos c_16]) dX8_dueOf_104
    · refine lv_aload_n hx hb dX8_dueOf_42 rfl (lv_at hl 2 rfl) ?_
      refine mm_get (v := .ref (ad 21 10)) hx hb hts hin hown hK hW 10 (by decide) (List.mem_of_getElem? (i := 5) rfl) rfl rfl dX8_dueOf_43 ?_
      refine lv_iload_n hx hb dX8_dueOf_46 rfl (lv_at hl 1 rfl) ?_
      have b_20 : vp_in (q.1 13 (Int32.toNatClampNeg r)) 16 := by
        have u_1 := rg_e r
        have u_2 := rg_e (q.1 13 (Int32.toNatClampNeg r))
        have u_3 := rg_e (q.1 9 (Int32.toNatClampNeg (q.1 13 (Int32.toNatClampNeg r))))
        have u_4 := rg_e (q.1 4 (Int32.toNatClampNeg (q.1 9 (Int32.toNatClampNeg (q.1 13 (Int32.toNatClampNeg r))))))
        have k_5 : (0 : Int32).toInt = 0 := rfl
        have v_6 := cv_ne c_4
        have k_7 : (1 : Int32).toInt = 1 := rfl
        have v_8 := cv_eq c_6
        have w_9 := hrr
        have w_10 := hI.2.2.2.1
        have w_11 := hI.2.2.1 (Int32.toNatClampNeg r)
        have w_12 := hI.2.1 (Int32.toNatClampNeg (q.1 13 (Int32.toNatClampNeg r)))
        have w_13 := cg_e hI hrr
        have w_14 := hI.2.2.2.2.1 (Int32.toNatClampNeg r)
        have w_15 := hI.2.2.2.2.2.1 (Int32.toNatClampNeg (q.1 13 (Int32.toNatClampNeg r)))
        have w_16 := hI.2.2.2.2.2.2.1 (Int32.toNatClampNeg (q.1 13 (Int32.toNatClampNeg r)))
        exact vp_in_iff.mpr (by omega)
      refine mm_iald (v := (q.1 10 (Int32.toNatClampNeg (q.1 13 (Int32.toNatClampNeg r))))) hx hb hK hW 10 16 rfl b_20 ((rfl)) dX8_dueOf_47 ?_
      refine lv_goto (tgt := 80) hx hb dX8_dueOf_48 (by decide) ?_
      refine lv_istore (lv' := [(4, .int (q.1 10 (Int32.toNatClampNeg (q.1 13 (Int32.toNatClampNeg r))))), (3, .int (q.1 9 (Int32.toNatClampNeg (q.1 13 (Int32.toNatClampNeg r))))), (2, .int (q.1 13 (Int32.toNatClampNeg r))), (0, .ref (ad 20 0)), (1, .int r)]) hx hb dX8_dueOf_80 hl (by decide) rfl (fun ls hl => ?_)
      refine lv_iload hx hb dX8_dueOf_82 (lv_at hl 0 rfl) ?_
      refine lv_iconst (v := (-1)) hx hb dX8_dueOf_84 (by decide) ?_
      refine lv_icmp_ne (tgt := 92) hx hb dX8_dueOf_85 (by decide) (fun c_21 => ?_) (fun c_21 => ?_)
      · refine lv_iload hx hb dX8_dueOf_92 (lv_at hl 0 rfl) ?_
        refine lv_aload_n hx hb dX8_dueOf_94 rfl (lv_at hl 3 rfl) ?_
        refine lv_iload_n hx hb dX8_dueOf_95 rfl (lv_at hl 1 rfl) ?_
        refine lv_iload hx hb dX8_dueOf_96 (lv_at hl 0 rfl) ?_
        have h_22 : 0 ≤ ((q.1 9 (Int32.toNatClampNeg (q.1 13 (Int32.toNatClampNeg r)))) : Int32).toInt ∧ ((q.1 9 (Int32.toNatClampNeg (q.1 13 (Int32.toNatClampNeg r)))) : Int32).toInt ≤ 7 := by
          have u_1 := rg_e r
          have u_2 := rg_e (q.1 13 (Int32.toNatClampNeg r))
          have u_3 := rg_e (q.1 9 (Int32.toNatClampNeg (q.1 13 (Int32.toNatClampNeg r))))
          have u_4 := rg_e (q.1 10 (Int32.toNatClampNeg (q.1 13 (Int32.toNatClampNeg r))))
          have u_5 := rg_e (q.1 4 (Int32.toNatClampNeg (q.1 9 (Int32.toNatClampNeg (q.1 13 (Int32.toNatClampNeg r))))))
          have k_6 : (0 : Int32).toInt = 0 := rfl
          have v_7 := cv_ne c_4
          have k_8 : (1 : Int32).toInt = 1 := rfl
          have v_9 := cv_eq c_6
          have k_10 : ((-1) : Int32).toInt = -1 := rfl
          have v_11 := cv_ne c_21
          have w_12 := hrr
          have w_13 := hI.2.2.2.1
          have w_14 := hI.2.2.1 (Int32.toNatClampNeg r)
          have w_15 := hI.2.1 (Int32.toNatClampNeg (q.1 13 (Int32.toNatClampNeg r)))
          have w_16 := cg_e hI hrr
          have w_17 := hI.2.2.2.2.1 (Int32.toNatClampNeg r)
          have w_18 := hI.2.2.2.2.2.1 (Int32.toNatClampNeg (q.1 13 (Int32.toNatClampNeg r)))
          have w_19 := hI.2.2.2.2.2.2.1 (Int32.toNatClampNeg (q.1 13 (Int32.toNatClampNeg r)))
          exact by omega
        refine mm_callVi (n := 2) (As := [.int (q.1 9 (Int32.toNatClampNeg (q.1 13 (Int32.toNatClampNeg r)))), .int (q.1 10 (Int32.toNatClampNeg (q.1 13 (Int32.toNatClampNeg r))))]) (rest := [.int (q.1 10 (Int32.toNatClampNeg (q.1 13 (Int32.toNatClampNeg r))))]) (r := (m_X8_termFor q (q.1 9 (Int32.toNatClampNeg (q.1 13 (Int32.toNatClampNeg r)))) (q.1 10 (Int32.toNatClampNeg (q.1 13 (Int32.toNatClampNeg r)))))) (q2 := q) ⟨hx, hb, hml, hown, hts⟩ (c_X8_termFor l D b0 Pc cA ad q (q.1 9 (Int32.toNatClampNeg (q.1 13 (Int32.toNatClampNeg r)))) (q.1 10 (Int32.toNatClampNeg (q.1 13 (Int32.toNatClampNeg r)))) h_22 hI) gX8_dueOf_X8_termFor rfl (by decide +kernel) rfl ⟨Nat.le_of_ble_eq_true rfl, Nat.le_of_ble_eq_true rfl⟩ ⟨Nat.le_of_ble_eq_true rfl, Nat.le_of_ble_eq_true rfl⟩ hK hW hS hl.1 rfl (Nat.le_of_ble_eq_true rfl) dX8_dueOf_98 (fun H locs hW hS => ?_)
        have h_23 : 0 ≤ ((q.1 10 (Int32.toNatClampNeg (q.1 13 (Int32.toNatClampNeg r)))) : Int32).toInt ∧ ((q.1 10 (Int32.toNatClampNeg (q.1 13 (Int32.toNatClampNeg r)))) : Int32).toInt ≤ 200000 := by
          have u_1 := rg_e r
          have u_2 := rg_e (q.1 13 (Int32.toNatClampNeg r))
          have u_3 := rg_e (q.1 10 (Int32.toNatClampNeg (q.1 13 (Int32.toNatClampNeg r))))
          have u_4 := rg_e (m_X8_termFor q (q.1 9 (Int32.toNatClampNeg (q.1 13 (Int32.toNatClampNeg r)))) (q.1 10 (Int32.toNatClampNeg (q.1 13 (Int32.toNatClampNeg r)))))
          have u_5 := rg_e (q.1 9 (Int32.toNatClampNeg (q.1 13 (Int32.toNatClampNeg r))))
          have u_7 := rg_e (q.1 4 (Int32.toNatClampNeg (q.1 9 (Int32.toNatClampNeg (q.1 13 (Int32.toNatClampNeg r))))))
          have k_8 : (0 : Int32).toInt = 0 := rfl
          have v_9 := cv_ne c_4
          have k_10 : (1 : Int32).toInt = 1 := rfl
          have v_11 := cv_eq c_6
          have k_12 : ((-1) : Int32).toInt = -1 := rfl
          have v_13 := cv_ne c_21
          have w_14 := hrr
          have w_15 := hI.2.2.2.1
          have w_16 := hI.2.2.1 (Int32.toNatClampNeg r)
          have w_17 := hI.2.1 (Int32.toNatClampNeg (q.1 13 (Int32.toNatClampNeg r)))
          have w_18 := cg_e hI hrr
          have w_19 := hI.2.2.2.2.1 (Int32.toNatClampNeg r)
          have w_20 := hI.2.2.2.2.2.1 (Int32.toNatClampNeg (q.1 13 (Int32.toNatClampNeg r)))
          have w_21 := hI.2.2.2.2.2.2.1 (Int32.toNatClampNeg (q.1 13 (Int32.toNatClampNeg r)))
          have u_6 := tf_rg hI (q.1 9 (Int32.toNatClampNeg (q.1 13 (Int32.toNatClampNeg r)))) (q.1 10 (Int32.toNatClampNeg (q.1 13 (Int32.toNatClampNeg r))))
          exact by omega
        have h_24 : 0 ≤ ((m_X8_termFor q (q.1 9 (Int32.toNatClampNeg (q.1 13 (Int32.toNatClampNeg r)))) (q.1 10 (Int32.toNatClampNeg (q.1 13 (Int32.toNatClampNeg r))))) : Int32).toInt ∧ ((m_X8_termFor q (q.1 9 (Int32.toNatClampNeg (q.1 13 (Int32.toNatClampNeg r)))) (q.1 10 (Int32.toNatClampNeg (q.1 13 (Int32.toNatClampNeg r))))) : Int32).toInt ≤ 2000 := by
          have u_1 := rg_e r
          have u_2 := rg_e (q.1 13 (Int32.toNatClampNeg r))
          have u_3 := rg_e (q.1 10 (Int32.toNatClampNeg (q.1 13 (Int32.toNatClampNeg r))))
          have u_4 := rg_e (m_X8_termFor q (q.1 9 (Int32.toNatClampNeg (q.1 13 (Int32.toNatClampNeg r)))) (q.1 10 (Int32.toNatClampNeg (q.1 13 (Int32.toNatClampNeg r)))))
          have u_5 := rg_e (q.1 9 (Int32.toNatClampNeg (q.1 13 (Int32.toNatClampNeg r))))
          have u_7 := rg_e (q.1 4 (Int32.toNatClampNeg (q.1 9 (Int32.toNatClampNeg (q.1 13 (Int32.toNatClampNeg r))))))
          have k_8 : (0 : Int32).toInt = 0 := rfl
          have v_9 := cv_ne c_4
          have k_10 : (1 : Int32).toInt = 1 := rfl
          have v_11 := cv_eq c_6
          have k_12 : ((-1) : Int32).toInt = -1 := rfl
          have v_13 := cv_ne c_21
          have w_14 := hrr
          have w_15 := hI.2.2.2.1
          have w_16 := hI.2.2.1 (Int32.toNatClampNeg r)
          have w_17 := hI.2.1 (Int32.toNatClampNeg (q.1 13 (Int32.toNatClampNeg r)))
          have w_18 := cg_e hI hrr
          have w_19 := hI.2.2.2.2.1 (Int32.toNatClampNeg r)
          have w_20 := hI.2.2.2.2.2.1 (Int32.toNatClampNeg (q.1 13 (Int32.toNatClampNeg r)))
          have w_21 := hI.2.2.2.2.2.2.1 (Int32.toNatClampNeg (q.1 13 (Int32.toNatClampNeg r)))
          have u_6 := tf_rg hI (q.1 9 (Int32.toNatClampNeg (q.1 13 (Int32.toNatClampNeg r)))) (q.1 10 (Int32.toNatClampNeg (q.1 13 (Int32.toNatClampNeg r))))
          exact by omega
        refine mm_callSi (n := 2) (As := [.int (q.1 10 (Int32.toNatClampNeg (q.1 13 (Int32.toNatClampNeg r)))), .int (m_X8_termFor q (q.1 9 (Int32.toNatClampNeg (q.1 13 (Int32.toNatClampNeg r)))) (q.1 10 (Int32.toNatClampNeg (q.1 13 (Int32.toNatClampNeg r)))))]) (rest := []) (r := (m_X8_add (q.1 10 (Int32.toNatClampNeg (q.1 13 (Int32.toNatClampNeg r)))) (m_X8_termFor q (q.1 9 (Int32.toNatClampNeg (q.1 13 (Int32.toNatClampNeg r)))) (q.1 10 (Int32.toNatClampNeg (q.1 13 (Int32.toNatClampNeg r))))))) (q2 := q) ⟨hx, hb, hml, hown, hts⟩ (c_X8_add l D b0 Pc cA ad q (q.1 10 (Int32.toNatClampNeg (q.1 13 (Int32.toNatClampNeg r)))) (m_X8_termFor q (q.1 9 (Int32.toNatClampNeg (q.1 13 (Int32.toNatClampNeg r)))) (q.1 10 (Int32.toNatClampNeg (q.1 13 (Int32.toNatClampNeg r))))) h_23 h_24) gX8_dueOf_X8_add rfl (by decide +kernel) rfl ⟨Nat.le_of_ble_eq_true rfl, Nat.le_of_ble_eq_true rfl⟩ ⟨Nat.le_of_ble_eq_true rfl, Nat.le_of_ble_eq_true rfl⟩ hK hW hS hl.1 rfl (Nat.le_of_ble_eq_true rfl) dX8_dueOf_101 (fun H locs hW hS => ?_)
        exact mm_iret hx hb hr hlk hK hW hS (by rw [m_X8_dueOf, if_neg c_4, if_pos c_6, if_neg c_21]) dX8_dueOf_104
      · refine lv_iconst (v := (-1)) hx hb dX8_dueOf_88 (by decide) ?_
        refine lv_goto (tgt := 104) hx hb dX8_dueOf_89 (by decide) ?_
        exact mm_iret hx hb hr hlk hK hW hS (by rw [m_X8_dueOf, if_neg c_4, if_pos c_6, if_pos c_21]) dX8_dueOf_104
  · refine lv_aload_n hx hb dX8_dueOf_23 rfl (lv_at hl 2 rfl) ?_
    refine mm_get (v := .ref (ad 21 14)) hx hb hts hin hown hK hW 14 (by decide) (List.mem_of_getElem? (i := 4) rfl) rfl rfl dX8_dueOf_24 ?_
    refine lv_iload_n hx hb dX8_dueOf_27 rfl (lv_at hl 3 rfl) ?_
    have b_25 : vp_in r 64 := by
      have u_1 := rg_e r
      have u_2 := rg_e (q.1 13 (Int32.toNatClampNeg r))
      have u_3 := rg_e (q.1 9 (Int32.toNatClampNeg (q.1 13 (Int32.toNatClampNeg r))))
      have u_4 := rg_e (q.1 4 (Int32.toNatClampNeg (q.1 9 (Int32.toNatClampNeg (q.1 13 (Int32.toNatClampNeg r))))))
      have k_5 : (0 : Int32).toInt = 0 := rfl
      have v_6 := cv_eq c_4
      have w_7 := hrr
      have w_8 := hI.2.2.2.1
      have w_9 := hI.2.2.1 (Int32.toNatClampNeg r)
      have w_10 := hI.2.1 (Int32.toNatClampNeg (q.1 13 (Int32.toNatClampNeg r)))
      have w_11 := cg_e hI hrr
      have w_12 := hI.2.2.2.2.1 (Int32.toNatClampNeg r)
      have w_13 := hI.2.2.2.2.2.1 (Int32.toNatClampNeg (q.1 13 (Int32.toNatClampNeg r)))
      have w_14 := hI.2.2.2.2.2.2.1 (Int32.toNatClampNeg (q.1 13 (Int32.toNatClampNeg r)))
      exact vp_in_iff.mpr (by omega)
    refine mm_iald (v := (q.1 14 (Int32.toNatClampNeg r))) hx hb hK hW 14 64 rfl b_25 ((rfl)) dX8_dueOf_28 ?_
    refine lv_goto (tgt := 80) hx hb dX8_dueOf_29 (by decide) ?_
    refine lv_istore (lv' := [(4, .int (q.1 14 (Int32.toNatClampNeg r))), (3, .int (q.1 9 (Int32.toNatClampNeg (q.1 13 (Int32.toNatClampNeg r))))), (2, .int (q.1 13 (Int32.toNatClampNeg r))), (0, .ref (ad 20 0)), (1, .int r)]) hx hb dX8_dueOf_80 hl (by decide) rfl (fun ls hl => ?_)
    refine lv_iload hx hb dX8_dueOf_82 (lv_at hl 0 rfl) ?_
    refine lv_iconst (v := (-1)) hx hb dX8_dueOf_84 (by decide) ?_
    refine lv_icmp_ne (tgt := 92) hx hb dX8_dueOf_85 (by decide) (fun c_26 => ?_) (fun c_26 => ?_)
    · refine lv_iload hx hb dX8_dueOf_92 (lv_at hl 0 rfl) ?_
      refine lv_aload_n hx hb dX8_dueOf_94 rfl (lv_at hl 3 rfl) ?_
      refine lv_iload_n hx hb dX8_dueOf_95 rfl (lv_at hl 1 rfl) ?_
      refine lv_iload hx hb dX8_dueOf_96 (lv_at hl 0 rfl) ?_
      have h_27 : 0 ≤ ((q.1 9 (Int32.toNatClampNeg (q.1 13 (Int32.toNatClampNeg r)))) : Int32).toInt ∧ ((q.1 9 (Int32.toNatClampNeg (q.1 13 (Int32.toNatClampNeg r)))) : Int32).toInt ≤ 7 := by
        have u_1 := rg_e r
        have u_2 := rg_e (q.1 13 (Int32.toNatClampNeg r))
        have u_3 := rg_e (q.1 9 (Int32.toNatClampNeg (q.1 13 (Int32.toNatClampNeg r))))
        have u_4 := rg_e (q.1 14 (Int32.toNatClampNeg r))
        have u_5 := rg_e (q.1 4 (Int32.toNatClampNeg (q.1 9 (Int32.toNatClampNeg (q.1 13 (Int32.toNatClampNeg r))))))
        have k_6 : (0 : Int32).toInt = 0 := rfl
        have v_7 := cv_eq c_4
        have k_8 : ((-1) : Int32).toInt = -1 := rfl
        have v_9 := cv_ne c_26
        have w_10 := hrr
        have w_11 := hI.2.2.2.1
        have w_12 := hI.2.2.1 (Int32.toNatClampNeg r)
        have w_13 := hI.2.1 (Int32.toNatClampNeg (q.1 13 (Int32.toNatClampNeg r)))
        have w_14 := cg_e hI hrr
        have w_15 := hI.2.2.2.2.1 (Int32.toNatClampNeg r)
        have w_16 := hI.2.2.2.2.2.1 (Int32.toNatClampNeg (q.1 13 (Int32.toNatClampNeg r)))
        have w_17 := hI.2.2.2.2.2.2.1 (Int32.toNatClampNeg (q.1 13 (Int32.toNatClampNeg r)))
        exact by omega
      refine mm_callVi (n := 2) (As := [.int (q.1 9 (Int32.toNatClampNeg (q.1 13 (Int32.toNatClampNeg r)))), .int (q.1 14 (Int32.toNatClampNeg r))]) (rest := [.int (q.1 14 (Int32.toNatClampNeg r))]) (r := (m_X8_termFor q (q.1 9 (Int32.toNatClampNeg (q.1 13 (Int32.toNatClampNeg r)))) (q.1 14 (Int32.toNatClampNeg r)))) (q2 := q) ⟨hx, hb, hml, hown, hts⟩ (c_X8_termFor l D b0 Pc cA ad q (q.1 9 (Int32.toNatClampNeg (q.1 13 (Int32.toNatClampNeg r)))) (q.1 14 (Int32.toNatClampNeg r)) h_27 hI) gX8_dueOf_X8_termFor rfl (by decide +kernel) rfl ⟨Nat.le_of_ble_eq_true rfl, Nat.le_of_ble_eq_true rfl⟩ ⟨Nat.le_of_ble_eq_true rfl, Nat.le_of_ble_eq_true rfl⟩ hK hW hS hl.1 rfl (Nat.le_of_ble_eq_true rfl) dX8_dueOf_98 (fun H locs hW hS => ?_)
      have h_28 : 0 ≤ ((q.1 14 (Int32.toNatClampNeg r)) : Int32).toInt ∧ ((q.1 14 (Int32.toNatClampNeg r)) : Int32).toInt ≤ 200000 := by
        have u_1 := rg_e r
        have u_2 := rg_e (q.1 14 (Int32.toNatClampNeg r))
        have u_3 := rg_e (m_X8_termFor q (q.1 9 (Int32.toNatClampNeg (q.1 13 (Int32.toNatClampNeg r)))) (q.1 14 (Int32.toNatClampNeg r)))
        have u_4 := rg_e (q.1 13 (Int32.toNatClampNeg r))
        have u_5 := rg_e (q.1 9 (Int32.toNatClampNeg (q.1 13 (Int32.toNatClampNeg r))))
        have u_7 := rg_e (q.1 4 (Int32.toNatClampNeg (q.1 9 (Int32.toNatClampNeg (q.1 13 (Int32.toNatClampNeg r))))))
        have k_8 : (0 : Int32).toInt = 0 := rfl
        have v_9 := cv_eq c_4
        have k_10 : ((-1) : Int32).toInt = -1 := rfl
        have v_11 := cv_ne c_26
        have w_12 := hrr
        have w_13 := hI.2.2.2.1
        have w_14 := hI.2.2.1 (Int32.toNatClampNeg r)
        have w_15 := hI.2.1 (Int32.toNatClampNeg (q.1 13 (Int32.toNatClampNeg r)))
        have w_16 := cg_e hI hrr
        have w_17 := hI.2.2.2.2.1 (Int32.toNatClampNeg r)
        have w_18 := hI.2.2.2.2.2.1 (Int32.toNatClampNeg (q.1 13 (Int32.toNatClampNeg r)))
        have w_19 := hI.2.2.2.2.2.2.1 (Int32.toNatClampNeg (q.1 13 (Int32.toNatClampNeg r)))
        have u_6 := tf_rg hI (q.1 9 (Int32.toNatClampNeg (q.1 13 (Int32.toNatClampNeg r)))) (q.1 14 (Int32.toNatClampNeg r))
        exact by omega
      have h_29 : 0 ≤ ((m_X8_termFor q (q.1 9 (Int32.toNatClampNeg (q.1 13 (Int32.toNatClampNeg r)))) (q.1 14 (Int32.toNatClampNeg r))) : Int32).toInt ∧ ((m_X8_termFor q (q.1 9 (Int32.toNatClampNeg (q.1 13 (Int32.toNatClampNeg r)))) (q.1 14 (Int32.toNatClampNeg r))) : Int32).toInt ≤ 2000 := by
        have u_1 := rg_e r
        have u_2 := rg_e (q.1 14 (Int32.toNatClampNeg r))
        have u_3 := rg_e (m_X8_termFor q (q.1 9 (Int32.toNatClampNeg (q.1 13 (Int32.toNatClampNeg r)))) (q.1 14 (Int32.toNatClampNeg r)))
        have u_4 := rg_e (q.1 13 (Int32.toNatClampNeg r))
        have u_5 := rg_e (q.1 9 (Int32.toNatClampNeg (q.1 13 (Int32.toNatClampNeg r))))
        have u_7 := rg_e (q.1 4 (Int32.toNatClampNeg (q.1 9 (Int32.toNatClampNeg (q.1 13 (Int32.toNatClampNeg r))))))
        have k_8 : (0 : Int32).toInt = 0 := rfl
        have v_9 := cv_eq c_4
        have k_10 : ((-1) : Int32).toInt = -1 := rfl
        have v_11 := cv_ne c_26
        have w_12 := hrr
        have w_13 := hI.2.2.2.1
        have w_14 := hI.2.2.1 (Int32.toNatClampNeg r)
        have w_15 := hI.2.1 (Int32.toNatClampNeg (q.1 13 (Int32.toNatClampNeg r)))
        have w_16 := cg_e hI hrr
        have w_17 := hI.2.2.2.2.1 (Int32.toNatClampNeg r)
        have w_18 := hI.2.2.2.2.2.1 (Int32.toNatClampNeg (q.1 13 (Int32.toNatClampNeg r)))
        have w_19 := hI.2.2.2.2.2.2.1 (Int32.toNatClampNeg (q.1 13 (Int32.toNatClampNeg r)))
        have u_6 := tf_rg hI (q.1 9 (Int32.toNatClampNeg (q.1 13 (Int32.toNatClampNeg r)))) (q.1 14 (Int32.toNatClampNeg r))
        exact by omega
      refine mm_callSi (n := 2) (As := [.int (q.1 14 (Int32.toNatClampNeg r)), .int (m_X8_termFor q (q.1 9 (Int32.toNatClampNeg (q.1 13 (Int32.toNatClampNeg r)))) (q.1 14 (Int32.toNatClampNeg r)))]) (rest := []) (r := (m_X8_add (q.1 14 (Int32.toNatClampNeg r)) (m_X8_termFor q (q.1 9 (Int32.toNatClampNeg (q.1 13 (Int32.toNatClampNeg r)))) (q.1 14 (Int32.toNatClampNeg r))))) (q2 := q) ⟨hx, hb, hml, hown, hts⟩ (c_X8_add l D b0 Pc cA ad q (q.1 14 (Int32.toNatClampNeg r)) (m_X8_termFor q (q.1 9 (Int32.toNatClampNeg (q.1 13 (Int32.toNatClampNeg r)))) (q.1 14 (Int32.toNatClampNeg r))) h_28 h_29) gX8_dueOf_X8_add rfl (by decide +kernel) rfl ⟨Nat.le_of_ble_eq_true rfl, Nat.le_of_ble_eq_true rfl⟩ ⟨Nat.le_of_ble_eq_true rfl, Nat.le_of_ble_eq_true rfl⟩ hK hW hS hl.1 rfl (Nat.le_of_ble_eq_true rfl) dX8_dueOf_101 (fun H locs hW hS => ?_)
      exact mm_iret hx hb hr hlk hK hW hS (by rw [m_X8_dueOf, if_pos c_4, if_neg c_26]) dX8_dueOf_104
    · refine lv_iconst (v := (-1)) hx hb dX8_dueOf_88 (by decide) ?_
      refine lv_goto (tgt := 104) hx hb dX8_dueOf_89 (by decide) ?_
      exact mm_iret hx hb hr hlk hK hW hS (by rw [m_X8_dueOf, if_pos c_4, if_pos c_26]) dX8_dueOf_104

def m_X8_mayGo (q : qM) (r : Int32) (day : Int32) : Int32 := (if (q.1 18 (Int32.toNatClampNeg r)) = 0 then (if (m_X8_dueOf q r) = (-1) then 0 else (if day < (m_X8_dueOf q r) then 0 else (if (m_X8_holds q r) = 0 then 1 else 0))) else 0)
set_option maxHeartbeats 4000000 in
set_option maxRecDepth 100000 in
theorem c_X8_mayGo (l : Launch) (D : va_G) (b0 : Nat) (Pc : Nat → Nat → Option va_E) (cA : Nat → ClassId) (ad : Nat → Nat → Nat) (q : qM) (r : Int32) (day : Int32) (hrr : 0 ≤ (r : Int32).toInt ∧ (r : Int32).toInt < (q.1 12 0).toInt) (hI : gI q) : mc_i l yX8_mayGo wsX8_mayGo 4 93 D b0 Pc cA ad q [.ref (ad 20 0), .int r, .int day] (m_X8_mayGo q r day, q) := by
  refine mc_of (by decide) rfl (Nat.le_of_ble_eq_true rfl) ?_
  intro p e s m below meth c hx hb hml hr hlk hown hts hK hW ls hl
  have hown : s.vm.findClass RX8 = some m.cls := hown
  have hS : va_S (wA b0) s.heap s.heap [] := va_S.rf
  have hl : lv_has ls 4 [(0, .ref (ad 20 0)), (1, .int r), (2, .int day)] := hl
  have hin : ∀ w ∈ wsX80, w ∈ wsX8_mayGo := fun w h => List.mem_cons_of_mem _ (List.mem_append_right _ h)
  refine lv_aload_n hx hb dX8_mayGo_0 rfl (lv_at hl 0 rfl) ?_
  refine lv_iload_n hx hb dX8_mayGo_1 rfl (lv_at hl 1 rfl) ?_
  have h_1 : 0 ≤ (r : Int32).toInt ∧ (r : Int32).toInt < (q.1 12 0).toInt := by
    have u_1 := rg_e r
    have w_2 := hrr
    have w_3 := hI.2.2.2.1
    exact by omega
  refine mm_callVi (n := 1) (As := [.int r]) (rest := []) (r := (m_X8_dueOf q r)) (q2 := q) ⟨hx, hb, hml, hown, hts⟩ (c_X8_dueOf l D b0 Pc cA ad q r h_1 hI) gX8_mayGo_X8_dueOf rfl (by decide +kernel) rfl ⟨Nat.le_of_ble_eq_true rfl, Nat.le_of_ble_eq_true rfl⟩ ⟨Nat.le_of_ble_eq_true rfl, Nat.le_of_ble_eq_true rfl⟩ hK hW hS hl.1 rfl (Nat.le_of_ble_eq_true rfl) dX8_mayGo_2 (fun H locs hW hS => ?_)
  refine lv_istore_n (lv' := [(3, .int (m_X8_dueOf q r)), (0, .ref (ad 20 0)), (1, .int r), (2, .int day)]) hx hb dX8_mayGo_5 rfl hl (by decide) rfl (fun ls hl => ?_)
  refine lv_aload_n hx hb dX8_mayGo_6 rfl (lv_at hl 1 rfl) ?_
  refine mm_get (v := .ref (ad 21 18)) hx hb hts hin hown hK hW 18 (by decide) (List.mem_of_getElem? (i := 1) rfl) rfl rfl dX8_mayGo_7 ?_
  refine lv_iload_n hx hb dX8_mayGo_10 rfl (lv_at hl 2 rfl) ?_
  have b_2 : vp_in r 64 := by
    have u_1 := rg_e r
    have w_2 := hrr
    have w_3 := hI.2.2.2.1
    exact vp_in_iff.mpr (by omega)
  refine mm_zald (v := (q.1 18 (Int32.toNatClampNeg r))) hx hb hK hW 18 64 rfl b_2 ((rfl)) dX8_mayGo_11 ?_
  refine lv_if_ne (tgt := 37) hx hb dX8_mayGo_12 (by decide) (fun c_3 => ?_) (fun c_3 => ?_)
  · refine lv_iconst (v := 0) hx hb dX8_mayGo_37 (by decide) ?_
    exact mm_zret hx hb hr hlk hK hW hS rfl (by rw [m_X8_mayGo, if_neg c_3]) dX8_mayGo_38
  · refine lv_iload_n hx hb dX8_mayGo_15 rfl (lv_at hl 0 rfl) ?_
    refine lv_iconst (v := (-1)) hx hb dX8_mayGo_16 (by decide) ?_
    refine lv_icmp_eq (tgt := 37) hx hb dX8_mayGo_17 (by decide) (fun c_4 => ?_) (fun c_4 => ?_)
    · refine lv_iconst (v := 0) hx hb dX8_mayGo_37 (by decide) ?_
      exact mm_zret hx hb hr hlk hK hW hS rfl (by rw [m_X8_mayGo, if_pos c_3, if_pos c_4]) dX8_mayGo_38
    · refine lv_iload_n hx hb dX8_mayGo_20 rfl (lv_at hl 0 rfl) ?_
      refine lv_iload_n hx hb dX8_mayGo_21 rfl (lv_at hl 3 rfl) ?_
      refine lv_icmp_gt (tgt := 37) hx hb dX8_mayGo_22 (by decide) (fun c_5 => ?_) (fun c_5 => ?_)
      · refine lv_iconst (v := 0) hx hb dX8_mayGo_37 (by decide) ?_
        exact mm_zret hx hb hr hlk hK hW hS rfl (by rw [m_X8_mayGo, if_pos c_3, if_neg c_4, if_pos c_5]) dX8_mayGo_38
      · refine lv_aload_n hx hb dX8_mayGo_25 rfl (lv_at hl 1 rfl) ?_
        refine lv_iload_n hx hb dX8_mayGo_26 rfl (lv_at hl 2 rfl) ?_
        have h_6 : 0 ≤ (r : Int32).toInt ∧ (r : Int32).toInt ≤ 63 := by
          have u_1 := rg_e r
          have u_2 := rg_e (q.1 18 (Int32.toNatClampNeg r))
          have k_3 : (0 : Int32).toInt = 0 := rfl
          have v_4 := cv_eq c_3
          have u_5 := rg_e (m_X8_dueOf q r)
          have k_6 : ((-1) : Int32).toInt = -1 := rfl
          have v_7 := cv_ne c_4
          have u_8 := rg_e day
          have v_9 := cv_nlt c_5
          have w_10 := hrr
          have w_11 := hI.2.2.2.1
          exact by omega
        refine mm_callVi (n := 1) (As := [.int r]) (rest := []) (r := (m_X8_holds q r)) (q2 := q) ⟨hx, hb, hml, hown, hts⟩ (c_X8_holds l D b0 Pc cA ad q r h_6 hI) gX8_mayGo_X8_holds rfl (by decide +kernel) rfl ⟨Nat.le_of_ble_eq_true rfl, Nat.le_of_ble_eq_true rfl⟩ ⟨Nat.le_of_ble_eq_true rfl, Nat.le_of_ble_eq_true rfl⟩ hK hW hS hl.1 rfl (Nat.le_of_ble_eq_true rfl) dX8_mayGo_27 (fun H locs hW hS => ?_)
        refine lv_if_ne (tgt := 37) hx hb dX8_mayGo_30 (by decide) (fun c_7 => ?_) (fun c_7 => ?_)
        · refine lv_iconst (v := 0) hx hb dX8_mayGo_37 (by decide) ?_
          exact mm_zret hx hb hr hlk hK hW hS rfl (by rw [m_X8_mayGo, if_pos c_3, if_neg c_4, if_neg c_5, if_neg c_7]) dX8_mayGo_38
        · refine lv_iconst (v := 1) hx hb dX8_mayGo_33 (by decide) ?_
          refine lv_goto (tgt := 38) hx hb dX8_mayGo_34 (by decide) ?_
          exact mm_zret hx hb hr hlk hK hW hS rfl (by rw [m_X8_mayGo, if_pos c_3, if_neg c_4, if_neg c_5, if_pos c_7]) dX8_mayGo_38

def m_X8_covered (q : qM) (r : Int32) : Int32 × qM := (if (m_X8_noRecord q r) = 0 then ((m_X8_holds (mq_i q 0 0 0) r), (mq_i q 0 0 0)) else (0, (mq_i q 0 0 1)))
set_option maxHeartbeats 4000000 in
set_option maxRecDepth 100000 in
theorem c_X8_covered (l : Launch) (D : va_G) (b0 : Nat) (Pc : Nat → Nat → Option va_E) (cA : Nat → ClassId) (ad : Nat → Nat → Nat) (q : qM) (r : Int32) (hI : gI q) : mc_i l yX8_covered wsX8_covered 2 48 D b0 Pc cA ad q [.ref (ad 20 0), .int r] (m_X8_covered q r) := by
  refine mc_of (by decide) rfl (Nat.le_of_ble_eq_true rfl) ?_
  intro p e s m below meth c hx hb hml hr hlk hown hts hK hW ls hl
  have hown : s.vm.findClass RX8 = some m.cls := hown
  have hS : va_S (wA b0) s.heap s.heap [] := va_S.rf
  have hl : lv_has ls 2 [(0, .ref (ad 20 0)), (1, .int r)] := hl
  have hin : ∀ w ∈ wsX80, w ∈ wsX8_covered := fun w h => List.mem_cons_of_mem _ (List.mem_append_right _ h)
  refine lv_aload_n hx hb dX8_covered_0 rfl (lv_at hl 0 rfl) ?_
  refine lv_aload_n hx hb dX8_covered_1 rfl (lv_at hl 0 rfl) ?_
  refine lv_iload_n hx hb dX8_covered_2 rfl (lv_at hl 1 rfl) ?_
  refine mm_callVi (n := 1) (As := [.int r]) (rest := [.ref (ad 20 0)]) (r := (m_X8_noRecord q r)) (q2 := q) ⟨hx, hb, hml, hown, hts⟩ (c_X8_noRecord l D b0 Pc cA ad q r) gX8_covered_X8_noRecord rfl (by decide +kernel) rfl ⟨Nat.le_of_ble_eq_true rfl, Nat.le_of_ble_eq_true rfl⟩ ⟨Nat.le_of_ble_eq_true rfl, Nat.le_of_ble_eq_true rfl⟩ hK hW hS hl.1 rfl (Nat.le_of_ble_eq_true rfl) dX8_covered_3 (fun H locs hW hS => ?_)
  refine lv_if_eq (tgt := 13) hx hb dX8_covered_6 (by decide) (fun c_1 => ?_) (fun c_1 => ?_)
  · refine lv_iconst (v := 0) hx hb dX8_covered_13 (by decide) ?_
    refine mm_put hx hb hts hin hown hK hW hS 0 (by decide) (List.mem_of_getElem? (i := 1) rfl) rfl rfl (by decide +kernel) rfl (ws_0 ad _ _) dX8_covered_14 (fun H locs hW hS => ?_)
    refine lv_aload_n hx hb dX8_covered_17 rfl (lv_at hl 0 rfl) ?_
    refine mm_gets (v := 0) hx hb hts hin hown hK hW 0 (by decide) (List.mem_of_getElem? (i := 1) rfl) rfl rfl (mq_same q 0 0 0) dX8_covered_18 ?_
    refine lv_if_le (tgt := 28) hx hb dX8_covered_21 (by decide) (fun _ => ?_) (fun h => absurd h (by decide))
    refine lv_aload_n hx hb dX8_covered_28 rfl (lv_at hl 0 rfl) ?_
    refine lv_iload_n hx hb dX8_covered_29 rfl (lv_at hl 1 rfl) ?_
    have h_2 : 0 ≤ (r : Int32).toInt ∧ (r : Int32).toInt ≤ 63 := by
      have u_1 := rg_e r
      have u_2 := rg_e (m_X8_noRecord q r)
      have k_3 : (0 : Int32).toInt = 0 := rfl
      have v_4 := cv_eq c_1
      have v_5 := nr_t hI c_1
      have w_6 := hI.2.2.2.1
      exact by omega
    refine mm_callVi (n := 1) (As := [.int r]) (rest := []) (r := (m_X8_holds (mq_i q 0 0 0) r)) (q2 := (mq_i q 0 0 0)) ⟨hx, hb, hml, hown, hts⟩ (c_X8_holds l D b0 Pc cA ad (mq_i q 0 0 0) r h_2 (gI_i (by decide) hI)) gX8_covered_X8_holds rfl (by decide +kernel) rfl ⟨Nat.le_of_ble_eq_true rfl, Nat.le_of_ble_eq_true rfl⟩ ⟨Nat.le_of_ble_eq_true rfl, Nat.le_of_ble_eq_true rfl⟩ hK hW hS hl.1 rfl (Nat.le_of_ble_eq_true rfl) dX8_covered_30 (fun H locs hW hS => ?_)
    exact mm_iret hx hb hr hlk hK hW hS (by rw [m_X8_covered, if_pos c_1]) dX8_covered_33
  · refine lv_iconst (v := 1) hx hb dX8_covered_9 (by decide) ?_
    refine lv_goto (tgt := 14) hx hb dX8_covered_10 (by decide) ?_
    refine mm_put hx hb hts hin hown hK hW hS 0 (by decide) (List.mem_of_getElem? (i := 1) rfl) rfl rfl (by decide +kernel) rfl (ws_0 ad _ _) dX8_covered_14 (fun H locs hW hS => ?_)
    refine lv_aload_n hx hb dX8_covered_17 rfl (lv_at hl 0 rfl) ?_
    refine mm_gets (v := 1) hx hb hts hin hown hK hW 0 (by decide) (List.mem_of_getElem? (i := 1) rfl) rfl rfl (mq_same q 0 0 1) dX8_covered_18 ?_
    refine lv_if_le (tgt := 28) hx hb dX8_covered_21 (by decide) (fun h => absurd h (by decide)) (fun _ => ?_)
    refine lv_iconst (v := 0) hx hb dX8_covered_24 (by decide) ?_
    refine lv_goto (tgt := 33) hx hb dX8_covered_25 (by decide) ?_
    exact mm_iret hx hb hr hlk hK hW hS (by rw [m_X8_covered, if_neg c_1]) dX8_covered_33

def m_X8_due (q : qM) (r : Int32) : Int32 × qM := (if (m_X8_noRecord q r) = 0 then ((m_X8_dueOf (mq_i q 0 0 0) r), (mq_i q 0 0 0)) else (0, (mq_i q 0 0 1)))
set_option maxHeartbeats 4000000 in
set_option maxRecDepth 100000 in
theorem c_X8_due (l : Launch) (D : va_G) (b0 : Nat) (Pc : Nat → Nat → Option va_E) (cA : Nat → ClassId) (ad : Nat → Nat → Nat) (q : qM) (r : Int32) (hI : gI q) : mc_i l yX8_due wsX8_due 4 93 D b0 Pc cA ad q [.ref (ad 20 0), .int r] (m_X8_due q r) := by
  refine mc_of (by decide) rfl (Nat.le_of_ble_eq_true rfl) ?_
  intro p e s m below meth c hx hb hml hr hlk hown hts hK hW ls hl
  have hown : s.vm.findClass RX8 = some m.cls := hown
  have hS : va_S (wA b0) s.heap s.heap [] := va_S.rf
  have hl : lv_has ls 2 [(0, .ref (ad 20 0)), (1, .int r)] := hl
  have hin : ∀ w ∈ wsX80, w ∈ wsX8_due := fun w h => List.mem_cons_of_mem _ (List.mem_append_right _ h)
  refine lv_aload_n hx hb dX8_due_0 rfl (lv_at hl 0 rfl) ?_
  refine lv_aload_n hx hb dX8_due_1 rfl (lv_at hl 0 rfl) ?_
  refine lv_iload_n hx hb dX8_due_2 rfl (lv_at hl 1 rfl) ?_
  refine mm_callVi (n := 1) (As := [.int r]) (rest := [.ref (ad 20 0)]) (r := (m_X8_noRecord q r)) (q2 := q) ⟨hx, hb, hml, hown, hts⟩ (c_X8_noRecord l D b0 Pc cA ad q r) gX8_due_X8_noRecord rfl (by decide +kernel) rfl ⟨Nat.le_of_ble_eq_true rfl, Nat.le_of_ble_eq_true rfl⟩ ⟨Nat.le_of_ble_eq_true rfl, Nat.le_of_ble_eq_true rfl⟩ hK hW hS hl.1 rfl (Nat.le_of_ble_eq_true rfl) dX8_due_3 (fun H locs hW hS => ?_)
  refine lv_if_eq (tgt := 13) hx hb dX8_due_6 (by decide) (fun c_1 => ?_) (fun c_1 => ?_)
  · refine lv_iconst (v := 0) hx hb dX8_due_13 (by decide) ?_
    refine mm_put hx hb hts hin hown hK hW hS 0 (by decide) (List.mem_of_getElem? (i := 1) rfl) rfl rfl (by decide +kernel) rfl (ws_0 ad _ _) dX8_due_14 (fun H locs hW hS => ?_)
    refine lv_aload_n hx hb dX8_due_17 rfl (lv_at hl 0 rfl) ?_
    refine mm_gets (v := 0) hx hb hts hin hown hK hW 0 (by decide) (List.mem_of_getElem? (i := 1) rfl) rfl rfl (mq_same q 0 0 0) dX8_due_18 ?_
    refine lv_if_le (tgt := 28) hx hb dX8_due_21 (by decide) (fun _ => ?_) (fun h => absurd h (by decide))
    refine lv_aload_n hx hb dX8_due_28 rfl (lv_at hl 0 rfl) ?_
    refine lv_iload_n hx hb dX8_due_29 rfl (lv_at hl 1 rfl) ?_
    have h_2 : 0 ≤ (r : Int32).toInt ∧ (r : Int32).toInt < ((mq_i q 0 0 0).1 12 0).toInt := by
      rw [show (mq_i q 0 0 0).1 12 0 = (q.1 12 0) from (mq_ne (by decide))]
      have u_1 := rg_e r
      have u_2 := rg_e (m_X8_noRecord q r)
      have k_3 : (0 : Int32).toInt = 0 := rfl
      have v_4 := cv_eq c_1
      have v_5 := nr_t hI c_1
      have w_6 := hI.2.2.2.1
      exact by omega
    refine mm_callVi (n := 1) (As := [.int r]) (rest := []) (r := (m_X8_dueOf (mq_i q 0 0 0) r)) (q2 := (mq_i q 0 0 0)) ⟨hx, hb, hml, hown, hts⟩ (c_X8_dueOf l D b0 Pc cA ad (mq_i q 0 0 0) r h_2 (gI_i (by decide) hI)) gX8_due_X8_dueOf rfl (by decide +kernel) rfl ⟨Nat.le_of_ble_eq_true rfl, Nat.le_of_ble_eq_true rfl⟩ ⟨Nat.le_of_ble_eq_true rfl, Nat.le_of_ble_eq_true rfl⟩ hK hW hS hl.1 rfl (Nat.le_of_ble_eq_true rfl) dX8_due_30 (fun H locs hW hS => ?_)
    exact mm_iret hx hb hr hlk hK hW hS (by rw [m_X8_due, if_pos c_1]) dX8_due_33
  · refine lv_iconst (v := 1) hx hb dX8_due_9 (by decide) ?_
    refine lv_goto (tgt := 14) hx hb dX8_due_10 (by decide) ?_
    refine mm_put hx hb hts hin hown hK hW hS 0 (by decide) (List.mem_of_getElem? (i := 1) rfl) rfl rfl (by decide +kernel) rfl (ws_0 ad _ _) dX8_due_14 (fun H locs hW hS => ?_)
    refine lv_aload_n hx hb dX8_due_17 rfl (lv_at hl 0 rfl) ?_
    refine mm_gets (v := 1) hx hb hts hin hown hK hW 0 (by decide) (List.mem_of_getElem? (i := 1) rfl) rfl rfl (mq_same q 0 0 1) dX8_due_18 ?_
    refine lv_if_le (tgt := 28) hx hb dX8_due_21 (by decide) (fun h => absurd h (by decide)) (fun _ => ?_)
    refine lv_iconst (v := 0) hx hb dX8_due_24 (by decide) ?_
    refine lv_goto (tgt := 33) hx hb dX8_due_25 (by decide) ?_
    exact mm_iret hx hb hr hlk hK hW hS (by rw [m_X8_due, if_neg c_1]) dX8_due_33

def m_X8_keyCount_lp (q : qM) (r : Int32) : Nat → Int32 → Int32 → Int32
  | 0, _, _ => 0
  | n + 1, n9, k => (if 99 < k then n9 else (m_X8_keyCount_lp q r n ((if (m_X8_hasKey q r k) = 0 then n9 else (n9 + 1)) : Int32) (k + 1)))
def m_X8_keyCount (q : qM) (r : Int32) : Int32 := (m_X8_keyCount_lp q r 101 0 0)
set_option maxHeartbeats 4000000 in
set_option maxRecDepth 100000 in
theorem c_X8_keyCount (l : Launch) (D : va_G) (b0 : Nat) (Pc : Nat → Nat → Option va_E) (cA : Nat → ClassId) (ad : Nat → Nat → Nat) (q : qM) (r : Int32) (hrr : 0 ≤ (r : Int32).toInt ∧ (r : Int32).toInt ≤ 63) : mc_i l yX8_keyCount wsX8_keyCount 1 22 D b0 Pc cA ad q [.ref (ad 20 0), .int r] (m_X8_keyCount q r, q) := by
  refine mc_of (by decide) rfl (Nat.le_of_ble_eq_true rfl) ?_
  intro p e s m below meth c hx hb hml hr hlk hown hts hK hW ls hl
  have hown : s.vm.findClass RX8 = some m.cls := hown
  have hS : va_S (wA b0) s.heap s.heap [] := va_S.rf
  have hl : lv_has ls 4 [(0, .ref (ad 20 0)), (1, .int r)] := hl
  have hin : ∀ w ∈ wsX80, w ∈ wsX8_keyCount := fun w h => List.mem_cons_of_mem _ (List.mem_append_right _ h)
  refine lv_iconst (v := 0) hx hb dX8_keyCount_0 (by decide) ?_
  refine lv_istore_n (lv' := [(2, .int 0), (0, .ref (ad 20 0)), (1, .int r)]) hx hb dX8_keyCount_1 rfl hl (by decide) rfl (fun ls hl => ?_)
  refine lv_iconst (v := 0) hx hb dX8_keyCount_2 (by decide) ?_
  refine lv_istore_n (lv' := [(3, .int 0), (2, .int 0), (0, .ref (ad 20 0)), (1, .int r)]) hx hb dX8_keyCount_3 rfl hl (by decide) rfl (fun ls hl => ?_)
  have lp_10 : ∀ (Q : State → Prop) (n : Nat) (n9 : Int32) (k : Int32), (0 ≤ k.toInt ∧ k.toInt ≤ 100) → 100 - k.toInt < (n : Int) → (∀ o_1 : Int32, o_1 = (m_X8_keyCount_lp q r n n9 k) → ∀ (H : Heap) (locs : List Loc), wd D (wA b0) (PW Pc cA ad q) ad H → va_S (wA b0) s.heap H locs → ∀ ls : Array Slot, lv_has ls 4 [(2, .int o_1), (0, .ref (ad 20 0)), (1, .int r)] → W p l e { frames := 1, cells := 0, slots := 0, locals := 22 } s m [.ref (ad 20 0), .int r].toArray below meth c H locs 0 0 Q (F0 m 33 ls [])) → ∀ (H : Heap) (locs : List Loc), wd D (wA b0) (PW Pc cA ad q) ad H → va_S (wA b0) s.heap H locs → ∀ ls : Array Slot, lv_has ls 4 [(2, .int n9), (3, .int k), (0, .ref (ad 20 0)), (1, .int r)] → W p l e { frames := 1, cells := 0, slots := 0, locals := 22 } s m [.ref (ad 20 0), .int r].toArray below meth c H locs 0 0 Q (F0 m 4 ls []) := by
    intro Q n
    induction n with
    | zero =>
      intro n9 k i1 hm
      have hz : 0 ≤ 100 - k.toInt := by
        have w_1 := hrr
        have w_2 := i1
        omega
      exact absurd hm (by omega)
    | succ n ih =>
      intro n9 k i1 hm kk H locs hW hS ls hl
      refine lv_iload_n hx hb dX8_keyCount_4 rfl (lv_at hl 1 rfl) ?_
      refine lv_bipush (v := 99) hx hb dX8_keyCount_5 (by decide) ?_
      refine lv_icmp_gt (tgt := 33) hx hb dX8_keyCount_7 (by decide) (fun c_2 => ?_) (fun c_2 => ?_)
      · exact kk n9 (by rw [m_X8_keyCount_lp, if_pos c_2])  H locs hW hS ls (lv_sub hl [0, 2, 3] rfl)
      · refine jn_w (J := 26) (rest := []) (Wd := fun H locs => wd D (wA b0) (PW Pc cA ad q) ad H ∧ va_S (wA b0) s.heap H locs) ((if (m_X8_hasKey q r k) = 0 then n9 else (n9 + 1)) : Int32) ⟨hW, hS⟩ (fun H locs hWS => ?_) (fun hj => ?_)
        · obtain ⟨hW, hS⟩ := hWS
          obtain ⟨j_7, ej_7⟩ : ∃ z : Int32, z = ((if (m_X8_hasKey q r k) = 0 then n9 else (n9 + 1)) : Int32) := ⟨_, rfl⟩
          rw [← ej_7]
          refine lv_istore_n (lv' := [(2, .int j_7), (3, .int k), (0, .ref (ad 20 0)), (1, .int r)]) hx hb dX8_keyCount_26 rfl hl (by decide) rfl (fun ls hl => ?_)
          refine lv_iinc (v := (k + 1)) (lv' := [(3, .int (k + 1)), (2, .int j_7), (0, .ref (ad 20 0)), (1, .int r)]) hx hb dX8_keyCount_27 hl (k := 1) rfl (by first | rfl | decide) (by decide) rfl (fun ls hl => ?_)
          refine lv_goto (tgt := 4) hx hb dX8_keyCount_30 (by decide) ?_
          have h_8 : 0 ≤ (k + 1).toInt ∧ (k + 1).toInt ≤ 100 := by
            have u_1 := rg_e j_7
            have u_2 := rg_e k
            have k_3 : (1 : Int32).toInt = 1 := rfl
            have k_5 : (99 : Int32).toInt = 99 := rfl
            have v_6 := cv_nlt c_2
            have w_7 := hrr
            have w_8 := i1
            have u_4 := ad_o k 1
            omega
          have h_9 : 100 - (k + 1).toInt < (n : Int) := by
            have u_1 := rg_e j_7
            have u_2 := rg_e k
            have k_3 : (1 : Int32).toInt = 1 := rfl
            have k_5 : (99 : Int32).toInt = 99 := rfl
            have v_6 := cv_nlt c_2
            have w_7 := hrr
            have w_8 := i1
            have w_9 := hm
            have u_4 := ad_o k 1
            omega
          exact ih j_7 (k + 1) h_8 h_9 (fun o_1 eo_1 => kk o_1 (eo_1.trans (by rw [m_X8_keyCount_lp, if_neg c_2, ← ej_7]))) _ _ hW hS ls (lv_sub hl [1, 0, 2, 3] rfl)
        · refine lv_aload_n hx hb dX8_keyCount_10 rfl (lv_at hl 2 rfl) ?_
          refine lv_iload_n hx hb dX8_keyCount_11 rfl (lv_at hl 3 rfl) ?_
          refine lv_iload_n hx hb dX8_keyCount_12 rfl (lv_at hl 1 rfl) ?_
          have h_3 : 0 ≤ (r : Int32).toInt ∧ (r : Int32).toInt ≤ 63 := by
            have u_1 := rg_e r
            have u_2 := rg_e k
            have k_3 : (99 : Int32).toInt = 99 := rfl
            have v_4 := cv_nlt c_2
            have w_5 := hrr
            have w_6 := i1
            exact by omega
          refine mm_callVi (n := 2) (As := [.int r, .int k]) (rest := []) (r := (m_X8_hasKey q r k)) (q2 := q) ⟨hx, hb, hml, hown, hts⟩ (c_X8_hasKey l D b0 Pc cA ad q r k h_3) gX8_keyCount_X8_hasKey rfl (by decide +kernel) rfl ⟨Nat.le_of_ble_eq_true rfl, Nat.le_of_ble_eq_true rfl⟩ ⟨Nat.le_of_ble_eq_true rfl, Nat.le_of_ble_eq_true rfl⟩ hK hW hS hl.1 rfl (Nat.le_of_ble_eq_true rfl) dX8_keyCount_13 (fun H locs hW hS => ?_)
          refine lv_if_eq (tgt := 25) hx hb dX8_keyCount_16 (by decide) (fun c_4 => ?_) (fun c_4 => ?_)
          · refine lv_iload_n hx hb dX8_keyCount_25 rfl (lv_at hl 0 rfl) ?_
            have e_5 : ((if (m_X8_hasKey q r k) = 0 then n9 else (n9 + 1)) : Int32) = n9 := by rw [if_pos c_4]
            exact hj _ _ _ e_5 ⟨hW, hS⟩
          · refine lv_iload_n hx hb dX8_keyCount_19 rfl (lv_at hl 0 rfl) ?_
            refine lv_iconst (v := 1) hx hb dX8_keyCount_20 (by decide) ?_
            refine lv_iadd hx hb dX8_keyCount_21 ?_
            refine lv_goto (tgt := 26) hx hb dX8_keyCount_22 (by decide) ?_
            have e_6 : ((if (m_X8_hasKey q r k) = 0 then n9 else (n9 + 1)) : Int32) = (n9 + 1) := by rw [if_neg c_4]
            exact hj _ _ _ e_6 ⟨hW, hS⟩
  have h_11 : 0 ≤ (0 : Int32).toInt ∧ (0 : Int32).toInt ≤ 100 := by
    have k_1 : (0 : Int32).toInt = 0 := rfl
    have w_2 := hrr
    omega
  have h_12 : 100 - (0 : Int32).toInt < ((101 : Nat) : Int) := by
    have k_1 : (0 : Int32).toInt = 0 := rfl
    have w_2 := hrr
    omega
  refine lp_10 _ 101 0 0 h_11 h_12 (fun o_1 eo_1 H locs hW hS ls hl => ?_) _ _ hW hS ls (lv_sub hl [1, 0, 2, 3] rfl)
  refine lv_iload_n hx hb dX8_keyCount_33 rfl (lv_at hl 0 rfl) ?_
  exact mm_iret hx hb hr hlk hK hW hS (by rw [m_X8_keyCount, ← eo_1]) dX8_keyCount_34

def m_X8_record (q : qM) (r : Int32) (what : Int32) : Int32 × qM := (if (m_X8_noRecord q r) = 0 then (if (m_X8_isIn what 0 4) = 0 then (0, (mq_i q 0 0 2)) else (if what = 0 then ((q.1 13 (Int32.toNatClampNeg r)), (mq_i q 0 0 0)) else (if what = 1 then ((q.1 14 (Int32.toNatClampNeg r)), (mq_i q 0 0 0)) else (if what = 2 then ((q.1 15 (Int32.toNatClampNeg r)), (mq_i q 0 0 0)) else (if what = 3 then (if (q.1 18 (Int32.toNatClampNeg r)) = 0 then (0, (mq_i q 0 0 0)) else (1, (mq_i q 0 0 0))) else ((m_X8_keyCount (mq_i q 0 0 0) r), (mq_i q 0 0 0))))))) else (0, (mq_i q 0 0 1)))
set_option maxHeartbeats 4000000 in
set_option maxRecDepth 100000 in
theorem c_X8_record (l : Launch) (D : va_G) (b0 : Nat) (Pc : Nat → Nat → Option va_E) (cA : Nat → ClassId) (ad : Nat → Nat → Nat) (q : qM) (r : Int32) (what : Int32) (hI : gI q) : mc_i l yX8_record wsX8_record 2 45 D b0 Pc cA ad q [.ref (ad 20 0), .int r, .int what] (m_X8_record q r what) := by
  refine mc_of (by decide) rfl (Nat.le_of_ble_eq_true rfl) ?_
  intro p e s m below meth c hx hb hml hr hlk hown hts hK hW ls hl
  have hown : s.vm.findClass RX8 = some m.cls := hown
  have hS : va_S (wA b0) s.heap s.heap [] := va_S.rf
  have hl : lv_has ls 3 [(0, .ref (ad 20 0)), (1, .int r), (2, .int what)] := hl
  have hin : ∀ w ∈ wsX80, w ∈ wsX8_record := fun w h => List.mem_cons_of_mem _ (List.mem_append_right _ h)
  refine lv_aload_n hx hb dX8_record_0 rfl (lv_at hl 0 rfl) ?_
  refine lv_aload_n hx hb dX8_record_1 rfl (lv_at hl 0 rfl) ?_
  refine lv_iload_n hx hb dX8_record_2 rfl (lv_at hl 1 rfl) ?_
  refine mm_callVi (n := 1) (As := [.int r]) (rest := [.ref (ad 20 0)]) (r := (m_X8_noRecord q r)) (q2 := q) ⟨hx, hb, hml, hown, hts⟩ (c_X8_noRecord l D b0 Pc cA ad q r) gX8_record_X8_noRecord rfl (by decide +kernel) rfl ⟨Nat.le_of_ble_eq_true rfl, Nat.le_of_ble_eq_true rfl⟩ ⟨Nat.le_of_ble_eq_true rfl, Nat.le_of_ble_eq_true rfl⟩ hK hW hS hl.1 rfl (Nat.le_of_ble_eq_true rfl) dX8_record_3 (fun H locs hW hS => ?_)
  refine lv_if_eq (tgt := 13) hx hb dX8_record_6 (by decide) (fun c_1 => ?_) (fun c_1 => ?_)
  · refine lv_iload_n hx hb dX8_record_13 rfl (lv_at hl 2 rfl) ?_
    refine lv_iconst (v := 0) hx hb dX8_record_14 (by decide) ?_
    refine lv_iconst (v := 4) hx hb dX8_record_15 (by decide) ?_
    refine mm_callSi (n := 3) (As := [.int what, .int 0, .int 4]) (rest := [.ref (ad 20 0)]) (r := (m_X8_isIn what 0 4)) (q2 := q) ⟨hx, hb, hml, hown, hts⟩ (c_X8_isIn l D b0 Pc cA ad q what 0 4) gX8_record_X8_isIn rfl (by decide +kernel) rfl ⟨Nat.le_of_ble_eq_true rfl, Nat.le_of_ble_eq_true rfl⟩ ⟨Nat.le_of_ble_eq_true rfl, Nat.le_of_ble_eq_true rfl⟩ hK hW hS hl.1 rfl (Nat.le_of_ble_eq_true rfl) dX8_record_16 (fun H locs hW hS => ?_)
    refine lv_if_ne (tgt := 26) hx hb dX8_record_19 (by decide) (fun c_2 => ?_) (fun c_2 => ?_)
    · refine lv_iconst (v := 0) hx hb dX8_record_26 (by decide) ?_
      refine mm_put hx hb hts hin hown hK hW hS 0 (by decide) (List.mem_of_getElem? (i := 1) rfl) rfl rfl (by decide +kernel) rfl (ws_0 ad _ _) dX8_record_27 (fun H locs hW hS => ?_)
      refine lv_aload_n hx hb dX8_record_30 rfl (lv_at hl 0 rfl) ?_
      refine mm_gets (v := 0) hx hb hts hin hown hK hW 0 (by decide) (List.mem_of_getElem? (i := 1) rfl) rfl rfl (mq_same q 0 0 0) dX8_record_31 ?_
      refine lv_if_le (tgt := 39) hx hb dX8_record_34 (by decide) (fun _ => ?_) (fun h => absurd h (by decide))
      refine lv_iload_n hx hb dX8_record_39 rfl (lv_at hl 2 rfl) ?_
      refine lv_if_ne (tgt := 52) hx hb dX8_record_40 (by decide) (fun c_3 => ?_) (fun c_3 => ?_)
      · refine lv_iload_n hx hb dX8_record_52 rfl (lv_at hl 2 rfl) ?_
        refine lv_iconst (v := 1) hx hb dX8_record_53 (by decide) ?_
        refine lv_icmp_ne (tgt := 66) hx hb dX8_record_54 (by decide) (fun c_4 => ?_) (fun c_4 => ?_)
        · refine lv_iload_n hx hb dX8_record_66 rfl (lv_at hl 2 rfl) ?_
          refine lv_iconst (v := 2) hx hb dX8_record_67 (by decide) ?_
          refine lv_icmp_ne (tgt := 80) hx hb dX8_record_68 (by decide) (fun c_5 => ?_) (fun c_5 => ?_)
          · refine lv_iload_n hx hb dX8_record_80 rfl (lv_at hl 2 rfl) ?_
            refine lv_iconst (v := 3) hx hb dX8_record_81 (by decide) ?_
            refine lv_icmp_ne (tgt := 102) hx hb dX8_record_82 (by decide) (fun c_6 => ?_) (fun c_6 => ?_)
            · refine lv_aload_n hx hb dX8_record_102 rfl (lv_at hl 0 rfl) ?_
              refine lv_iload_n hx hb dX8_record_103 rfl (lv_at hl 1 rfl) ?_
              have h_7 : 0 ≤ (r : Int32).toInt ∧ (r : Int32).toInt ≤ 63 := by
                have u_1 := rg_e r
                have u_2 := rg_e (m_X8_noRecord q r)
                have k_3 : (0 : Int32).toInt = 0 := rfl
                have v_4 := cv_eq c_1
                have v_5 := nr_t hI c_1
                have u_6 := rg_e (m_X8_isIn what 0 4)
                have v_7 := cv_ne c_2
                have u_8 := rg_e what
                have k_9 : (4 : Int32).toInt = 4 := rfl
                have v_10 := is_t c_2
                have v_11 := cv_ne c_3
                have k_12 : (1 : Int32).toInt = 1 := rfl
                have v_13 := cv_ne c_4
                have k_14 : (2 : Int32).toInt = 2 := rfl
                have v_15 := cv_ne c_5
                have k_16 : (3 : Int32).toInt = 3 := rfl
                have v_17 := cv_ne c_6
                have w_18 := hI.2.2.2.1
                exact by omega
              refine mm_callVi (n := 1) (As := [.int r]) (rest := []) (r := (m_X8_keyCount (mq_i q 0 0 0) r)) (q2 := (mq_i q 0 0 0)) ⟨hx, hb, hml, hown, hts⟩ (c_X8_keyCount l D b0 Pc cA ad (mq_i q 0 0 0) r h_7) gX8_record_X8_keyCount rfl (by decide +kernel) rfl ⟨Nat.le_of_ble_eq_true rfl, Nat.le_of_ble_eq_true rfl⟩ ⟨Nat.le_of_ble_eq_true rfl, Nat.le_of_ble_eq_true rfl⟩ hK hW hS hl.1 rfl (Nat.le_of_ble_eq_true rfl) dX8_record_104 (fun H locs hW hS => ?_)
              exact mm_iret hx hb hr hlk hK hW hS (by rw [m_X8_record, if_pos c_1, if_neg c_2, if_neg c_3, if_neg c_4, if_neg c_5, if_neg c_6]) dX8_record_107
            · refine lv_aload_n hx hb dX8_record_85 rfl (lv_at hl 0 rfl) ?_
              refine mm_get (v := .ref (ad 21 18)) hx hb hts hin hown hK hW 18 (by decide) (List.mem_of_getElem? (i := 5) rfl) rfl rfl dX8_record_86 ?_
              refine lv_iload_n hx hb dX8_record_89 rfl (lv_at hl 1 rfl) ?_
              have b_8 : vp_in r 64 := by
                have u_1 := rg_e r
                have u_2 := rg_e (m_X8_noRecord q r)
                have k_3 : (0 : Int32).toInt = 0 := rfl
                have v_4 := cv_eq c_1
                have v_5 := nr_t hI c_1
                have u_6 := rg_e (m_X8_isIn what 0 4)
                have v_7 := cv_ne c_2
                have u_8 := rg_e what
                have k_9 : (4 : Int32).toInt = 4 := rfl
                have v_10 := is_t c_2
                have v_11 := cv_ne c_3
                have k_12 : (1 : Int32).toInt = 1 := rfl
                have v_13 := cv_ne c_4
                have k_14 : (2 : Int32).toInt = 2 := rfl
                have v_15 := cv_ne c_5
                have k_16 : (3 : Int32).toInt = 3 := rfl
                have v_17 := cv_eq c_6
                have w_18 := hI.2.2.2.1
                exact vp_in_iff.mpr (by omega)
              refine mm_zald (v := (q.1 18 (Int32.toNatClampNeg r))) hx hb hK hW 18 64 rfl b_8 ((mq_ne (by decide))) dX8_record_90 ?_
              refine lv_if_eq (tgt := 98) hx hb dX8_record_91 (by decide) (fun c_9 => ?_) (fun c_9 => ?_)
              · refine lv_iconst (v := 0) hx hb dX8_record_98 (by decide) ?_
                refine lv_goto (tgt := 107) hx hb dX8_record_99 (by decide) ?_
                exact mm_iret hx hb hr hlk hK hW hS (by rw [m_X8_record, if_pos c_1, if_neg c_2, if_neg c_3, if_neg c_4, if_neg c_5, if_pos c_6, if_pos c_9]) dX8_record_107
              · refine lv_iconst (v := 1) hx hb dX8_record_94 (by decide) ?_
                refine lv_goto (tgt := 107) hx hb dX8_record_95 (by decide) ?_
                exact mm_iret hx hb hr hlk hK hW hS (by rw [m_X8_record, if_pos c_1, if_neg c_2, if_neg c_3, if_neg c_4, if_neg c_5, if_pos c_6, if_neg c_9]) dX8_record_107
          · refine lv_aload_n hx hb dX8_record_71 rfl (lv_at hl 0 rfl) ?_
            refine mm_get (v := .ref (ad 21 15)) hx hb hts hin hown hK hW 15 (by decide) (List.mem_of_getElem? (i := 4) rfl) rfl rfl dX8_record_72 ?_
            refine lv_iload_n hx hb dX8_record_75 rfl (lv_at hl 1 rfl) ?_
            have b_10 : vp_in r 64 := by
              have u_1 := rg_e r
              have u_2 := rg_e (m_X8_noRecord q r)
              have k_3 : (0 : Int32).toInt = 0 := rfl
              have v_4 := cv_eq c_1
              have v_5 := nr_t hI c_1
              have u_6 := rg_e (m_X8_isIn what 0 4)
              have v_7 := cv_ne c_2
              have u_8 := rg_e what
              have k_9 : (4 : Int32).toInt = 4 := rfl
              have v_10 := is_t c_2
              have v_11 := cv_ne c_3
              have k_12 : (1 : Int32).toInt = 1 := rfl
              have v_13 := cv_ne c_4
              have k_14 : (2 : Int32).toInt = 2 := rfl
              have v_15 := cv_eq c_5
              have w_16 := hI.2.2.2.1
              exact vp_in_iff.mpr (by omega)
            refine mm_iald (v := (q.1 15 (Int32.toNatClampNeg r))) hx hb hK hW 15 64 rfl b_10 ((mq_ne (by decide))) dX8_record_76 ?_
            refine lv_goto (tgt := 107) hx hb dX8_record_77 (by decide) ?_
            exact mm_iret hx hb hr hlk hK hW hS (by rw [m_X8_record, if_pos c_1, if_neg c_2, if_neg c_3, if_neg c_4, if_pos c_5]) dX8_record_107
        · refine lv_aload_n hx hb dX8_record_57 rfl (lv_at hl 0 rfl) ?_
          refine mm_get (v := .ref (ad 21 14)) hx hb hts hin hown hK hW 14 (by decide) (List.mem_of_getElem? (i := 3) rfl) rfl rfl dX8_record_58 ?_
          refine lv_iload_n hx hb dX8_record_61 rfl (lv_at hl 1 rfl) ?_
          have b_11 : vp_in r 64 := by
            have u_1 := rg_e r
            have u_2 := rg_e (m_X8_noRecord q r)
            have k_3 : (0 : Int32).toInt = 0 := rfl
            have v_4 := cv_eq c_1
            have v_5 := nr_t hI c_1
            have u_6 := rg_e (m_X8_isIn what 0 4)
            have v_7 := cv_ne c_2
            have u_8 := rg_e what
            have k_9 : (4 : Int32).toInt = 4 := rfl
            have v_10 := is_t c_2
            have v_11 := cv_ne c_3
            have k_12 : (1 : Int32).toInt = 1 := rfl
            have v_13 := cv_eq c_4
            have w_14 := hI.2.2.2.1
            exact vp_in_iff.mpr (by omega)
          refine mm_iald (v := (q.1 14 (Int32.toNatClampNeg r))) hx hb hK hW 14 64 rfl b_11 ((mq_ne (by decide))) dX8_record_62 ?_
          refine lv_goto (tgt := 107) hx hb dX8_record_63 (by decide) ?_
          exact mm_iret hx hb hr hlk hK hW hS (by rw [m_X8_record, if_pos c_1, if_neg c_2, if_neg c_3, if_pos c_4]) dX8_record_107
      · refine lv_aload_n hx hb dX8_record_43 rfl (lv_at hl 0 rfl) ?_
        refine mm_get (v := .ref (ad 21 13)) hx hb hts hin hown hK hW 13 (by decide) (List.mem_of_getElem? (i := 2) rfl) rfl rfl dX8_record_44 ?_
        refine lv_iload_n hx hb dX8_record_47 rfl (lv_at hl 1 rfl) ?_
        have b_12 : vp_in r 64 := by
          have u_1 := rg_e r
          have u_2 := rg_e (m_X8_noRecord q r)
          have k_3 : (0 : Int32).toInt = 0 := rfl
          have v_4 := cv_eq c_1
          have v_5 := nr_t hI c_1
          have u_6 := rg_e (m_X8_isIn what 0 4)
          have v_7 := cv_ne c_2
          have u_8 := rg_e what
          have k_9 : (4 : Int32).toInt = 4 := rfl
          have v_10 := is_t c_2
          have v_11 := cv_eq c_3
          have w_12 := hI.2.2.2.1
          exact vp_in_iff.mpr (by omega)
        refine mm_iald (v := (q.1 13 (Int32.toNatClampNeg r))) hx hb hK hW 13 64 rfl b_12 ((mq_ne (by decide))) dX8_record_48 ?_
        refine lv_goto (tgt := 107) hx hb dX8_record_49 (by decide) ?_
        exact mm_iret hx hb hr hlk hK hW hS (by rw [m_X8_record, if_pos c_1, if_neg c_2, if_pos c_3]) dX8_record_107
    · refine lv_iconst (v := 2) hx hb dX8_record_22 (by decide) ?_
      refine lv_goto (tgt := 27) hx hb dX8_record_23 (by decide) ?_
      refine mm_put hx hb hts hin hown hK hW hS 0 (by decide) (List.mem_of_getElem? (i := 1) rfl) rfl rfl (by decide +kernel) rfl (ws_0 ad _ _) dX8_record_27 (fun H locs hW hS => ?_)
      refine lv_aload_n hx hb dX8_record_30 rfl (lv_at hl 0 rfl) ?_
      refine mm_gets (v := 2) hx hb hts hin hown hK hW 0 (by decide) (List.mem_of_getElem? (i := 1) rfl) rfl rfl (mq_same q 0 0 2) dX8_record_31 ?_
      refine lv_if_le (tgt := 39) hx hb dX8_record_34 (by decide) (fun h => absurd h (by decide)) (fun _ => ?_)
      refine lv_iconst (v := 0) hx hb dX8_record_37 (by decide) ?_
      exact mm_iret hx hb hr hlk hK hW hS (by rw [m_X8_record, if_pos c_1, if_pos c_2]) dX8_record_38
  · refine lv_iconst (v := 1) hx hb dX8_record_9 (by decide) ?_
    refine lv_goto (tgt := 27) hx hb dX8_record_10 (by decide) ?_
    refine mm_put hx hb hts hin hown hK hW hS 0 (by decide) (List.mem_of_getElem? (i := 1) rfl) rfl rfl (by decide +kernel) rfl (ws_0 ad _ _) dX8_record_27 (fun H locs hW hS => ?_)
    refine lv_aload_n hx hb dX8_record_30 rfl (lv_at hl 0 rfl) ?_
    refine mm_gets (v := 1) hx hb hts hin hown hK hW 0 (by decide) (List.mem_of_getElem? (i := 1) rfl) rfl rfl (mq_same q 0 0 1) dX8_record_31 ?_
    refine lv_if_le (tgt := 39) hx hb dX8_record_34 (by decide) (fun h => absurd h (by decide)) (fun _ => ?_)
    refine lv_iconst (v := 0) hx hb dX8_record_37 (by decide) ?_
    exact mm_iret hx hb hr hlk hK hW hS (by rw [m_X8_record, if_neg c_1]) dX8_record_38

def m_X8_read (q : qM) (r : Int32) : Int64 × qM := (if (m_X8_noRecord q r) = 0 then (if (q.1 18 (Int32.toNatClampNeg r)) = 0 then ((q.2 16 (Int32.toNatClampNeg r)), (mq_i q 0 0 0)) else (0, (mq_i q 0 0 2))) else (0, (mq_i q 0 0 1)))
set_option maxHeartbeats 4000000 in
set_option maxRecDepth 100000 in
theorem c_X8_read (l : Launch) (D : va_G) (b0 : Nat) (Pc : Nat → Nat → Option va_E) (cA : Nat → ClassId) (ad : Nat → Nat → Nat) (q : qM) (r : Int32) (hI : gI q) : mc_l l yX8_read wsX8_read 2 43 D b0 Pc cA ad q [.ref (ad 20 0), .int r] (m_X8_read q r) := by
  refine mc_of (by decide) rfl (Nat.le_of_ble_eq_true rfl) ?_
  intro p e s m below meth c hx hb hml hr hlk hown hts hK hW ls hl
  have hown : s.vm.findClass RX8 = some m.cls := hown
  have hS : va_S (wA b0) s.heap s.heap [] := va_S.rf
  have hl : lv_has ls 2 [(0, .ref (ad 20 0)), (1, .int r)] := hl
  have hin : ∀ w ∈ wsX80, w ∈ wsX8_read := fun w h => List.mem_cons_of_mem _ (List.mem_append_right _ h)
  refine lv_aload_n hx hb dX8_read_0 rfl (lv_at hl 0 rfl) ?_
  refine lv_aload_n hx hb dX8_read_1 rfl (lv_at hl 0 rfl) ?_
  refine lv_iload_n hx hb dX8_read_2 rfl (lv_at hl 1 rfl) ?_
  refine mm_callVi (n := 1) (As := [.int r]) (rest := [.ref (ad 20 0)]) (r := (m_X8_noRecord q r)) (q2 := q) ⟨hx, hb, hml, hown, hts⟩ (c_X8_noRecord l D b0 Pc cA ad q r) gX8_read_X8_noRecord rfl (by decide +kernel) rfl ⟨Nat.le_of_ble_eq_true rfl, Nat.le_of_ble_eq_true rfl⟩ ⟨Nat.le_of_ble_eq_true rfl, Nat.le_of_ble_eq_true rfl⟩ hK hW hS hl.1 rfl (Nat.le_of_ble_eq_true rfl) dX8_read_3 (fun H locs hW hS => ?_)
  refine lv_if_eq (tgt := 13) hx hb dX8_read_6 (by decide) (fun c_1 => ?_) (fun c_1 => ?_)
  · refine lv_aload_n hx hb dX8_read_13 rfl (lv_at hl 0 rfl) ?_
    refine mm_get (v := .ref (ad 21 18)) hx hb hts hin hown hK hW 18 (by decide) (List.mem_of_getElem? (i := 1) rfl) rfl rfl dX8_read_14 ?_
    refine lv_iload_n hx hb dX8_read_17 rfl (lv_at hl 1 rfl) ?_
    have b_2 : vp_in r 64 := by
      have u_1 := rg_e r
      have u_2 := rg_e (m_X8_noRecord q r)
      have k_3 : (0 : Int32).toInt = 0 := rfl
      have v_4 := cv_eq c_1
      have v_5 := nr_t hI c_1
      have w_6 := hI.2.2.2.1
      exact vp_in_iff.mpr (by omega)
    refine mm_zald (v := (q.1 18 (Int32.toNatClampNeg r))) hx hb hK hW 18 64 rfl b_2 ((rfl)) dX8_read_18 ?_
    refine lv_if_eq (tgt := 26) hx hb dX8_read_19 (by decide) (fun c_3 => ?_) (fun c_3 => ?_)
    · refine lv_iconst (v := 0) hx hb dX8_read_26 (by decide) ?_
      refine mm_put hx hb hts hin hown hK hW hS 0 (by decide) (List.mem_of_getElem? (i := 2) rfl) rfl rfl (by decide +kernel) rfl (ws_0 ad _ _) dX8_read_27 (fun H locs hW hS => ?_)
      refine lv_aload_n hx hb dX8_read_30 rfl (lv_at hl 0 rfl) ?_
      refine mm_gets (v := 0) hx hb hts hin hown hK hW 0 (by decide) (List.mem_of_getElem? (i := 2) rfl) rfl rfl (mq_same q 0 0 0) dX8_read_31 ?_
      refine lv_if_le (tgt := 41) hx hb dX8_read_34 (by decide) (fun _ => ?_) (fun h => absurd h (by decide))
      refine lv_aload_n hx hb dX8_read_41 rfl (lv_at hl 0 rfl) ?_
      refine mm_get (v := .ref (ad 21 16)) hx hb hts hin hown hK hW 16 (by decide) (List.mem_of_getElem? (i := 3) rfl) rfl rfl dX8_read_42 ?_
      refine lv_iload_n hx hb dX8_read_45 rfl (lv_at hl 1 rfl) ?_
      have b_4 : vp_in r 64 := by
        have u_1 := rg_e r
        have u_2 := rg_e (m_X8_noRecord q r)
        have k_3 : (0 : Int32).toInt = 0 := rfl
        have v_4 := cv_eq c_1
        have v_5 := nr_t hI c_1
        have u_6 := rg_e (q.1 18 (Int32.toNatClampNeg r))
        have v_7 := cv_eq c_3
        have w_8 := hI.2.2.2.1
        exact vp_in_iff.mpr (by omega)
      refine mm_lald (v := (q.2 16 (Int32.toNatClampNeg r))) hx hb hK hW 16 64 rfl b_4 ((ml_nei)) dX8_read_46 ?_
      exact mm_lret hx hb hr hlk hK hW hS (by rw [m_X8_read, if_pos c_1, if_pos c_3]) dX8_read_47
    · refine lv_iconst (v := 2) hx hb dX8_read_22 (by decide) ?_
      refine lv_goto (tgt := 27) hx hb dX8_read_23 (by decide) ?_
      refine mm_put hx hb hts hin hown hK hW hS 0 (by decide) (List.mem_of_getElem? (i := 2) rfl) rfl rfl (by decide +kernel) rfl (ws_0 ad _ _) dX8_read_27 (fun H locs hW hS => ?_)
      refine lv_aload_n hx hb dX8_read_30 rfl (lv_at hl 0 rfl) ?_
      refine mm_gets (v := 2) hx hb hts hin hown hK hW 0 (by decide) (List.mem_of_getElem? (i := 2) rfl) rfl rfl (mq_same q 0 0 2) dX8_read_31 ?_
      refine lv_if_le (tgt := 41) hx hb dX8_read_34 (by decide) (fun h => absurd h (by decide)) (fun _ => ?_)
      refine lv_lconst (v := 0) hx hb dX8_read_37 (by decide) ?_
      refine lv_goto (tgt := 47) hx hb dX8_read_38 (by decide) ?_
      exact mm_lret hx hb hr hlk hK hW hS (by rw [m_X8_read, if_pos c_1, if_neg c_3]) dX8_read_47
  · refine lv_iconst (v := 1) hx hb dX8_read_9 (by decide) ?_
    refine lv_goto (tgt := 27) hx hb dX8_read_10 (by decide) ?_
    refine mm_put hx hb hts hin hown hK hW hS 0 (by decide) (List.mem_of_getElem? (i := 2) rfl) rfl rfl (by decide +kernel) rfl (ws_0 ad _ _) dX8_read_27 (fun H locs hW hS => ?_)
    refine lv_aload_n hx hb dX8_read_30 rfl (lv_at hl 0 rfl) ?_
    refine mm_gets (v := 1) hx hb hts hin hown hK hW 0 (by decide) (List.mem_of_getElem? (i := 2) rfl) rfl rfl (mq_same q 0 0 1) dX8_read_31 ?_
    refine lv_if_le (tgt := 41) hx hb dX8_read_34 (by decide) (fun h => absurd h (by decide)) (fun _ => ?_)
    refine lv_lconst (v := 0) hx hb dX8_read_37 (by decide) ?_
    refine lv_goto (tgt := 47) hx hb dX8_read_38 (by decide) ?_
    exact mm_lret hx hb hr hlk hK hW hS (by rw [m_X8_read, if_neg c_1]) dX8_read_47

def m_X8_find_lp (q : qM) (key : Int32) (first : Int32) (last : Int32) : Nat → Int32 → Int32 → Int32
  | 0, _, _ => 0
  | n + 1, lf, r => (if (q.1 12 0) ≤ r then (if (q.1 0 0) ≤ 0 then (-1) else 0) else (if (q.1 0 0) = 0 then (if (q.1 18 (Int32.toNatClampNeg r)) = 0 then (if (m_X8_hasKey q r key) = 0 then (m_X8_find_lp q key first last n lf (r + 1)) else (if (m_X8_isIn (q.1 14 (Int32.toNatClampNeg r)) first last) = 0 then (m_X8_find_lp q key first last n lf (r + 1)) else (if lf = 0 then r else (m_X8_find_lp q key first last n (lf + (-1)) (r + 1))))) else (m_X8_find_lp q key first last n lf (r + 1))) else (if (q.1 0 0) ≤ 0 then (-1) else 0)))
def m_X8_find (q : qM) (key : Int32) (first : Int32) (last : Int32) (kth : Int32) : Int32 × qM := (if (m_X8_isIn key 0 99) = 0 then (if (q.1 12 0) ≤ 0 then (0, (mq_i q 0 0 1)) else (0, (mq_i q 0 0 1))) else (if kth < 0 then (if (q.1 12 0) ≤ 0 then (0, (mq_i q 0 0 1)) else (0, (mq_i q 0 0 1))) else ((m_X8_find_lp (mq_i q 0 0 0) key first last 66 kth 0), (mq_i q 0 0 0))))
set_option maxHeartbeats 4000000 in
set_option maxRecDepth 100000 in
theorem c_X8_find (l : Launch) (D : va_G) (b0 : Nat) (Pc : Nat → Nat → Option va_E) (cA : Nat → ClassId) (ad : Nat → Nat → Nat) (q : qM) (key : Int32) (first : Int32) (last : Int32) (kth : Int32) (hI : gI q) : mc_i l yX8_find wsX8_find 1 22 D b0 Pc cA ad q [.ref (ad 20 0), .int key, .int first, .int last, .int kth] (m_X8_find q key first last kth) := by
  refine mc_of (by decide) rfl (Nat.le_of_ble_eq_true rfl) ?_
  intro p e s m below meth c hx hb hml hr hlk hown hts hK hW ls hl
  have hown : s.vm.findClass RX8 = some m.cls := hown
  have hS : va_S (wA b0) s.heap s.heap [] := va_S.rf
  have hl : lv_has ls 7 [(0, .ref (ad 20 0)), (1, .int key), (2, .int first), (3, .int last), (4, .int kth)] := hl
  have hin : ∀ w ∈ wsX80, w ∈ wsX8_find := fun w h => List.mem_cons_of_mem _ (List.mem_append_right _ h)
  refine lv_aload_n hx hb dX8_find_0 rfl (lv_at hl 0 rfl) ?_
  refine lv_iload_n hx hb dX8_find_1 rfl (lv_at hl 1 rfl) ?_
  refine lv_iconst (v := 0) hx hb dX8_find_2 (by decide) ?_
  refine lv_bipush (v := 99) hx hb dX8_find_3 (by decide) ?_
  refine mm_callSi (n := 3) (As := [.int key, .int 0, .int 99]) (rest := [.ref (ad 20 0)]) (r := (m_X8_isIn key 0 99)) (q2 := q) ⟨hx, hb, hml, hown, hts⟩ (c_X8_isIn l D b0 Pc cA ad q key 0 99) gX8_find_X8_isIn rfl (by decide +kernel) rfl ⟨Nat.le_of_ble_eq_true rfl, Nat.le_of_ble_eq_true rfl⟩ ⟨Nat.le_of_ble_eq_true rfl, Nat.le_of_ble_eq_true rfl⟩ hK hW hS hl.1 rfl (Nat.le_of_ble_eq_true rfl) dX8_find_5 (fun H locs hW hS => ?_)
  refine lv_if_eq (tgt := 20) hx hb dX8_find_8 (by decide) (fun c_1 => ?_) (fun c_1 => ?_)
  · refine lv_iconst (v := 1) hx hb dX8_find_20 (by decide) ?_
    refine mm_put hx hb hts hin hown hK hW hS 0 (by decide) (List.mem_of_getElem? (i := 1) rfl) rfl rfl (by decide +kernel) rfl (ws_0 ad _ _) dX8_find_21 (fun H locs hW hS => ?_)
    refine lv_iload hx hb dX8_find_24 (lv_at hl 4 rfl) ?_
    refine lv_istore (lv' := [(5, .int kth), (0, .ref (ad 20 0)), (1, .int key), (2, .int first), (3, .int last), (4, .int kth)]) hx hb dX8_find_26 hl (by decide) rfl (fun ls hl => ?_)
    refine lv_iconst (v := 0) hx hb dX8_find_28 (by decide) ?_
    refine lv_istore (lv' := [(6, .int 0), (5, .int kth), (0, .ref (ad 20 0)), (1, .int key), (2, .int first), (3, .int last), (4, .int kth)]) hx hb dX8_find_29 hl (by decide) rfl (fun ls hl => ?_)
    refine lv_iload hx hb dX8_find_31 (lv_at hl 0 rfl) ?_
    refine lv_aload_n hx hb dX8_find_33 rfl (lv_at hl 2 rfl) ?_
    refine mm_gets (v := (q.1 12 0)) hx hb hts hin hown hK hW 12 (by decide) (List.mem_of_getElem? (i := 2) rfl) rfl rfl (mq_ne (by decide)) dX8_find_34 ?_
    refine lv_icmp_ge (tgt := 99) hx hb dX8_find_37 (by decide) (fun c_2 => ?_) (fun c_2 => ?_)
    · refine lv_aload_n hx hb dX8_find_99 rfl (lv_at hl 2 rfl) ?_
      refine mm_gets (v := 1) hx hb hts hin hown hK hW 0 (by decide) (List.mem_of_getElem? (i := 1) rfl) rfl rfl (mq_same q 0 0 1) dX8_find_100 ?_
      refine lv_if_le (tgt := 110) hx hb dX8_find_103 (by decide) (fun h => absurd h (by decide)) (fun _ => ?_)
      refine lv_iconst (v := 0) hx hb dX8_find_106 (by decide) ?_
      refine lv_goto (tgt := 111) hx hb dX8_find_107 (by decide) ?_
      exact mm_iret hx hb hr hlk hK hW hS (by rw [m_X8_find, if_pos c_1, if_pos c_2]) dX8_find_111
    · refine lv_aload_n hx hb dX8_find_40 rfl (lv_at hl 2 rfl) ?_
      refine mm_gets (v := 1) hx hb hts hin hown hK hW 0 (by decide) (List.mem_of_getElem? (i := 1) rfl) rfl rfl (mq_same q 0 0 1) dX8_find_41 ?_
      refine lv_if_ne (tgt := 99) hx hb dX8_find_44 (by decide) (fun _ => ?_) (fun h => absurd h (by decide))
      refine lv_aload_n hx hb dX8_find_99 rfl (lv_at hl 2 rfl) ?_
      refine mm_gets (v := 1) hx hb hts hin hown hK hW 0 (by decide) (List.mem_of_getElem? (i := 1) rfl) rfl rfl (mq_same q 0 0 1) dX8_find_100 ?_
      refine lv_if_le (tgt := 110) hx hb dX8_find_103 (by decide) (fun h => absurd h (by decide)) (fun _ => ?_)
      refine lv_iconst (v := 0) hx hb dX8_find_106 (by decide) ?_
      refine lv_goto (tgt := 111) hx hb dX8_find_107 (by decide) ?_
      exact mm_iret hx hb hr hlk hK hW hS (by rw [m_X8_find, if_pos c_1, if_neg c_2]) dX8_find_111
  · refine lv_iload hx hb dX8_find_11 (lv_at hl 4 rfl) ?_
    refine lv_if_lt (tgt := 20) hx hb dX8_find_13 (by decide) (fun c_3 => ?_) (fun c_3 => ?_)
    · refine lv_iconst (v := 1) hx hb dX8_find_20 (by decide) ?_
      refine mm_put hx hb hts hin hown hK hW hS 0 (by decide) (List.mem_of_getElem? (i := 1) rfl) rfl rfl (by decide +kernel) rfl (ws_0 ad _ _) dX8_find_21 (fun H locs hW hS => ?_)
      refine lv_iload hx hb dX8_find_24 (lv_at hl 4 rfl) ?_
      refine lv_istore (lv' := [(5, .int kth), (0, .ref (ad 20 0)), (1, .int key), (2, .int first), (3, .int last), (4, .int kth)]) hx hb dX8_find_26 hl (by decide) rfl (fun ls hl => ?_)
      refine lv_iconst (v := 0) hx hb dX8_find_28 (by decide) ?_
      refine lv_istore (lv' := [(6, .int 0), (5, .int kth), (0, .ref (ad 20 0)), (1, .int key), (2, .int first), (3, .int last), (4, .int kth)]) hx hb dX8_find_29 hl (by decide) rfl (fun ls hl => ?_)
      refine lv_iload hx hb dX8_find_31 (lv_at hl 0 rfl) ?_
      refine lv_aload_n hx hb dX8_find_33 rfl (lv_at hl 2 rfl) ?_
      refine mm_gets (v := (q.1 12 0)) hx hb hts hin hown hK hW 12 (by decide) (List.mem_of_getElem? (i := 2) rfl) rfl rfl (mq_ne (by decide)) dX8_find_34 ?_
      refine lv_icmp_ge (tgt := 99) hx hb dX8_find_37 (by decide) (fun c_4 => ?_) (fun c_4 => ?_)
      · refine lv_aload_n hx hb dX8_find_99 rfl (lv_at hl 2 rfl) ?_
        refine mm_gets (v := 1) hx hb hts hin hown hK hW 0 (by decide) (List.mem_of_getElem? (i := 1) rfl) rfl rfl (mq_same q 0 0 1) dX8_find_100 ?_
        refine lv_if_le (tgt := 110) hx hb dX8_find_103 (by decide) (fun h => absurd h (by decide)) (fun _ => ?_)
        refine lv_iconst (v := 0) hx hb dX8_find_106 (by decide) ?_
        refine lv_goto (tgt := 111) hx hb dX8_find_107 (by decide) ?_
        exact mm_iret hx hb hr hlk hK hW hS (by rw [m_X8_find, if_neg c_1, if_pos c_3, if_pos c_4]) dX8_find_111
      · refine lv_aload_n hx hb dX8_find_40 rfl (lv_at hl 2 rfl) ?_
        refine mm_gets (v := 1) hx hb hts hin hown hK hW 0 (by decide) (List.mem_of_getElem? (i := 1) rfl) rfl rfl (mq_same q 0 0 1) dX8_find_41 ?_
        refine lv_if_ne (tgt := 99) hx hb dX8_find_44 (by decide) (fun _ => ?_) (fun h => absurd h (by decide))
        refine lv_aload_n hx hb dX8_find_99 rfl (lv_at hl 2 rfl) ?_
        refine mm_gets (v := 1) hx hb hts hin hown hK hW 0 (by decide) (List.mem_of_getElem? (i := 1) rfl) rfl rfl (mq_same q 0 0 1) dX8_find_100 ?_
        refine lv_if_le (tgt := 110) hx hb dX8_find_103 (by decide) (fun h => absurd h (by decide)) (fun _ => ?_)
        refine lv_iconst (v := 0) hx hb dX8_find_106 (by decide) ?_
        refine lv_goto (tgt := 111) hx hb dX8_find_107 (by decide) ?_
        exact mm_iret hx hb hr hlk hK hW hS (by rw [m_X8_find, if_neg c_1, if_pos c_3, if_neg c_4]) dX8_find_111
    · refine lv_iconst (v := 0) hx hb dX8_find_16 (by decide) ?_
      refine lv_goto (tgt := 21) hx hb dX8_find_17 (by decide) ?_
      refine mm_put hx hb hts hin hown hK hW hS 0 (by decide) (List.mem_of_getElem? (i := 1) rfl) rfl rfl (by decide +kernel) rfl (ws_0 ad _ _) dX8_find_21 (fun H locs hW hS => ?_)
      refine lv_iload hx hb dX8_find_24 (lv_at hl 4 rfl) ?_
      refine lv_istore (lv' := [(5, .int kth), (0, .ref (ad 20 0)), (1, .int key), (2, .int first), (3, .int last), (4, .int kth)]) hx hb dX8_find_26 hl (by decide) rfl (fun ls hl => ?_)
      refine lv_iconst (v := 0) hx hb dX8_find_28 (by decide) ?_
      refine lv_istore (lv' := [(6, .int 0), (5, .int kth), (0, .ref (ad 20 0)), (1, .int key), (2, .int first), (3, .int last), (4, .int kth)]) hx hb dX8_find_29 hl (by decide) rfl (fun ls hl => ?_)
      obtain ⟨qz_5, eqz_5⟩ : ∃ z : qM, z = (mq_i q 0 0 0) := ⟨_, rfl⟩
      rw [← eqz_5] at hW
      have hI : gI qz_5 := by rw [eqz_5]; exact (gI_i (by decide) hI)
      have lp_25 : ∀ (n : Nat) (lf : Int32) (r : Int32), (0 ≤ r.toInt ∧ r.toInt ≤ 64) → 64 - r.toInt < (n : Int) → ∀ (H : Heap) (locs : List Loc), wd D (wA b0) (PW Pc cA ad qz_5) ad H → va_S (wA b0) s.heap H locs → ∀ ls : Array Slot, lv_has ls 7 [(5, .int lf), (6, .int r), (0, .ref (ad 20 0)), (1, .int key), (2, .int first), (3, .int last), (4, .int kth)] → W p l e { frames := 1, cells := 0, slots := 0, locals := 22 } s m [.ref (ad 20 0), .int key, .int first, .int last, .int kth].toArray below meth c H locs 0 0 (MQ below (va_Qi (fun zz (_ : Unit) => zz = (((m_X8_find_lp qz_5 key first last n lf r), qz_5) : Int32 × qM).1) (fun _ U => WP D b0 Pc cA ad (((m_X8_find_lp qz_5 key first last n lf r), qz_5) : Int32 × qM).2 U) (wA b0)) [.ref (ad 20 0), .int key, .int first, .int last, .int kth].toArray s 0 0 (wA b0)) (F0 m 31 ls []) := by
        intro n
        induction n with
        | zero =>
          intro lf r i1 hm
          have hz : 0 ≤ 64 - r.toInt := by
            have w_1 := hI.2.2.2.1
            have w_2 := i1
            omega
          exact absurd hm (by omega)
        | succ n ih =>
          intro lf r i1 hm H locs hW hS ls hl
          rw [m_X8_find_lp]
          refine lv_iload hx hb dX8_find_31 (lv_at hl 1 rfl) ?_
          refine lv_aload_n hx hb dX8_find_33 rfl (lv_at hl 2 rfl) ?_
          refine mm_gets (v := (qz_5.1 12 0)) hx hb hts hin hown hK hW 12 (by decide) (List.mem_of_getElem? (i := 2) rfl) rfl rfl (rfl) dX8_find_34 ?_
          refine lv_icmp_ge (tgt := 99) hx hb dX8_find_37 (by decide) (fun c_6 => ?_) (fun c_6 => ?_)
          · rw [if_pos c_6]
            refine lv_aload_n hx hb dX8_find_99 rfl (lv_at hl 2 rfl) ?_
            refine mm_gets (v := (qz_5.1 0 0)) hx hb hts hin hown hK hW 0 (by decide) (List.mem_of_getElem? (i := 1) rfl) rfl rfl (rfl) dX8_find_100 ?_
            refine lv_if_le (tgt := 110) hx hb dX8_find_103 (by decide) (fun c_7 => ?_) (fun c_7 => ?_)
            · rw [if_pos c_7]
              refine lv_iconst (v := (-1)) hx hb dX8_find_110 (by decide) ?_
              exact mm_iret hx hb hr hlk hK hW hS rfl dX8_find_111
            · rw [if_neg c_7]
              refine lv_iconst (v := 0) hx hb dX8_find_106 (by decide) ?_
              refine lv_goto (tgt := 111) hx hb dX8_find_107 (by decide) ?_
              exact mm_iret hx hb hr hlk hK hW hS rfl dX8_find_111
          · rw [if_neg c_6]
            refine lv_aload_n hx hb dX8_find_40 rfl (lv_at hl 2 rfl) ?_
            refine mm_gets (v := (qz_5.1 0 0)) hx hb hts hin hown hK hW 0 (by decide) (List.mem_of_getElem? (i := 1) rfl) rfl rfl (rfl) dX8_find_41 ?_
            refine lv_if_ne (tgt := 99) hx hb dX8_find_44 (by decide) (fun c_8 => ?_) (fun c_8 => ?_)
            · rw [if_neg c_8]
              refine lv_aload_n hx hb dX8_find_99 rfl (lv_at hl 2 rfl) ?_
              refine mm_gets (v := (qz_5.1 0 0)) hx hb hts hin hown hK hW 0 (by decide) (List.mem_of_getElem? (i := 1) rfl) rfl rfl (rfl) dX8_find_100 ?_
              refine lv_if_le (tgt := 110) hx hb dX8_find_103 (by decide) (fun c_9 => ?_) (fun c_9 => ?_)
              · rw [if_pos c_9]
                refine lv_iconst (v := (-1)) hx hb dX8_find_110 (by decide) ?_
                exact mm_iret hx hb hr hlk hK hW hS rfl dX8_find_111
              · rw [if_neg c_9]
                refine lv_iconst (v := 0) hx hb dX8_find_106 (by decide) ?_
                refine lv_goto (tgt := 111) hx hb dX8_find_107 (by decide) ?_
                exact mm_iret hx hb hr hlk hK hW hS rfl dX8_find_111
            · rw [if_pos c_8]
              refine lv_aload_n hx hb dX8_find_47 rfl (lv_at hl 2 rfl) ?_
              refine mm_get (v := .ref (ad 21 18)) hx hb hts hin hown hK hW 18 (by decide) (List.mem_of_getElem? (i := 3) rfl) rfl rfl dX8_find_48 ?_
              refine lv_iload hx hb dX8_find_51 (lv_at hl 1 rfl) ?_
              have b_10 : vp_in r 64 := by
                have u_1 := rg_e r
                have u_2 := rg_e (m_X8_isIn key 0 99)
                have k_3 : (0 : Int32).toInt = 0 := rfl
                have v_4 := cv_ne c_1
                have u_5 := rg_e key
                have k_6 : (99 : Int32).toInt = 99 := rfl
                have v_7 := is_t c_1
                have u_8 := rg_e kth
                have v_9 := cv_nlt c_3
                have u_10 := rg_e (qz_5.1 12 0)
                have v_11 := cv_nle c_6
                have u_12 := rg_e (qz_5.1 0 0)
                have v_13 := cv_eq c_8
                have w_14 := hI.2.2.2.1
                have w_15 := i1
                exact vp_in_iff.mpr (by omega)
              refine mm_zald (v := (qz_5.1 18 (Int32.toNatClampNeg r))) hx hb hK hW 18 64 rfl b_10 ((rfl)) dX8_find_53 ?_
              refine lv_if_ne (tgt := 93) hx hb dX8_find_54 (by decide) (fun c_11 => ?_) (fun c_11 => ?_)
              · rw [if_neg c_11]
                refine lv_iinc (v := (r + 1)) (lv' := [(6, .int (r + 1)), (5, .int lf), (0, .ref (ad 20 0)), (1, .int key), (2, .int first), (3, .int last), (4, .int kth)]) hx hb dX8_find_93 hl (k := 1) rfl (by first | rfl | decide) (by decide) rfl (fun ls hl => ?_)
                refine lv_goto (tgt := 31) hx hb dX8_find_96 (by decide) ?_
                have h_12 : 0 ≤ (r + 1).toInt ∧ (r + 1).toInt ≤ 64 := by
                  have u_1 := rg_e lf
                  have u_2 := rg_e r
                  have k_3 : (1 : Int32).toInt = 1 := rfl
                  have u_5 := rg_e (m_X8_isIn key 0 99)
                  have k_6 : (0 : Int32).toInt = 0 := rfl
                  have v_7 := cv_ne c_1
                  have u_8 := rg_e key
                  have k_9 : (99 : Int32).toInt = 99 := rfl
                  have v_10 := is_t c_1
                  have u_11 := rg_e kth
                  have v_12 := cv_nlt c_3
                  have u_13 := rg_e (qz_5.1 12 0)
                  have v_14 := cv_nle c_6
                  have u_15 := rg_e (qz_5.1 0 0)
                  have v_16 := cv_eq c_8
                  have u_17 := rg_e (qz_5.1 18 (Int32.toNatClampNeg r))
                  have v_18 := cv_ne c_11
                  have w_19 := hI.2.2.2.1
                  have w_20 := i1
                  have u_4 := ad_o r 1
                  omega
                have h_13 : 64 - (r + 1).toInt < (n : Int) := by
                  have u_1 := rg_e lf
                  have u_2 := rg_e r
                  have k_3 : (1 : Int32).toInt = 1 := rfl
                  have u_5 := rg_e (m_X8_isIn key 0 99)
                  have k_6 : (0 : Int32).toInt = 0 := rfl
                  have v_7 := cv_ne c_1
                  have u_8 := rg_e key
                  have k_9 : (99 : Int32).toInt = 99 := rfl
                  have v_10 := is_t c_1
                  have u_11 := rg_e kth
                  have v_12 := cv_nlt c_3
                  have u_13 := rg_e (qz_5.1 12 0)
                  have v_14 := cv_nle c_6
                  have u_15 := rg_e (qz_5.1 0 0)
                  have v_16 := cv_eq c_8
                  have u_17 := rg_e (qz_5.1 18 (Int32.toNatClampNeg r))
                  have v_18 := cv_ne c_11
                  have w_19 := hI.2.2.2.1
                  have w_20 := i1
                  have w_21 := hm
                  have u_4 := ad_o r 1
                  omega
                exact ih lf (r + 1) h_12 h_13 _ _ hW hS ls (lv_sub hl [1, 0, 2, 3, 4, 5, 6] rfl)
              · rw [if_pos c_11]
                refine lv_aload_n hx hb dX8_find_57 rfl (lv_at hl 2 rfl) ?_
                refine lv_iload hx hb dX8_find_58 (lv_at hl 1 rfl) ?_
                refine lv_iload_n hx hb dX8_find_60 rfl (lv_at hl 3 rfl) ?_
                have h_14 : 0 ≤ (r : Int32).toInt ∧ (r : Int32).toInt ≤ 63 := by
                  have u_1 := rg_e r
                  have u_2 := rg_e key
                  have u_3 := rg_e (m_X8_isIn key 0 99)
                  have k_4 : (0 : Int32).toInt = 0 := rfl
                  have v_5 := cv_ne c_1
                  have k_6 : (99 : Int32).toInt = 99 := rfl
                  have v_7 := is_t c_1
                  have u_8 := rg_e kth
                  have v_9 := cv_nlt c_3
                  have u_10 := rg_e (qz_5.1 12 0)
                  have v_11 := cv_nle c_6
                  have u_12 := rg_e (qz_5.1 0 0)
                  have v_13 := cv_eq c_8
                  have u_14 := rg_e (qz_5.1 18 (Int32.toNatClampNeg r))
                  have v_15 := cv_eq c_11
                  have w_16 := hI.2.2.2.1
                  have w_17 := i1
                  exact by omega
                refine mm_callVi (n := 2) (As := [.int r, .int key]) (rest := []) (r := (m_X8_hasKey qz_5 r key)) (q2 := qz_5) ⟨hx, hb, hml, hown, hts⟩ (c_X8_hasKey l D b0 Pc cA ad qz_5 r key h_14) gX8_find_X8_hasKey rfl (by decide +kernel) rfl ⟨Nat.le_of_ble_eq_true rfl, Nat.le_of_ble_eq_true rfl⟩ ⟨Nat.le_of_ble_eq_true rfl, Nat.le_of_ble_eq_true rfl⟩ hK hW hS hl.1 rfl (Nat.le_of_ble_eq_true rfl) dX8_find_61 (fun H locs hW hS => ?_)
                refine lv_if_eq (tgt := 93) hx hb dX8_find_64 (by decide) (fun c_15 => ?_) (fun c_15 => ?_)
                · rw [if_pos c_15]
                  refine lv_iinc (v := (r + 1)) (lv' := [(6, .int (r + 1)), (5, .int lf), (0, .ref (ad 20 0)), (1, .int key), (2, .int first), (3, .int last), (4, .int kth)]) hx hb dX8_find_93 hl (k := 1) rfl (by first | rfl | decide) (by decide) rfl (fun ls hl => ?_)
                  refine lv_goto (tgt := 31) hx hb dX8_find_96 (by decide) ?_
                  have h_16 : 0 ≤ (r + 1).toInt ∧ (r + 1).toInt ≤ 64 := by
                    have u_1 := rg_e lf
                    have u_2 := rg_e r
                    have k_3 : (1 : Int32).toInt = 1 := rfl
                    have u_5 := rg_e (m_X8_isIn key 0 99)
                    have k_6 : (0 : Int32).toInt = 0 := rfl
                    have v_7 := cv_ne c_1
                    have u_8 := rg_e key
                    have k_9 : (99 : Int32).toInt = 99 := rfl
                    have v_10 := is_t c_1
                    have u_11 := rg_e kth
                    have v_12 := cv_nlt c_3
                    have u_13 := rg_e (qz_5.1 12 0)
                    have v_14 := cv_nle c_6
                    have u_15 := rg_e (qz_5.1 0 0)
                    have v_16 := cv_eq c_8
                    have u_17 := rg_e (qz_5.1 18 (Int32.toNatClampNeg r))
                    have v_18 := cv_eq c_11
                    have u_19 := rg_e (m_X8_hasKey qz_5 r key)
                    have v_20 := cv_eq c_15
                    have w_21 := hI.2.2.2.1
                    have w_22 := i1
                    have u_4 := ad_o r 1
                    omega
                  have h_17 : 64 - (r + 1).toInt < (n : Int) := by
                    have u_1 := rg_e lf
                    have u_2 := rg_e r
                    have k_3 : (1 : Int32).toInt = 1 := rfl
                    have u_5 := rg_e (m_X8_isIn key 0 99)
                    have k_6 : (0 : Int32).toInt = 0 := rfl
                    have v_7 := cv_ne c_1
                    have u_8 := rg_e key
                    have k_9 : (99 : Int32).toInt = 99 := rfl
                    have v_10 := is_t c_1
                    have u_11 := rg_e kth
                    have v_12 := cv_nlt c_3
                    have u_13 := rg_e (qz_5.1 12 0)
                    have v_14 := cv_nle c_6
                    have u_15 := rg_e (qz_5.1 0 0)
                    have v_16 := cv_eq c_8
                    have u_17 := rg_e (qz_5.1 18 (Int32.toNatClampNeg r))
                    have v_18 := cv_eq c_11
                    have u_19 := rg_e (m_X8_hasKey qz_5 r key)
                    have v_20 := cv_eq c_15
                    have w_21 := hI.2.2.2.1
                    have w_22 := i1
                    have w_23 := hm
                    have u_4 := ad_o r 1
                    omega
                  exact ih lf (r + 1) h_16 h_17 _ _ hW hS ls (lv_sub hl [1, 0, 2, 3, 4, 5, 6] rfl)
                · rw [if_neg c_15]
                  refine lv_aload_n hx hb dX8_find_67 rfl (lv_at hl 2 rfl) ?_
                  refine mm_get (v := .ref (ad 21 14)) hx hb hts hin hown hK hW 14 (by decide) (List.mem_of_getElem? (i := 4) rfl) rfl rfl dX8_find_68 ?_
                  refine lv_iload hx hb dX8_find_71 (lv_at hl 1 rfl) ?_
                  have b_18 : vp_in r 64 := by
                    have u_1 := rg_e r
                    have u_2 := rg_e (m_X8_isIn key 0 99)
                    have k_3 : (0 : Int32).toInt = 0 := rfl
                    have v_4 := cv_ne c_1
                    have u_5 := rg_e key
                    have k_6 : (99 : Int32).toInt = 99 := rfl
                    have v_7 := is_t c_1
                    have u_8 := rg_e kth
                    have v_9 := cv_nlt c_3
                    have u_10 := rg_e (qz_5.1 12 0)
                    have v_11 := cv_nle c_6
                    have u_12 := rg_e (qz_5.1 0 0)
                    have v_13 := cv_eq c_8
                    have u_14 := rg_e (qz_5.1 18 (Int32.toNatClampNeg r))
                    have v_15 := cv_eq c_11
                    have u_16 := rg_e (m_X8_hasKey qz_5 r key)
                    have v_17 := cv_ne c_15
                    have w_18 := hI.2.2.2.1
                    have w_19 := i1
                    exact vp_in_iff.mpr (by omega)
                  refine mm_iald (v := (qz_5.1 14 (Int32.toNatClampNeg r))) hx hb hK hW 14 64 rfl b_18 ((rfl)) dX8_find_73 ?_
                  refine lv_iload_n hx hb dX8_find_74 rfl (lv_at hl 4 rfl) ?_
                  refine lv_iload_n hx hb dX8_find_75 rfl (lv_at hl 5 rfl) ?_
                  refine mm_callSi (n := 3) (As := [.int (qz_5.1 14 (Int32.toNatClampNeg r)), .int first, .int last]) (rest := []) (r := (m_X8_isIn (qz_5.1 14 (Int32.toNatClampNeg r)) first last)) (q2 := qz_5) ⟨hx, hb, hml, hown, hts⟩ (c_X8_isIn l D b0 Pc cA ad qz_5 (qz_5.1 14 (Int32.toNatClampNeg r)) first last) gX8_find_X8_isIn rfl (by decide +kernel) rfl ⟨Nat.le_of_ble_eq_true rfl, Nat.le_of_ble_eq_true rfl⟩ ⟨Nat.le_of_ble_eq_true rfl, Nat.le_of_ble_eq_true rfl⟩ hK hW hS hl.1 rfl (Nat.le_of_ble_eq_true rfl) dX8_find_76 (fun H locs hW hS => ?_)
                  refine lv_if_eq (tgt := 93) hx hb dX8_find_79 (by decide) (fun c_19 => ?_) (fun c_19 => ?_)
                  · rw [if_pos c_19]
                    refine lv_iinc (v := (r + 1)) (lv' := [(6, .int (r + 1)), (5, .int lf), (0, .ref (ad 20 0)), (1, .int key), (2, .int first), (3, .int last), (4, .int kth)]) hx hb dX8_find_93 hl (k := 1) rfl (by first | rfl | decide) (by decide) rfl (fun ls hl => ?_)
                    refine lv_goto (tgt := 31) hx hb dX8_find_96 (by decide) ?_
                    have h_20 : 0 ≤ (r + 1).toInt ∧ (r + 1).toInt ≤ 64 := by
                      have u_1 := rg_e lf
                      have u_2 := rg_e r
                      have k_3 : (1 : Int32).toInt = 1 := rfl
                      have u_5 := rg_e (m_X8_isIn key 0 99)
                      have k_6 : (0 : Int32).toInt = 0 := rfl
                      have v_7 := cv_ne c_1
                      have u_8 := rg_e key
                      have k_9 : (99 : Int32).toInt = 99 := rfl
                      have v_10 := is_t c_1
                      have u_11 := rg_e kth
                      have v_12 := cv_nlt c_3
                      have u_13 := rg_e (qz_5.1 12 0)
                      have v_14 := cv_nle c_6
                      have u_15 := rg_e (qz_5.1 0 0)
                      have v_16 := cv_eq c_8
                      have u_17 := rg_e (qz_5.1 18 (Int32.toNatClampNeg r))
                      have v_18 := cv_eq c_11
                      have u_19 := rg_e (m_X8_hasKey qz_5 r key)
                      have v_20 := cv_ne c_15
                      have u_21 := rg_e (m_X8_isIn (qz_5.1 14 (Int32.toNatClampNeg r)) first last)
                      have v_22 := cv_eq c_19
                      have w_23 := hI.2.2.2.1
                      have w_24 := i1
                      have u_4 := ad_o r 1
                      omega
                    have h_21 : 64 - (r + 1).toInt < (n : Int) := by
                      have u_1 := rg_e lf
                      have u_2 := rg_e r
                      have k_3 : (1 : Int32).toInt = 1 := rfl
                      have u_5 := rg_e (m_X8_isIn key 0 99)
                      have k_6 : (0 : Int32).toInt = 0 := rfl
                      have v_7 := cv_ne c_1
                      have u_8 := rg_e key
                      have k_9 : (99 : Int32).toInt = 99 := rfl
                      have v_10 := is_t c_1
                      have u_11 := rg_e kth
                      have v_12 := cv_nlt c_3
                      have u_13 := rg_e (qz_5.1 12 0)
                      have v_14 := cv_nle c_6
                      have u_15 := rg_e (qz_5.1 0 0)
                      have v_16 := cv_eq c_8
                      have u_17 := rg_e (qz_5.1 18 (Int32.toNatClampNeg r))
                      have v_18 := cv_eq c_11
                      have u_19 := rg_e (m_X8_hasKey qz_5 r key)
                      have v_20 := cv_ne c_15
                      have u_21 := rg_e (m_X8_isIn (qz_5.1 14 (Int32.toNatClampNeg r)) first last)
                      have v_22 := cv_eq c_19
                      have w_23 := hI.2.2.2.1
                      have w_24 := i1
                      have w_25 := hm
                      have u_4 := ad_o r 1
                      omega
                    exact ih lf (r + 1) h_20 h_21 _ _ hW hS ls (lv_sub hl [1, 0, 2, 3, 4, 5, 6] rfl)
                  · rw [if_neg c_19]
                    refine lv_iload hx hb dX8_find_82 (lv_at hl 0 rfl) ?_
                    refine lv_if_ne (tgt := 90) hx hb dX8_find_84 (by decide) (fun c_22 => ?_) (fun c_22 => ?_)
                    · rw [if_neg c_22]
                      refine lv_iinc (v := (lf + (-1))) (lv' := [(5, .int (lf + (-1))), (6, .int r), (0, .ref (ad 20 0)), (1, .int key), (2, .int first), (3, .int last), (4, .int kth)]) hx hb dX8_find_90 hl (k := 0) rfl (by first | rfl | decide) (by decide) rfl (fun ls hl => ?_)
                      refine lv_iinc (v := (r + 1)) (lv' := [(6, .int (r + 1)), (5, .int (lf + (-1))), (0, .ref (ad 20 0)), (1, .int key), (2, .int first), (3, .int last), (4, .int kth)]) hx hb dX8_find_93 hl (k := 1) rfl (by first | rfl | decide) (by decide) rfl (fun ls hl => ?_)
                      refine lv_goto (tgt := 31) hx hb dX8_find_96 (by decide) ?_
                      have h_23 : 0 ≤ (r + 1).toInt ∧ (r + 1).toInt ≤ 64 := by
                        have u_1 := rg_e lf
                        have k_2 : ((-1) : Int32).toInt = -1 := rfl
                        have u_4 := rg_e r
                        have k_5 : (1 : Int32).toInt = 1 := rfl
                        have u_7 := rg_e (m_X8_isIn key 0 99)
                        have k_8 : (0 : Int32).toInt = 0 := rfl
                        have v_9 := cv_ne c_1
                        have u_10 := rg_e key
                        have k_11 : (99 : Int32).toInt = 99 := rfl
                        have v_12 := is_t c_1
                        have u_13 := rg_e kth
                        have v_14 := cv_nlt c_3
                        have u_15 := rg_e (qz_5.1 12 0)
                        have v_16 := cv_nle c_6
                        have u_17 := rg_e (qz_5.1 0 0)
                        have v_18 := cv_eq c_8
                        have u_19 := rg_e (qz_5.1 18 (Int32.toNatClampNeg r))
                        have v_20 := cv_eq c_11
                        have u_21 := rg_e (m_X8_hasKey qz_5 r key)
                        have v_22 := cv_ne c_15
                        have u_23 := rg_e (m_X8_isIn (qz_5.1 14 (Int32.toNatClampNeg r)) first last)
                        have v_24 := cv_ne c_19
                        have u_25 := rg_e (qz_5.1 14 (Int32.toNatClampNeg r))
                        have u_26 := rg_e first
                        have u_27 := rg_e last
                        have v_28 := is_t c_19
                        have v_29 := cv_ne c_22
                        have w_30 := hI.2.2.2.1
                        have w_31 := i1
                        have u_3 := ad_o lf (-1)
                        have u_6 := ad_o r 1
                        omega
                      have h_24 : 64 - (r + 1).toInt < (n : Int) := by
                        have u_1 := rg_e lf
                        have k_2 : ((-1) : Int32).toInt = -1 := rfl
                        have u_4 := rg_e r
                        have k_5 : (1 : Int32).toInt = 1 := rfl
                        have u_7 := rg_e (m_X8_isIn key 0 99)
                        have k_8 : (0 : Int32).toInt = 0 := rfl
                        have v_9 := cv_ne c_1
                        have u_10 := rg_e key
                        have k_11 : (99 : Int32).toInt = 99 := rfl
                        have v_12 := is_t c_1
                        have u_13 := rg_e kth
                        have v_14 := cv_nlt c_3
                        have u_15 := rg_e (qz_5.1 12 0)
                        have v_16 := cv_nle c_6
                        have u_17 := rg_e (qz_5.1 0 0)
                        have v_18 := cv_eq c_8
                        have u_19 := rg_e (qz_5.1 18 (Int32.toNatClampNeg r))
                        have v_20 := cv_eq c_11
                        have u_21 := rg_e (m_X8_hasKey qz_5 r key)
                        have v_22 := cv_ne c_15
                        have u_23 := rg_e (m_X8_isIn (qz_5.1 14 (Int32.toNatClampNeg r)) first last)
                        have v_24 := cv_ne c_19
                        have u_25 := rg_e (qz_5.1 14 (Int32.toNatClampNeg r))
                        have u_26 := rg_e first
                        have u_27 := rg_e last
                        have v_28 := is_t c_19
                        have v_29 := cv_ne c_22
                        have w_30 := hI.2.2.2.1
                        have w_31 := i1
                        have w_32 := hm
                        have u_3 := ad_o lf (-1)
                        have u_6 := ad_o r 1
                        omega
                      exact ih (lf + (-1)) (r + 1) h_23 h_24 _ _ hW hS ls (lv_sub hl [1, 0, 2, 3, 4, 5, 6] rfl)
                    · rw [if_pos c_22]
                      refine lv_iload hx hb dX8_find_87 (lv_at hl 1 rfl) ?_
                      exact mm_iret hx hb hr hlk hK hW hS rfl dX8_find_89
      have h_26 : 0 ≤ (0 : Int32).toInt ∧ (0 : Int32).toInt ≤ 64 := by
        have u_1 := rg_e kth
        have k_2 : (0 : Int32).toInt = 0 := rfl
        have u_3 := rg_e (m_X8_isIn key 0 99)
        have v_4 := cv_ne c_1
        have u_5 := rg_e key
        have k_6 : (99 : Int32).toInt = 99 := rfl
        have v_7 := is_t c_1
        have v_8 := cv_nlt c_3
        have w_9 := hI.2.2.2.1
        omega
      have h_27 : 64 - (0 : Int32).toInt < ((66 : Nat) : Int) := by
        have u_1 := rg_e kth
        have k_2 : (0 : Int32).toInt = 0 := rfl
        have u_3 := rg_e (m_X8_isIn key 0 99)
        have v_4 := cv_ne c_1
        have u_5 := rg_e key
        have k_6 : (99 : Int32).toInt = 99 := rfl
        have v_7 := is_t c_1
        have v_8 := cv_nlt c_3
        have w_9 := hI.2.2.2.1
        omega
      rw [show m_X8_find q key first last kth = ((m_X8_find_lp qz_5 key first last 66 kth 0), qz_5) from by rw [m_X8_find, if_neg c_1, if_neg c_3, ← eqz_5]]
      exact lp_25 66 kth 0 h_26 h_27 _ _ hW hS ls (lv_sub hl [1, 0, 2, 3, 4, 5, 6] rfl)

def m_X8_hold (q : qM) (h : Int32) (f : Int32) (cl : Int32) (key : Int32) (first : Int32) (last : Int32) : qM := (if (m_X8_isIn h 0 7) = 0 then (if (m_X8_isIn key (-1) 99) = 0 then (mq_i q 0 0 1) else (if (m_X8_isIn first 0 120000) = 0 then (mq_i q 0 0 1) else (if (m_X8_isIn last 0 120000) = 0 then (mq_i q 0 0 1) else (if last < first then (mq_i q 0 0 1) else (mq_i q 0 0 1))))) else (if (m_X8_isIn f (-1) 15) = 0 then (if (m_X8_isIn key (-1) 99) = 0 then (mq_i q 0 0 1) else (if (m_X8_isIn first 0 120000) = 0 then (mq_i q 0 0 1) else (if (m_X8_isIn last 0 120000) = 0 then (mq_i q 0 0 1) else (if last < first then (mq_i q 0 0 1) else (mq_i q 0 0 1))))) else (if (m_X8_isIn cl (-1) 7) = 0 then (if (m_X8_isIn key (-1) 99) = 0 then (mq_i q 0 0 1) else (if (m_X8_isIn first 0 120000) = 0 then (mq_i q 0 0 1) else (if (m_X8_isIn last 0 120000) = 0 then (mq_i q 0 0 1) else (if last < first then (mq_i q 0 0 1) else (mq_i q 0 0 1))))) else (if (m_X8_isIn key (-1) 99) = 0 then (mq_i q 0 0 2) else (if (m_X8_isIn first 0 120000) = 0 then (mq_i q 0 0 2) else (if (m_X8_isIn last 0 120000) = 0 then (mq_i q 0 0 2) else (if last < first then (mq_i q 0 0 2) else (if (q.1 19 (Int32.toNatClampNeg h)) = 0 then (if (m_X8_hasRoom q 1) = 0 then (mq_i q 0 0 3) else (m_X8_write (mq_i (mq_i (mq_i (mq_i (mq_i (mq_i (mq_i q 0 0 0) 19 (Int32.toNatClampNeg h) 1) 20 (Int32.toNatClampNeg h) f) 21 (Int32.toNatClampNeg h) cl) 22 (Int32.toNatClampNeg h) key) 23 (Int32.toNatClampNeg h) first) 24 (Int32.toNatClampNeg h) last) 6 h (f + 1) (cl + 1))) else (mq_i q 0 0 3)))))))))
set_option maxHeartbeats 4000000 in
set_option maxRecDepth 100000 in
theorem c_X8_hold (l : Launch) (D : va_G) (b0 : Nat) (Pc : Nat → Nat → Option va_E) (cA : Nat → ClassId) (ad : Nat → Nat → Nat) (q : qM) (h : Int32) (f : Int32) (cl : Int32) (key : Int32) (first : Int32) (last : Int32) (hI : gI q) (hL : lI q) : mc_v l yX8_hold wsX8_hold 3 74 D b0 Pc cA ad q [.ref (ad 20 0), .int h, .int f, .int cl, .int key, .int first, .int last] (m_X8_hold q h f cl key first last) := by
  refine mc_of (by decide) rfl (Nat.le_of_ble_eq_true rfl) ?_
  intro p e s m below meth c hx hb hml hr hlk hown hts hK hW ls hl
  have hown : s.vm.findClass RX8 = some m.cls := hown
  have hS : va_S (wA b0) s.heap s.heap [] := va_S.rf
  have hl : lv_has ls 9 [(0, .ref (ad 20 0)), (1, .int h), (2, .int f), (3, .int cl), (4, .int key), (5, .int first), (6, .int last)] := hl
  have hin : ∀ w ∈ wsX80, w ∈ wsX8_hold := fun w h => List.mem_cons_of_mem _ (List.mem_append_right _ h)
  refine lv_iload_n hx hb dX8_hold_0 rfl (lv_at hl 1 rfl) ?_
  refine lv_iconst (v := 0) hx hb dX8_hold_1 (by decide) ?_
  refine lv_bipush (v := 7) hx hb dX8_hold_2 (by decide) ?_
  refine mm_callSi (n := 3) (As := [.int h, .int 0, .int 7]) (rest := []) (r := (m_X8_isIn h 0 7)) (q2 := q) ⟨hx, hb, hml, hown, hts⟩ (c_X8_isIn l D b0 Pc cA ad q h 0 7) gX8_hold_X8_isIn rfl (by decide +kernel) rfl ⟨Nat.le_of_ble_eq_true rfl, Nat.le_of_ble_eq_true rfl⟩ ⟨Nat.le_of_ble_eq_true rfl, Nat.le_of_ble_eq_true rfl⟩ hK hW hS hl.1 rfl (Nat.le_of_ble_eq_true rfl) dX8_hold_4 (fun H locs hW hS => ?_)
  refine lv_if_eq (tgt := 34) hx hb dX8_hold_7 (by decide) (fun c_1 => ?_) (fun c_1 => ?_)
  · refine lv_iconst (v := 0) hx hb dX8_hold_34 (by decide) ?_
    refine lv_istore (lv' := [(7, .int 0), (0, .ref (ad 20 0)), (1, .int h), (2, .int f), (3, .int cl), (4, .int key), (5, .int first), (6, .int last)]) hx hb dX8_hold_35 hl (by decide) rfl (fun ls hl => ?_)
    refine lv_iload hx hb dX8_hold_37 (lv_at hl 5 rfl) ?_
    refine lv_iconst (v := (-1)) hx hb dX8_hold_39 (by decide) ?_
    refine lv_bipush (v := 99) hx hb dX8_hold_40 (by decide) ?_
    refine mm_callSi (n := 3) (As := [.int key, .int (-1), .int 99]) (rest := []) (r := (m_X8_isIn key (-1) 99)) (q2 := q) ⟨hx, hb, hml, hown, hts⟩ (c_X8_isIn l D b0 Pc cA ad q key (-1) 99) gX8_hold_X8_isIn rfl (by decide +kernel) rfl ⟨Nat.le_of_ble_eq_true rfl, Nat.le_of_ble_eq_true rfl⟩ ⟨Nat.le_of_ble_eq_true rfl, Nat.le_of_ble_eq_true rfl⟩ hK hW hS hl.1 rfl (Nat.le_of_ble_eq_true rfl) dX8_hold_42 (fun H locs hW hS => ?_)
    refine lv_if_eq (tgt := 81) hx hb dX8_hold_45 (by decide) (fun c_2 => ?_) (fun c_2 => ?_)
    · refine lv_iconst (v := 0) hx hb dX8_hold_81 (by decide) ?_
      refine lv_istore (lv' := [(8, .int 0), (7, .int 0), (0, .ref (ad 20 0)), (1, .int h), (2, .int f), (3, .int cl), (4, .int key), (5, .int first), (6, .int last)]) hx hb dX8_hold_82 hl (by decide) rfl (fun ls hl => ?_)
      refine lv_aload_n hx hb dX8_hold_84 rfl (lv_at hl 2 rfl) ?_
      refine lv_iload hx hb dX8_hold_85 (lv_at hl 1 rfl) ?_
      refine lv_if_ne (tgt := 94) hx hb dX8_hold_87 (by decide) (fun h => absurd h (by decide)) (fun _ => ?_)
      refine lv_iconst (v := 1) hx hb dX8_hold_90 (by decide) ?_
      refine lv_goto (tgt := 125) hx hb dX8_hold_91 (by decide) ?_
      refine mm_put hx hb hts hin hown hK hW hS 0 (by decide) (List.mem_of_getElem? (i := 3) rfl) rfl rfl (by decide +kernel) rfl (ws_0 ad _ _) dX8_hold_125 (fun H locs hW hS => ?_)
      refine lv_aload_n hx hb dX8_hold_128 rfl (lv_at hl 2 rfl) ?_
      refine mm_gets (v := 1) hx hb hts hin hown hK hW 0 (by decide) (List.mem_of_getElem? (i := 3) rfl) rfl rfl (mq_same q 0 0 1) dX8_hold_129 ?_
      refine lv_if_ne (tgt := 193) hx hb dX8_hold_132 (by decide) (fun _ => ?_) (fun h => absurd h (by decide))
      exact mm_vret hx hb hr hlk hK hW hS (by rw [m_X8_hold, if_pos c_1, if_pos c_2]) dX8_hold_193
    · refine lv_iload hx hb dX8_hold_48 (lv_at hl 6 rfl) ?_
      refine lv_iconst (v := 0) hx hb dX8_hold_50 (by decide) ?_
      refine lv_ldc (v := 120000) hx hb hown (hts _ (List.mem_of_getElem? (i := 1) rfl)) dX8_hold_51 ?_
      refine mm_callSi (n := 3) (As := [.int first, .int 0, .int 120000]) (rest := []) (r := (m_X8_isIn first 0 120000)) (q2 := q) ⟨hx, hb, hml, hown, hts⟩ (c_X8_isIn l D b0 Pc cA ad q first 0 120000) gX8_hold_X8_isIn rfl (by decide +kernel) rfl ⟨Nat.le_of_ble_eq_true rfl, Nat.le_of_ble_eq_true rfl⟩ ⟨Nat.le_of_ble_eq_true rfl, Nat.le_of_ble_eq_true rfl⟩ hK hW hS hl.1 rfl (Nat.le_of_ble_eq_true rfl) dX8_hold_53 (fun H locs hW hS => ?_)
      refine lv_if_eq (tgt := 81) hx hb dX8_hold_56 (by decide) (fun c_3 => ?_) (fun c_3 => ?_)
      · refine lv_iconst (v := 0) hx hb dX8_hold_81 (by decide) ?_
        refine lv_istore (lv' := [(8, .int 0), (7, .int 0), (0, .ref (ad 20 0)), (1, .int h), (2, .int f), (3, .int cl), (4, .int key), (5, .int first), (6, .int last)]) hx hb dX8_hold_82 hl (by decide) rfl (fun ls hl => ?_)
        refine lv_aload_n hx hb dX8_hold_84 rfl (lv_at hl 2 rfl) ?_
        refine lv_iload hx hb dX8_hold_85 (lv_at hl 1 rfl) ?_
        refine lv_if_ne (tgt := 94) hx hb dX8_hold_87 (by decide) (fun h => absurd h (by decide)) (fun _ => ?_)
        refine lv_iconst (v := 1) hx hb dX8_hold_90 (by decide) ?_
        refine lv_goto (tgt := 125) hx hb dX8_hold_91 (by decide) ?_
        refine mm_put hx hb hts hin hown hK hW hS 0 (by decide) (List.mem_of_getElem? (i := 3) rfl) rfl rfl (by decide +kernel) rfl (ws_0 ad _ _) dX8_hold_125 (fun H locs hW hS => ?_)
        refine lv_aload_n hx hb dX8_hold_128 rfl (lv_at hl 2 rfl) ?_
        refine mm_gets (v := 1) hx hb hts hin hown hK hW 0 (by decide) (List.mem_of_getElem? (i := 3) rfl) rfl rfl (mq_same q 0 0 1) dX8_hold_129 ?_
        refine lv_if_ne (tgt := 193) hx hb dX8_hold_132 (by decide) (fun _ => ?_) (fun h => absurd h (by decide))
        exact mm_vret hx hb hr hlk hK hW hS (by rw [m_X8_hold, if_pos c_1, if_neg c_2, if_pos c_3]) dX8_hold_193
      · refine lv_iload hx hb dX8_hold_59 (lv_at hl 7 rfl) ?_
        refine lv_iconst (v := 0) hx hb dX8_hold_61 (by decide) ?_
        refine lv_ldc (v := 120000) hx hb hown (hts _ (List.mem_of_getElem? (i := 1) rfl)) dX8_hold_62 ?_
        refine mm_callSi (n := 3) (As := [.int last, .int 0, .int 120000]) (rest := []) (r := (m_X8_isIn last 0 120000)) (q2 := q) ⟨hx, hb, hml, hown, hts⟩ (c_X8_isIn l D b0 Pc cA ad q last 0 120000) gX8_hold_X8_isIn rfl (by decide +kernel) rfl ⟨Nat.le_of_ble_eq_true rfl, Nat.le_of_ble_eq_true rfl⟩ ⟨Nat.le_of_ble_eq_true rfl, Nat.le_of_ble_eq_true rfl⟩ hK hW hS hl.1 rfl (Nat.le_of_ble_eq_true rfl) dX8_hold_64 (fun H locs hW hS => ?_)
        refine lv_if_eq (tgt := 81) hx hb dX8_hold_67 (by decide) (fun c_4 => ?_) (fun c_4 => ?_)
        · refine lv_iconst (v := 0) hx hb dX8_hold_81 (by decide) ?_
          refine lv_istore (lv' := [(8, .int 0), (7, .int 0), (0, .ref (ad 20 0)), (1, .int h), (2, .int f), (3, .int cl), (4, .int key), (5, .int first), (6, .int last)]) hx hb dX8_hold_82 hl (by decide) rfl (fun ls hl => ?_)
          refine lv_aload_n hx hb dX8_hold_84 rfl (lv_at hl 2 rfl) ?_
          refine lv_iload hx hb dX8_hold_85 (lv_at hl 1 rfl) ?_
          refine lv_if_ne (tgt := 94) hx hb dX8_hold_87 (by decide) (fun h => absurd h (by decide)) (fun _ => ?_)
          refine lv_iconst (v := 1) hx hb dX8_hold_90 (by decide) ?_
          refine lv_goto (tgt := 125) hx hb dX8_hold_91 (by decide) ?_
          refine mm_put hx hb hts hin hown hK hW hS 0 (by decide) (List.mem_of_getElem? (i := 3) rfl) rfl rfl (by decide +kernel) rfl (ws_0 ad _ _) dX8_hold_125 (fun H locs hW hS => ?_)
          refine lv_aload_n hx hb dX8_hold_128 rfl (lv_at hl 2 rfl) ?_
          refine mm_gets (v := 1) hx hb hts hin hown hK hW 0 (by decide) (List.mem_of_getElem? (i := 3) rfl) rfl rfl (mq_same q 0 0 1) dX8_hold_129 ?_
          refine lv_if_ne (tgt := 193) hx hb dX8_hold_132 (by decide) (fun _ => ?_) (fun h => absurd h (by decide))
          exact mm_vret hx hb hr hlk hK hW hS (by rw [m_X8_hold, if_pos c_1, if_neg c_2, if_neg c_3, if_pos c_4]) dX8_hold_193
        · refine lv_iload hx hb dX8_hold_70 (lv_at hl 6 rfl) ?_
          refine lv_iload hx hb dX8_hold_72 (lv_at hl 7 rfl) ?_
          refine lv_icmp_gt (tgt := 81) hx hb dX8_hold_74 (by decide) (fun c_5 => ?_) (fun c_5 => ?_)
          · refine lv_iconst (v := 0) hx hb dX8_hold_81 (by decide) ?_
            refine lv_istore (lv' := [(8, .int 0), (7, .int 0), (0, .ref (ad 20 0)), (1, .int h), (2, .int f), (3, .int cl), (4, .int key), (5, .int first), (6, .int last)]) hx hb dX8_hold_82 hl (by decide) rfl (fun ls hl => ?_)
            refine lv_aload_n hx hb dX8_hold_84 rfl (lv_at hl 2 rfl) ?_
            refine lv_iload hx hb dX8_hold_85 (lv_at hl 1 rfl) ?_
            refine lv_if_ne (tgt := 94) hx hb dX8_hold_87 (by decide) (fun h => absurd h (by decide)) (fun _ => ?_)
            refine lv_iconst (v := 1) hx hb dX8_hold_90 (by decide) ?_
            refine lv_goto (tgt := 125) hx hb dX8_hold_91 (by decide) ?_
            refine mm_put hx hb hts hin hown hK hW hS 0 (by decide) (List.mem_of_getElem? (i := 3) rfl) rfl rfl (by decide +kernel) rfl (ws_0 ad _ _) dX8_hold_125 (fun H locs hW hS => ?_)
            refine lv_aload_n hx hb dX8_hold_128 rfl (lv_at hl 2 rfl) ?_
            refine mm_gets (v := 1) hx hb hts hin hown hK hW 0 (by decide) (List.mem_of_getElem? (i := 3) rfl) rfl rfl (mq_same q 0 0 1) dX8_hold_129 ?_
            refine lv_if_ne (tgt := 193) hx hb dX8_hold_132 (by decide) (fun _ => ?_) (fun h => absurd h (by decide))
            exact mm_vret hx hb hr hlk hK hW hS (by rw [m_X8_hold, if_pos c_1, if_neg c_2, if_neg c_3, if_neg c_4, if_pos c_5]) dX8_hold_193
          · refine lv_iconst (v := 1) hx hb dX8_hold_77 (by decide) ?_
            refine lv_goto (tgt := 82) hx hb dX8_hold_78 (by decide) ?_
            refine lv_istore (lv' := [(8, .int 1), (7, .int 0), (0, .ref (ad 20 0)), (1, .int h), (2, .int f), (3, .int cl), (4, .int key), (5, .int first), (6, .int last)]) hx hb dX8_hold_82 hl (by decide) rfl (fun ls hl => ?_)
            refine lv_aload_n hx hb dX8_hold_84 rfl (lv_at hl 2 rfl) ?_
            refine lv_iload hx hb dX8_hold_85 (lv_at hl 1 rfl) ?_
            refine lv_if_ne (tgt := 94) hx hb dX8_hold_87 (by decide) (fun h => absurd h (by decide)) (fun _ => ?_)
            refine lv_iconst (v := 1) hx hb dX8_hold_90 (by decide) ?_
            refine lv_goto (tgt := 125) hx hb dX8_hold_91 (by decide) ?_
            refine mm_put hx hb hts hin hown hK hW hS 0 (by decide) (List.mem_of_getElem? (i := 3) rfl) rfl rfl (by decide +kernel) rfl (ws_0 ad _ _) dX8_hold_125 (fun H locs hW hS => ?_)
            refine lv_aload_n hx hb dX8_hold_128 rfl (lv_at hl 2 rfl) ?_
            refine mm_gets (v := 1) hx hb hts hin hown hK hW 0 (by decide) (List.mem_of_getElem? (i := 3) rfl) rfl rfl (mq_same q 0 0 1) dX8_hold_129 ?_
            refine lv_if_ne (tgt := 193) hx hb dX8_hold_132 (by decide) (fun _ => ?_) (fun h => absurd h (by decide))
            exact mm_vret hx hb hr hlk hK hW hS (by rw [m_X8_hold, if_pos c_1, if_neg c_2, if_neg c_3, if_neg c_4, if_neg c_5]) dX8_hold_193
  · refine lv_iload_n hx hb dX8_hold_10 rfl (lv_at hl 2 rfl) ?_
    refine lv_iconst (v := (-1)) hx hb dX8_hold_11 (by decide) ?_
    refine lv_bipush (v := 15) hx hb dX8_hold_12 (by decide) ?_
    refine mm_callSi (n := 3) (As := [.int f, .int (-1), .int 15]) (rest := []) (r := (m_X8_isIn f (-1) 15)) (q2 := q) ⟨hx, hb, hml, hown, hts⟩ (c_X8_isIn l D b0 Pc cA ad q f (-1) 15) gX8_hold_X8_isIn rfl (by decide +kernel) rfl ⟨Nat.le_of_ble_eq_true rfl, Nat.le_of_ble_eq_true rfl⟩ ⟨Nat.le_of_ble_eq_true rfl, Nat.le_of_ble_eq_true rfl⟩ hK hW hS hl.1 rfl (Nat.le_of_ble_eq_true rfl) dX8_hold_14 (fun H locs hW hS => ?_)
    refine lv_if_eq (tgt := 34) hx hb dX8_hold_17 (by decide) (fun c_6 => ?_) (fun c_6 => ?_)
    · refine lv_iconst (v := 0) hx hb dX8_hold_34 (by decide) ?_
      refine lv_istore (lv' := [(7, .int 0), (0, .ref (ad 20 0)), (1, .int h), (2, .int f), (3, .int cl), (4, .int key), (5, .int first), (6, .int last)]) hx hb dX8_hold_35 hl (by decide) rfl (fun ls hl => ?_)
      refine lv_iload hx hb dX8_hold_37 (lv_at hl 5 rfl) ?_
      refine lv_iconst (v := (-1)) hx hb dX8_hold_39 (by decide) ?_
      refine lv_bipush (v := 99) hx hb dX8_hold_40 (by decide) ?_
      refine mm_callSi (n := 3) (As := [.int key, .int (-1), .int 99]) (rest := []) (r := (m_X8_isIn key (-1) 99)) (q2 := q) ⟨hx, hb, hml, hown, hts⟩ (c_X8_isIn l D b0 Pc cA ad q key (-1) 99) gX8_hold_X8_isIn rfl (by decide +kernel) rfl ⟨Nat.le_of_ble_eq_true rfl, Nat.le_of_ble_eq_true rfl⟩ ⟨Nat.le_of_ble_eq_true rfl, Nat.le_of_ble_eq_true rfl⟩ hK hW hS hl.1 rfl (Nat.le_of_ble_eq_true rfl) dX8_hold_42 (fun H locs hW hS => ?_)
      refine lv_if_eq (tgt := 81) hx hb dX8_hold_45 (by decide) (fun c_7 => ?_) (fun c_7 => ?_)
      · refine lv_iconst (v := 0) hx hb dX8_hold_81 (by decide) ?_
        refine lv_istore (lv' := [(8, .int 0), (7, .int 0), (0, .ref (ad 20 0)), (1, .int h), (2, .int f), (3, .int cl), (4, .int key), (5, .int first), (6, .int last)]) hx hb dX8_hold_82 hl (by decide) rfl (fun ls hl => ?_)
        refine lv_aload_n hx hb dX8_hold_84 rfl (lv_at hl 2 rfl) ?_
        refine lv_iload hx hb dX8_hold_85 (lv_at hl 1 rfl) ?_
        refine lv_if_ne (tgt := 94) hx hb dX8_hold_87 (by decide) (fun h => absurd h (by decide)) (fun _ => ?_)
        refine lv_iconst (v := 1) hx hb dX8_hold_90 (by decide) ?_
        refine lv_goto (tgt := 125) hx hb dX8_hold_91 (by decide) ?_
        refine mm_put hx hb hts hin hown hK hW hS 0 (by decide) (List.mem_of_getElem? (i := 3) rfl) rfl rfl (by decide +kernel) rfl (ws_0 ad _ _) dX8_hold_125 (fun H locs hW hS => ?_)
        refine lv_aload_n hx hb dX8_hold_128 rfl (lv_at hl 2 rfl) ?_
        refine mm_gets (v := 1) hx hb hts hin hown hK hW 0 (by decide) (List.mem_of_getElem? (i := 3) rfl) rfl rfl (mq_same q 0 0 1) dX8_hold_129 ?_
        refine lv_if_ne (tgt := 193) hx hb dX8_hold_132 (by decide) (fun _ => ?_) (fun h => absurd h (by decide))
        exact mm_vret hx hb hr hlk hK hW hS (by rw [m_X8_hold, if_neg c_1, if_pos c_6, if_pos c_7]) dX8_hold_193
      · refine lv_iload hx hb dX8_hold_48 (lv_at hl 6 rfl) ?_
        refine lv_iconst (v := 0) hx hb dX8_hold_50 (by decide) ?_
        refine lv_ldc (v := 120000) hx hb hown (hts _ (List.mem_of_getElem? (i := 1) rfl)) dX8_hold_51 ?_
        refine mm_callSi (n := 3) (As := [.int first, .int 0, .int 120000]) (rest := []) (r := (m_X8_isIn first 0 120000)) (q2 := q) ⟨hx, hb, hml, hown, hts⟩ (c_X8_isIn l D b0 Pc cA ad q first 0 120000) gX8_hold_X8_isIn rfl (by decide +kernel) rfl ⟨Nat.le_of_ble_eq_true rfl, Nat.le_of_ble_eq_true rfl⟩ ⟨Nat.le_of_ble_eq_true rfl, Nat.le_of_ble_eq_true rfl⟩ hK hW hS hl.1 rfl (Nat.le_of_ble_eq_true rfl) dX8_hold_53 (fun H locs hW hS => ?_)
        refine lv_if_eq (tgt := 81) hx hb dX8_hold_56 (by decide) (fun c_8 => ?_) (fun c_8 => ?_)
        · refine lv_iconst (v := 0) hx hb dX8_hold_81 (by decide) ?_
          refine lv_istore (lv' := [(8, .int 0), (7, .int 0), (0, .ref (ad 20 0)), (1, .int h), (2, .int f), (3, .int cl), (4, .int key), (5, .int first), (6, .int last)]) hx hb dX8_hold_82 hl (by decide) rfl (fun ls hl => ?_)
          refine lv_aload_n hx hb dX8_hold_84 rfl (lv_at hl 2 rfl) ?_
          refine lv_iload hx hb dX8_hold_85 (lv_at hl 1 rfl) ?_
          refine lv_if_ne (tgt := 94) hx hb dX8_hold_87 (by decide) (fun h => absurd h (by decide)) (fun _ => ?_)
          refine lv_iconst (v := 1) hx hb dX8_hold_90 (by decide) ?_
          refine lv_goto (tgt := 125) hx hb dX8_hold_91 (by decide) ?_
          refine mm_put hx hb hts hin hown hK hW hS 0 (by decide) (List.mem_of_getElem? (i := 3) rfl) rfl rfl (by decide +kernel) rfl (ws_0 ad _ _) dX8_hold_125 (fun H locs hW hS => ?_)
          refine lv_aload_n hx hb dX8_hold_128 rfl (lv_at hl 2 rfl) ?_
          refine mm_gets (v := 1) hx hb hts hin hown hK hW 0 (by decide) (List.mem_of_getElem? (i := 3) rfl) rfl rfl (mq_same q 0 0 1) dX8_hold_129 ?_
          refine lv_if_ne (tgt := 193) hx hb dX8_hold_132 (by decide) (fun _ => ?_) (fun h => absurd h (by decide))
          exact mm_vret hx hb hr hlk hK hW hS (by rw [m_X8_hold, if_neg c_1, if_pos c_6, if_neg c_7, if_pos c_8]) dX8_hold_193
        · refine lv_iload hx hb dX8_hold_59 (lv_at hl 7 rfl) ?_
          refine lv_iconst (v := 0) hx hb dX8_hold_61 (by decide) ?_
          refine lv_ldc (v := 120000) hx hb hown (hts _ (List.mem_of_getElem? (i := 1) rfl)) dX8_hold_62 ?_
          refine mm_callSi (n := 3) (As := [.int last, .int 0, .int 120000]) (rest := []) (r := (m_X8_isIn last 0 120000)) (q2 := q) ⟨hx, hb, hml, hown, hts⟩ (c_X8_isIn l D b0 Pc cA ad q last 0 120000) gX8_hold_X8_isIn rfl (by decide +kernel) rfl ⟨Nat.le_of_ble_eq_true rfl, Nat.le_of_ble_eq_true rfl⟩ ⟨Nat.le_of_ble_eq_true rfl, Nat.le_of_ble_eq_true rfl⟩ hK hW hS hl.1 rfl (Nat.le_of_ble_eq_true rfl) dX8_hold_64 (fun H locs hW hS => ?_)
          refine lv_if_eq (tgt := 81) hx hb dX8_hold_67 (by decide) (fun c_9 => ?_) (fun c_9 => ?_)
          · refine lv_iconst (v := 0) hx hb dX8_hold_81 (by decide) ?_
            refine lv_istore (lv' := [(8, .int 0), (7, .int 0), (0, .ref (ad 20 0)), (1, .int h), (2, .int f), (3, .int cl), (4, .int key), (5, .int first), (6, .int last)]) hx hb dX8_hold_82 hl (by decide) rfl (fun ls hl => ?_)
            refine lv_aload_n hx hb dX8_hold_84 rfl (lv_at hl 2 rfl) ?_
            refine lv_iload hx hb dX8_hold_85 (lv_at hl 1 rfl) ?_
            refine lv_if_ne (tgt := 94) hx hb dX8_hold_87 (by decide) (fun h => absurd h (by decide)) (fun _ => ?_)
            refine lv_iconst (v := 1) hx hb dX8_hold_90 (by decide) ?_
            refine lv_goto (tgt := 125) hx hb dX8_hold_91 (by decide) ?_
            refine mm_put hx hb hts hin hown hK hW hS 0 (by decide) (List.mem_of_getElem? (i := 3) rfl) rfl rfl (by decide +kernel) rfl (ws_0 ad _ _) dX8_hold_125 (fun H locs hW hS => ?_)
            refine lv_aload_n hx hb dX8_hold_128 rfl (lv_at hl 2 rfl) ?_
            refine mm_gets (v := 1) hx hb hts hin hown hK hW 0 (by decide) (List.mem_of_getElem? (i := 3) rfl) rfl rfl (mq_same q 0 0 1) dX8_hold_129 ?_
            refine lv_if_ne (tgt := 193) hx hb dX8_hold_132 (by decide) (fun _ => ?_) (fun h => absurd h (by decide))
            exact mm_vret hx hb hr hlk hK hW hS (by rw [m_X8_hold, if_neg c_1, if_pos c_6, if_neg c_7, if_neg c_8, if_pos c_9]) dX8_hold_193
          · refine lv_iload hx hb dX8_hold_70 (lv_at hl 6 rfl) ?_
            refine lv_iload hx hb dX8_hold_72 (lv_at hl 7 rfl) ?_
            refine lv_icmp_gt (tgt := 81) hx hb dX8_hold_74 (by decide) (fun c_10 => ?_) (fun c_10 => ?_)
            · refine lv_iconst (v := 0) hx hb dX8_hold_81 (by decide) ?_
              refine lv_istore (lv' := [(8, .int 0), (7, .int 0), (0, .ref (ad 20 0)), (1, .int h), (2, .int f), (3, .int cl), (4, .int key), (5, .int first), (6, .int last)]) hx hb dX8_hold_82 hl (by decide) rfl (fun ls hl => ?_)
              refine lv_aload_n hx hb dX8_hold_84 rfl (lv_at hl 2 rfl) ?_
              refine lv_iload hx hb dX8_hold_85 (lv_at hl 1 rfl) ?_
              refine lv_if_ne (tgt := 94) hx hb dX8_hold_87 (by decide) (fun h => absurd h (by decide)) (fun _ => ?_)
              refine lv_iconst (v := 1) hx hb dX8_hold_90 (by decide) ?_
              refine lv_goto (tgt := 125) hx hb dX8_hold_91 (by decide) ?_
              refine mm_put hx hb hts hin hown hK hW hS 0 (by decide) (List.mem_of_getElem? (i := 3) rfl) rfl rfl (by decide +kernel) rfl (ws_0 ad _ _) dX8_hold_125 (fun H locs hW hS => ?_)
              refine lv_aload_n hx hb dX8_hold_128 rfl (lv_at hl 2 rfl) ?_
              refine mm_gets (v := 1) hx hb hts hin hown hK hW 0 (by decide) (List.mem_of_getElem? (i := 3) rfl) rfl rfl (mq_same q 0 0 1) dX8_hold_129 ?_
              refine lv_if_ne (tgt := 193) hx hb dX8_hold_132 (by decide) (fun _ => ?_) (fun h => absurd h (by decide))
              exact mm_vret hx hb hr hlk hK hW hS (by rw [m_X8_hold, if_neg c_1, if_pos c_6, if_neg c_7, if_neg c_8, if_neg c_9, if_pos c_10]) dX8_hold_193
            · refine lv_iconst (v := 1) hx hb dX8_hold_77 (by decide) ?_
              refine lv_goto (tgt := 82) hx hb dX8_hold_78 (by decide) ?_
              refine lv_istore (lv' := [(8, .int 1), (7, .int 0), (0, .ref (ad 20 0)), (1, .int h), (2, .int f), (3, .int cl), (4, .int key), (5, .int first), (6, .int last)]) hx hb dX8_hold_82 hl (by decide) rfl (fun ls hl => ?_)
              refine lv_aload_n hx hb dX8_hold_84 rfl (lv_at hl 2 rfl) ?_
              refine lv_iload hx hb dX8_hold_85 (lv_at hl 1 rfl) ?_
              refine lv_if_ne (tgt := 94) hx hb dX8_hold_87 (by decide) (fun h => absurd h (by decide)) (fun _ => ?_)
              refine lv_iconst (v := 1) hx hb dX8_hold_90 (by decide) ?_
              refine lv_goto (tgt := 125) hx hb dX8_hold_91 (by decide) ?_
              refine mm_put hx hb hts hin hown hK hW hS 0 (by decide) (List.mem_of_getElem? (i := 3) rfl) rfl rfl (by decide +kernel) rfl (ws_0 ad _ _) dX8_hold_125 (fun H locs hW hS => ?_)
              refine lv_aload_n hx hb dX8_hold_128 rfl (lv_at hl 2 rfl) ?_
              refine mm_gets (v := 1) hx hb hts hin hown hK hW 0 (by decide) (List.mem_of_getElem? (i := 3) rfl) rfl rfl (mq_same q 0 0 1) dX8_hold_129 ?_
              refine lv_if_ne (tgt := 193) hx hb dX8_hold_132 (by decide) (fun _ => ?_) (fun h => absurd h (by decide))
              exact mm_vret hx hb hr hlk hK hW hS (by rw [m_X8_hold, if_neg c_1, if_pos c_6, if_neg c_7, if_neg c_8, if_neg c_9, if_neg c_10]) dX8_hold_193
    · refine lv_iload_n hx hb dX8_hold_20 rfl (lv_at hl 3 rfl) ?_
      refine lv_iconst (v := (-1)) hx hb dX8_hold_21 (by decide) ?_
      refine lv_bipush (v := 7) hx hb dX8_hold_22 (by decide) ?_
      refine mm_callSi (n := 3) (As := [.int cl, .int (-1), .int 7]) (rest := []) (r := (m_X8_isIn cl (-1) 7)) (q2 := q) ⟨hx, hb, hml, hown, hts⟩ (c_X8_isIn l D b0 Pc cA ad q cl (-1) 7) gX8_hold_X8_isIn rfl (by decide +kernel) rfl ⟨Nat.le_of_ble_eq_true rfl, Nat.le_of_ble_eq_true rfl⟩ ⟨Nat.le_of_ble_eq_true rfl, Nat.le_of_ble_eq_true rfl⟩ hK hW hS hl.1 rfl (Nat.le_of_ble_eq_true rfl) dX8_hold_24 (fun H locs hW hS => ?_)
      refine lv_if_eq (tgt := 34) hx hb dX8_hold_27 (by decide) (fun c_11 => ?_) (fun c_11 => ?_)
      · refine lv_iconst (v := 0) hx hb dX8_hold_34 (by decide) ?_
        refine lv_istore (lv' := [(7, .int 0), (0, .ref (ad 20 0)), (1, .int h), (2, .int f), (3, .int cl), (4, .int key), (5, .int first), (6, .int last)]) hx hb dX8_hold_35 hl (by decide) rfl (fun ls hl => ?_)
        refine lv_iload hx hb dX8_hold_37 (lv_at hl 5 rfl) ?_
        refine lv_iconst (v := (-1)) hx hb dX8_hold_39 (by decide) ?_
        refine lv_bipush (v := 99) hx hb dX8_hold_40 (by decide) ?_
        refine mm_callSi (n := 3) (As := [.int key, .int (-1), .int 99]) (rest := []) (r := (m_X8_isIn key (-1) 99)) (q2 := q) ⟨hx, hb, hml, hown, hts⟩ (c_X8_isIn l D b0 Pc cA ad q key (-1) 99) gX8_hold_X8_isIn rfl (by decide +kernel) rfl ⟨Nat.le_of_ble_eq_true rfl, Nat.le_of_ble_eq_true rfl⟩ ⟨Nat.le_of_ble_eq_true rfl, Nat.le_of_ble_eq_true rfl⟩ hK hW hS hl.1 rfl (Nat.le_of_ble_eq_true rfl) dX8_hold_42 (fun H locs hW hS => ?_)
        refine lv_if_eq (tgt := 81) hx hb dX8_hold_45 (by decide) (fun c_12 => ?_) (fun c_12 => ?_)
        · refine lv_iconst (v := 0) hx hb dX8_hold_81 (by decide) ?_
          refine lv_istore (lv' := [(8, .int 0), (7, .int 0), (0, .ref (ad 20 0)), (1, .int h), (2, .int f), (3, .int cl), (4, .int key), (5, .int first), (6, .int last)]) hx hb dX8_hold_82 hl (by decide) rfl (fun ls hl => ?_)
          refine lv_aload_n hx hb dX8_hold_84 rfl (lv_at hl 2 rfl) ?_
          refine lv_iload hx hb dX8_hold_85 (lv_at hl 1 rfl) ?_
          refine lv_if_ne (tgt := 94) hx hb dX8_hold_87 (by decide) (fun h => absurd h (by decide)) (fun _ => ?_)
          refine lv_iconst (v := 1) hx hb dX8_hold_90 (by decide) ?_
          refine lv_goto (tgt := 125) hx hb dX8_hold_91 (by decide) ?_
          refine mm_put hx hb hts hin hown hK hW hS 0 (by decide) (List.mem_of_getElem? (i := 3) rfl) rfl rfl (by decide +kernel) rfl (ws_0 ad _ _) dX8_hold_125 (fun H locs hW hS => ?_)
          refine lv_aload_n hx hb dX8_hold_128 rfl (lv_at hl 2 rfl) ?_
          refine mm_gets (v := 1) hx hb hts hin hown hK hW 0 (by decide) (List.mem_of_getElem? (i := 3) rfl) rfl rfl (mq_same q 0 0 1) dX8_hold_129 ?_
          refine lv_if_ne (tgt := 193) hx hb dX8_hold_132 (by decide) (fun _ => ?_) (fun h => absurd h (by decide))
          exact mm_vret hx hb hr hlk hK hW hS (by rw [m_X8_hold, if_neg c_1, if_neg c_6, if_pos c_11, if_pos c_12]) dX8_hold_193
        · refine lv_iload hx hb dX8_hold_48 (lv_at hl 6 rfl) ?_
          refine lv_iconst (v := 0) hx hb dX8_hold_50 (by decide) ?_
          refine lv_ldc (v := 120000) hx hb hown (hts _ (List.mem_of_getElem? (i := 1) rfl)) dX8_hold_51 ?_
          refine mm_callSi (n := 3) (As := [.int first, .int 0, .int 120000]) (rest := []) (r := (m_X8_isIn first 0 120000)) (q2 := q) ⟨hx, hb, hml, hown, hts⟩ (c_X8_isIn l D b0 Pc cA ad q first 0 120000) gX8_hold_X8_isIn rfl (by decide +kernel) rfl ⟨Nat.le_of_ble_eq_true rfl, Nat.le_of_ble_eq_true rfl⟩ ⟨Nat.le_of_ble_eq_true rfl, Nat.le_of_ble_eq_true rfl⟩ hK hW hS hl.1 rfl (Nat.le_of_ble_eq_true rfl) dX8_hold_53 (fun H locs hW hS => ?_)
          refine lv_if_eq (tgt := 81) hx hb dX8_hold_56 (by decide) (fun c_13 => ?_) (fun c_13 => ?_)
          · refine lv_iconst (v := 0) hx hb dX8_hold_81 (by decide) ?_
            refine lv_istore (lv' := [(8, .int 0), (7, .int 0), (0, .ref (ad 20 0)), (1, .int h), (2, .int f), (3, .int cl), (4, .int key), (5, .int first), (6, .int last)]) hx hb dX8_hold_82 hl (by decide) rfl (fun ls hl => ?_)
            refine lv_aload_n hx hb dX8_hold_84 rfl (lv_at hl 2 rfl) ?_
            refine lv_iload hx hb dX8_hold_85 (lv_at hl 1 rfl) ?_
            refine lv_if_ne (tgt := 94) hx hb dX8_hold_87 (by decide) (fun h => absurd h (by decide)) (fun _ => ?_)
            refine lv_iconst (v := 1) hx hb dX8_hold_90 (by decide) ?_
            refine lv_goto (tgt := 125) hx hb dX8_hold_91 (by decide) ?_
            refine mm_put hx hb hts hin hown hK hW hS 0 (by decide) (List.mem_of_getElem? (i := 3) rfl) rfl rfl (by decide +kernel) rfl (ws_0 ad _ _) dX8_hold_125 (fun H locs hW hS => ?_)
            refine lv_aload_n hx hb dX8_hold_128 rfl (lv_at hl 2 rfl) ?_
            refine mm_gets (v := 1) hx hb hts hin hown hK hW 0 (by decide) (List.mem_of_getElem? (i := 3) rfl) rfl rfl (mq_same q 0 0 1) dX8_hold_129 ?_
            refine lv_if_ne (tgt := 193) hx hb dX8_hold_132 (by decide) (fun _ => ?_) (fun h => absurd h (by decide))
            exact mm_vret hx hb hr hlk hK hW hS (by rw [m_X8_hold, if_neg c_1, if_neg c_6, if_pos c_11, if_neg c_12, if_pos c_13]) dX8_hold_193
          · refine lv_iload hx hb dX8_hold_59 (lv_at hl 7 rfl) ?_
            refine lv_iconst (v := 0) hx hb dX8_hold_61 (by decide) ?_
            refine lv_ldc (v := 120000) hx hb hown (hts _ (List.mem_of_getElem? (i := 1) rfl)) dX8_hold_62 ?_
            refine mm_callSi (n := 3) (As := [.int last, .int 0, .int 120000]) (rest := []) (r := (m_X8_isIn last 0 120000)) (q2 := q) ⟨hx, hb, hml, hown, hts⟩ (c_X8_isIn l D b0 Pc cA ad q last 0 120000) gX8_hold_X8_isIn rfl (by decide +kernel) rfl ⟨Nat.le_of_ble_eq_true rfl, Nat.le_of_ble_eq_true rfl⟩ ⟨Nat.le_of_ble_eq_true rfl, Nat.le_of_ble_eq_true rfl⟩ hK hW hS hl.1 rfl (Nat.le_of_ble_eq_true rfl) dX8_hold_64 (fun H locs hW hS => ?_)
            refine lv_if_eq (tgt := 81) hx hb dX8_hold_67 (by decide) (fun c_14 => ?_) (fun c_14 => ?_)
            · refine lv_iconst (v := 0) hx hb dX8_hold_81 (by decide) ?_
              refine lv_istore (lv' := [(8, .int 0), (7, .int 0), (0, .ref (ad 20 0)), (1, .int h), (2, .int f), (3, .int cl), (4, .int key), (5, .int first), (6, .int last)]) hx hb dX8_hold_82 hl (by decide) rfl (fun ls hl => ?_)
              refine lv_aload_n hx hb dX8_hold_84 rfl (lv_at hl 2 rfl) ?_
              refine lv_iload hx hb dX8_hold_85 (lv_at hl 1 rfl) ?_
              refine lv_if_ne (tgt := 94) hx hb dX8_hold_87 (by decide) (fun h => absurd h (by decide)) (fun _ => ?_)
              refine lv_iconst (v := 1) hx hb dX8_hold_90 (by decide) ?_
              refine lv_goto (tgt := 125) hx hb dX8_hold_91 (by decide) ?_
              refine mm_put hx hb hts hin hown hK hW hS 0 (by decide) (List.mem_of_getElem? (i := 3) rfl) rfl rfl (by decide +kernel) rfl (ws_0 ad _ _) dX8_hold_125 (fun H locs hW hS => ?_)
              refine lv_aload_n hx hb dX8_hold_128 rfl (lv_at hl 2 rfl) ?_
              refine mm_gets (v := 1) hx hb hts hin hown hK hW 0 (by decide) (List.mem_of_getElem? (i := 3) rfl) rfl rfl (mq_same q 0 0 1) dX8_hold_129 ?_
              refine lv_if_ne (tgt := 193) hx hb dX8_hold_132 (by decide) (fun _ => ?_) (fun h => absurd h (by decide))
              exact mm_vret hx hb hr hlk hK hW hS (by rw [m_X8_hold, if_neg c_1, if_neg c_6, if_pos c_11, if_neg c_12, if_neg c_13, if_pos c_14]) dX8_hold_193
            · refine lv_iload hx hb dX8_hold_70 (lv_at hl 6 rfl) ?_
              refine lv_iload hx hb dX8_hold_72 (lv_at hl 7 rfl) ?_
              refine lv_icmp_gt (tgt := 81) hx hb dX8_hold_74 (by decide) (fun c_15 => ?_) (fun c_15 => ?_)
              · refine lv_iconst (v := 0) hx hb dX8_hold_81 (by decide) ?_
                refine lv_istore (lv' := [(8, .int 0), (7, .int 0), (0, .ref (ad 20 0)), (1, .int h), (2, .int f), (3, .int cl), (4, .int key), (5, .int first), (6, .int last)]) hx hb dX8_hold_82 hl (by decide) rfl (fun ls hl => ?_)
                refine lv_aload_n hx hb dX8_hold_84 rfl (lv_at hl 2 rfl) ?_
                refine lv_iload hx hb dX8_hold_85 (lv_at hl 1 rfl) ?_
                refine lv_if_ne (tgt := 94) hx hb dX8_hold_87 (by decide) (fun h => absurd h (by decide)) (fun _ => ?_)
                refine lv_iconst (v := 1) hx hb dX8_hold_90 (by decide) ?_
                refine lv_goto (tgt := 125) hx hb dX8_hold_91 (by decide) ?_
                refine mm_put hx hb hts hin hown hK hW hS 0 (by decide) (List.mem_of_getElem? (i := 3) rfl) rfl rfl (by decide +kernel) rfl (ws_0 ad _ _) dX8_hold_125 (fun H locs hW hS => ?_)
                refine lv_aload_n hx hb dX8_hold_128 rfl (lv_at hl 2 rfl) ?_
                refine mm_gets (v := 1) hx hb hts hin hown hK hW 0 (by decide) (List.mem_of_getElem? (i := 3) rfl) rfl rfl (mq_same q 0 0 1) dX8_hold_129 ?_
                refine lv_if_ne (tgt := 193) hx hb dX8_hold_132 (by decide) (fun _ => ?_) (fun h => absurd h (by decide))
                exact mm_vret hx hb hr hlk hK hW hS (by rw [m_X8_hold, if_neg c_1, if_neg c_6, if_pos c_11, if_neg c_12, if_neg c_13, if_neg c_14, if_pos c_15]) dX8_hold_193
              · refine lv_iconst (v := 1) hx hb dX8_hold_77 (by decide) ?_
                refine lv_goto (tgt := 82) hx hb dX8_hold_78 (by decide) ?_
                refine lv_istore (lv' := [(8, .int 1), (7, .int 0), (0, .ref (ad 20 0)), (1, .int h), (2, .int f), (3, .int cl), (4, .int key), (5, .int first), (6, .int last)]) hx hb dX8_hold_82 hl (by decide) rfl (fun ls hl => ?_)
                refine lv_aload_n hx hb dX8_hold_84 rfl (lv_at hl 2 rfl) ?_
                refine lv_iload hx hb dX8_hold_85 (lv_at hl 1 rfl) ?_
                refine lv_if_ne (tgt := 94) hx hb dX8_hold_87 (by decide) (fun h => absurd h (by decide)) (fun _ => ?_)
                refine lv_iconst (v := 1) hx hb dX8_hold_90 (by decide) ?_
                refine lv_goto (tgt := 125) hx hb dX8_hold_91 (by decide) ?_
                refine mm_put hx hb hts hin hown hK hW hS 0 (by decide) (List.mem_of_getElem? (i := 3) rfl) rfl rfl (by decide +kernel) rfl (ws_0 ad _ _) dX8_hold_125 (fun H locs hW hS => ?_)
                refine lv_aload_n hx hb dX8_hold_128 rfl (lv_at hl 2 rfl) ?_
                refine mm_gets (v := 1) hx hb hts hin hown hK hW 0 (by decide) (List.mem_of_getElem? (i := 3) rfl) rfl rfl (mq_same q 0 0 1) dX8_hold_129 ?_
                refine lv_if_ne (tgt := 193) hx hb dX8_hold_132 (by decide) (fun _ => ?_) (fun h => absurd h (by decide))
                exact mm_vret hx hb hr hlk hK hW hS (by rw [m_X8_hold, if_neg c_1, if_neg c_6, if_pos c_11, if_neg c_12, if_neg c_13, if_neg c_14, if_neg c_15]) dX8_hold_193
      · refine lv_iconst (v := 1) hx hb dX8_hold_30 (by decide) ?_
        refine lv_goto (tgt := 35) hx hb dX8_hold_31 (by decide) ?_
        refine lv_istore (lv' := [(7, .int 1), (0, .ref (ad 20 0)), (1, .int h), (2, .int f), (3, .int cl), (4, .int key), (5, .int first), (6, .int last)]) hx hb dX8_hold_35 hl (by decide) rfl (fun ls hl => ?_)
        refine lv_iload hx hb dX8_hold_37 (lv_at hl 5 rfl) ?_
        refine lv_iconst (v := (-1)) hx hb dX8_hold_39 (by decide) ?_
        refine lv_bipush (v := 99) hx hb dX8_hold_40 (by decide) ?_
        refine mm_callSi (n := 3) (As := [.int key, .int (-1), .int 99]) (rest := []) (r := (m_X8_isIn key (-1) 99)) (q2 := q) ⟨hx, hb, hml, hown, hts⟩ (c_X8_isIn l D b0 Pc cA ad q key (-1) 99) gX8_hold_X8_isIn rfl (by decide +kernel) rfl ⟨Nat.le_of_ble_eq_true rfl, Nat.le_of_ble_eq_true rfl⟩ ⟨Nat.le_of_ble_eq_true rfl, Nat.le_of_ble_eq_true rfl⟩ hK hW hS hl.1 rfl (Nat.le_of_ble_eq_true rfl) dX8_hold_42 (fun H locs hW hS => ?_)
        refine lv_if_eq (tgt := 81) hx hb dX8_hold_45 (by decide) (fun c_16 => ?_) (fun c_16 => ?_)
        · refine lv_iconst (v := 0) hx hb dX8_hold_81 (by decide) ?_
          refine lv_istore (lv' := [(8, .int 0), (7, .int 1), (0, .ref (ad 20 0)), (1, .int h), (2, .int f), (3, .int cl), (4, .int key), (5, .int first), (6, .int last)]) hx hb dX8_hold_82 hl (by decide) rfl (fun ls hl => ?_)
          refine lv_aload_n hx hb dX8_hold_84 rfl (lv_at hl 2 rfl) ?_
          refine lv_iload hx hb dX8_hold_85 (lv_at hl 1 rfl) ?_
          refine lv_if_ne (tgt := 94) hx hb dX8_hold_87 (by decide) (fun _ => ?_) (fun h => absurd h (by decide))
          refine lv_iload hx hb dX8_hold_94 (lv_at hl 0 rfl) ?_
          refine lv_if_ne (tgt := 103) hx hb dX8_hold_96 (by decide) (fun h => absurd h (by decide)) (fun _ => ?_)
          refine lv_iconst (v := 2) hx hb dX8_hold_99 (by decide) ?_
          refine lv_goto (tgt := 125) hx hb dX8_hold_100 (by decide) ?_
          refine mm_put hx hb hts hin hown hK hW hS 0 (by decide) (List.mem_of_getElem? (i := 3) rfl) rfl rfl (by decide +kernel) rfl (ws_0 ad _ _) dX8_hold_125 (fun H locs hW hS => ?_)
          refine lv_aload_n hx hb dX8_hold_128 rfl (lv_at hl 2 rfl) ?_
          refine mm_gets (v := 2) hx hb hts hin hown hK hW 0 (by decide) (List.mem_of_getElem? (i := 3) rfl) rfl rfl (mq_same q 0 0 2) dX8_hold_129 ?_
          refine lv_if_ne (tgt := 193) hx hb dX8_hold_132 (by decide) (fun _ => ?_) (fun h => absurd h (by decide))
          exact mm_vret hx hb hr hlk hK hW hS (by rw [m_X8_hold, if_neg c_1, if_neg c_6, if_neg c_11, if_pos c_16]) dX8_hold_193
        · refine lv_iload hx hb dX8_hold_48 (lv_at hl 6 rfl) ?_
          refine lv_iconst (v := 0) hx hb dX8_hold_50 (by decide) ?_
          refine lv_ldc (v := 120000) hx hb hown (hts _ (List.mem_of_getElem? (i := 1) rfl)) dX8_hold_51 ?_
          refine mm_callSi (n := 3) (As := [.int first, .int 0, .int 120000]) (rest := []) (r := (m_X8_isIn first 0 120000)) (q2 := q) ⟨hx, hb, hml, hown, hts⟩ (c_X8_isIn l D b0 Pc cA ad q first 0 120000) gX8_hold_X8_isIn rfl (by decide +kernel) rfl ⟨Nat.le_of_ble_eq_true rfl, Nat.le_of_ble_eq_true rfl⟩ ⟨Nat.le_of_ble_eq_true rfl, Nat.le_of_ble_eq_true rfl⟩ hK hW hS hl.1 rfl (Nat.le_of_ble_eq_true rfl) dX8_hold_53 (fun H locs hW hS => ?_)
          refine lv_if_eq (tgt := 81) hx hb dX8_hold_56 (by decide) (fun c_17 => ?_) (fun c_17 => ?_)
          · refine lv_iconst (v := 0) hx hb dX8_hold_81 (by decide) ?_
            refine lv_istore (lv' := [(8, .int 0), (7, .int 1), (0, .ref (ad 20 0)), (1, .int h), (2, .int f), (3, .int cl), (4, .int key), (5, .int first), (6, .int last)]) hx hb dX8_hold_82 hl (by decide) rfl (fun ls hl => ?_)
            refine lv_aload_n hx hb dX8_hold_84 rfl (lv_at hl 2 rfl) ?_
            refine lv_iload hx hb dX8_hold_85 (lv_at hl 1 rfl) ?_
            refine lv_if_ne (tgt := 94) hx hb dX8_hold_87 (by decide) (fun _ => ?_) (fun h => absurd h (by decide))
            refine lv_iload hx hb dX8_hold_94 (lv_at hl 0 rfl) ?_
            refine lv_if_ne (tgt := 103) hx hb dX8_hold_96 (by decide) (fun h => absurd h (by decide)) (fun _ => ?_)
            refine lv_iconst (v := 2) hx hb dX8_hold_99 (by decide) ?_
            refine lv_goto (tgt := 125) hx hb dX8_hold_100 (by decide) ?_
            refine mm_put hx hb hts hin hown hK hW hS 0 (by decide) (List.mem_of_getElem? (i := 3) rfl) rfl rfl (by decide +kernel) rfl (ws_0 ad _ _) dX8_hold_125 (fun H locs hW hS => ?_)
            refine lv_aload_n hx hb dX8_hold_128 rfl (lv_at hl 2 rfl) ?_
            refine mm_gets (v := 2) hx hb hts hin hown hK hW 0 (by decide) (List.mem_of_getElem? (i := 3) rfl) rfl rfl (mq_same q 0 0 2) dX8_hold_129 ?_
            refine lv_if_ne (tgt := 193) hx hb dX8_hold_132 (by decide) (fun _ => ?_) (fun h => absurd h (by decide))
            exact mm_vret hx hb hr hlk hK hW hS (by rw [m_X8_hold, if_neg c_1, if_neg c_6, if_neg c_11, if_neg c_16, if_pos c_17]) dX8_hold_193
          · refine lv_iload hx hb dX8_hold_59 (lv_at hl 7 rfl) ?_
            refine lv_iconst (v := 0) hx hb dX8_hold_61 (by decide) ?_
            refine lv_ldc (v := 120000) hx hb hown (hts _ (List.mem_of_getElem? (i := 1) rfl)) dX8_hold_62 ?_
            refine mm_callSi (n := 3) (As := [.int last, .int 0, .int 120000]) (rest := []) (r := (m_X8_isIn last 0 120000)) (q2 := q) ⟨hx, hb, hml, hown, hts⟩ (c_X8_isIn l D b0 Pc cA ad q last 0 120000) gX8_hold_X8_isIn rfl (by decide +kernel) rfl ⟨Nat.le_of_ble_eq_true rfl, Nat.le_of_ble_eq_true rfl⟩ ⟨Nat.le_of_ble_eq_true rfl, Nat.le_of_ble_eq_true rfl⟩ hK hW hS hl.1 rfl (Nat.le_of_ble_eq_true rfl) dX8_hold_64 (fun H locs hW hS => ?_)
            refine lv_if_eq (tgt := 81) hx hb dX8_hold_67 (by decide) (fun c_18 => ?_) (fun c_18 => ?_)
            · refine lv_iconst (v := 0) hx hb dX8_hold_81 (by decide) ?_
              refine lv_istore (lv' := [(8, .int 0), (7, .int 1), (0, .ref (ad 20 0)), (1, .int h), (2, .int f), (3, .int cl), (4, .int key), (5, .int first), (6, .int last)]) hx hb dX8_hold_82 hl (by decide) rfl (fun ls hl => ?_)
              refine lv_aload_n hx hb dX8_hold_84 rfl (lv_at hl 2 rfl) ?_
              refine lv_iload hx hb dX8_hold_85 (lv_at hl 1 rfl) ?_
              refine lv_if_ne (tgt := 94) hx hb dX8_hold_87 (by decide) (fun _ => ?_) (fun h => absurd h (by decide))
              refine lv_iload hx hb dX8_hold_94 (lv_at hl 0 rfl) ?_
              refine lv_if_ne (tgt := 103) hx hb dX8_hold_96 (by decide) (fun h => absurd h (by decide)) (fun _ => ?_)
              refine lv_iconst (v := 2) hx hb dX8_hold_99 (by decide) ?_
              refine lv_goto (tgt := 125) hx hb dX8_hold_100 (by decide) ?_
              refine mm_put hx hb hts hin hown hK hW hS 0 (by decide) (List.mem_of_getElem? (i := 3) rfl) rfl rfl (by decide +kernel) rfl (ws_0 ad _ _) dX8_hold_125 (fun H locs hW hS => ?_)
              refine lv_aload_n hx hb dX8_hold_128 rfl (lv_at hl 2 rfl) ?_
              refine mm_gets (v := 2) hx hb hts hin hown hK hW 0 (by decide) (List.mem_of_getElem? (i := 3) rfl) rfl rfl (mq_same q 0 0 2) dX8_hold_129 ?_
              refine lv_if_ne (tgt := 193) hx hb dX8_hold_132 (by decide) (fun _ => ?_) (fun h => absurd h (by decide))
              exact mm_vret hx hb hr hlk hK hW hS (by rw [m_X8_hold, if_neg c_1, if_neg c_6, if_neg c_11, if_neg c_16, if_neg c_17, if_pos c_18]) dX8_hold_193
            · refine lv_iload hx hb dX8_hold_70 (lv_at hl 6 rfl) ?_
              refine lv_iload hx hb dX8_hold_72 (lv_at hl 7 rfl) ?_
              refine lv_icmp_gt (tgt := 81) hx hb dX8_hold_74 (by decide) (fun c_19 => ?_) (fun c_19 => ?_)
              · refine lv_iconst (v := 0) hx hb dX8_hold_81 (by decide) ?_
                refine lv_istore (lv' := [(8, .int 0), (7, .int 1), (0, .ref (ad 20 0)), (1, .int h), (2, .int f), (3, .int cl), (4, .int key), (5, .int first), (6, .int last)]) hx hb dX8_hold_82 hl (by decide) rfl (fun ls hl => ?_)
                refine lv_aload_n hx hb dX8_hold_84 rfl (lv_at hl 2 rfl) ?_
                refine lv_iload hx hb dX8_hold_85 (lv_at hl 1 rfl) ?_
                refine lv_if_ne (tgt := 94) hx hb dX8_hold_87 (by decide) (fun _ => ?_) (fun h => absurd h (by decide))
                refine lv_iload hx hb dX8_hold_94 (lv_at hl 0 rfl) ?_
                refine lv_if_ne (tgt := 103) hx hb dX8_hold_96 (by decide) (fun h => absurd h (by decide)) (fun _ => ?_)
                refine lv_iconst (v := 2) hx hb dX8_hold_99 (by decide) ?_
                refine lv_goto (tgt := 125) hx hb dX8_hold_100 (by decide) ?_
                refine mm_put hx hb hts hin hown hK hW hS 0 (by decide) (List.mem_of_getElem? (i := 3) rfl) rfl rfl (by decide +kernel) rfl (ws_0 ad _ _) dX8_hold_125 (fun H locs hW hS => ?_)
                refine lv_aload_n hx hb dX8_hold_128 rfl (lv_at hl 2 rfl) ?_
                refine mm_gets (v := 2) hx hb hts hin hown hK hW 0 (by decide) (List.mem_of_getElem? (i := 3) rfl) rfl rfl (mq_same q 0 0 2) dX8_hold_129 ?_
                refine lv_if_ne (tgt := 193) hx hb dX8_hold_132 (by decide) (fun _ => ?_) (fun h => absurd h (by decide))
                exact mm_vret hx hb hr hlk hK hW hS (by rw [m_X8_hold, if_neg c_1, if_neg c_6, if_neg c_11, if_neg c_16, if_neg c_17, if_neg c_18, if_pos c_19]) dX8_hold_193
              · refine lv_iconst (v := 1) hx hb dX8_hold_77 (by decide) ?_
                refine lv_goto (tgt := 82) hx hb dX8_hold_78 (by decide) ?_
                refine lv_istore (lv' := [(8, .int 1), (7, .int 1), (0, .ref (ad 20 0)), (1, .int h), (2, .int f), (3, .int cl), (4, .int key), (5, .int first), (6, .int last)]) hx hb dX8_hold_82 hl (by decide) rfl (fun ls hl => ?_)
                refine lv_aload_n hx hb dX8_hold_84 rfl (lv_at hl 2 rfl) ?_
                refine lv_iload hx hb dX8_hold_85 (lv_at hl 1 rfl) ?_
                refine lv_if_ne (tgt := 94) hx hb dX8_hold_87 (by decide) (fun _ => ?_) (fun h => absurd h (by decide))
                refine lv_iload hx hb dX8_hold_94 (lv_at hl 0 rfl) ?_
                refine lv_if_ne (tgt := 103) hx hb dX8_hold_96 (by decide) (fun _ => ?_) (fun h => absurd h (by decide))
                refine lv_aload_n hx hb dX8_hold_103 rfl (lv_at hl 2 rfl) ?_
                refine mm_get (v := .ref (ad 21 19)) hx hb hts hin hown hK hW 19 (by decide) (List.mem_of_getElem? (i := 2) rfl) rfl rfl dX8_hold_104 ?_
                refine lv_iload_n hx hb dX8_hold_107 rfl (lv_at hl 3 rfl) ?_
                have b_20 : vp_in h 8 := by
                  have u_1 := rg_e h
                  have u_2 := rg_e (m_X8_isIn h 0 7)
                  have k_3 : (0 : Int32).toInt = 0 := rfl
                  have v_4 := cv_ne c_1
                  have k_5 : (7 : Int32).toInt = 7 := rfl
                  have v_6 := is_t c_1
                  have u_7 := rg_e (m_X8_isIn f (-1) 15)
                  have v_8 := cv_ne c_6
                  have u_9 := rg_e f
                  have k_10 : ((-1) : Int32).toInt = -1 := rfl
                  have k_11 : (15 : Int32).toInt = 15 := rfl
                  have v_12 := is_t c_6
                  have u_13 := rg_e (m_X8_isIn cl (-1) 7)
                  have v_14 := cv_ne c_11
                  have u_15 := rg_e cl
                  have v_16 := is_t c_11
                  have u_17 := rg_e (m_X8_isIn key (-1) 99)
                  have v_18 := cv_ne c_16
                  have u_19 := rg_e key
                  have k_20 : (99 : Int32).toInt = 99 := rfl
                  have v_21 := is_t c_16
                  have u_22 := rg_e (m_X8_isIn first 0 120000)
                  have v_23 := cv_ne c_17
                  have u_24 := rg_e first
                  have k_25 : (120000 : Int32).toInt = 120000 := rfl
                  have v_26 := is_t c_17
                  have u_27 := rg_e (m_X8_isIn last 0 120000)
                  have v_28 := cv_ne c_18
                  have u_29 := rg_e last
                  have v_30 := is_t c_18
                  have v_31 := cv_nlt c_19
                  have w_32 := hL.2.2.2.2.2
                  exact vp_in_iff.mpr (by omega)
                refine mm_zald (v := (q.1 19 (Int32.toNatClampNeg h))) hx hb hK hW 19 8 rfl b_20 ((rfl)) dX8_hold_108 ?_
                refine lv_if_ne (tgt := 120) hx hb dX8_hold_109 (by decide) (fun c_21 => ?_) (fun c_21 => ?_)
                · refine lv_iconst (v := 3) hx hb dX8_hold_120 (by decide) ?_
                  refine lv_goto (tgt := 125) hx hb dX8_hold_121 (by decide) ?_
                  refine mm_put hx hb hts hin hown hK hW hS 0 (by decide) (List.mem_of_getElem? (i := 3) rfl) rfl rfl (by decide +kernel) rfl (ws_0 ad _ _) dX8_hold_125 (fun H locs hW hS => ?_)
                  refine lv_aload_n hx hb dX8_hold_128 rfl (lv_at hl 2 rfl) ?_
                  refine mm_gets (v := 3) hx hb hts hin hown hK hW 0 (by decide) (List.mem_of_getElem? (i := 3) rfl) rfl rfl (mq_same q 0 0 3) dX8_hold_129 ?_
                  refine lv_if_ne (tgt := 193) hx hb dX8_hold_132 (by decide) (fun _ => ?_) (fun h => absurd h (by decide))
                  exact mm_vret hx hb hr hlk hK hW hS (by rw [m_X8_hold, if_neg c_1, if_neg c_6, if_neg c_11, if_neg c_16, if_neg c_17, if_neg c_18, if_neg c_19, if_neg c_21]) dX8_hold_193
                · refine lv_aload_n hx hb dX8_hold_112 rfl (lv_at hl 2 rfl) ?_
                  refine lv_iconst (v := 1) hx hb dX8_hold_113 (by decide) ?_
                  refine mm_callVi (n := 1) (As := [.int 1]) (rest := [.ref (ad 20 0)]) (r := (m_X8_hasRoom q 1)) (q2 := q) ⟨hx, hb, hml, hown, hts⟩ (c_X8_hasRoom l D b0 Pc cA ad q 1) gX8_hold_X8_hasRoom rfl (by decide +kernel) rfl ⟨Nat.le_of_ble_eq_true rfl, Nat.le_of_ble_eq_true rfl⟩ ⟨Nat.le_of_ble_eq_true rfl, Nat.le_of_ble_eq_true rfl⟩ hK hW hS hl.1 rfl (Nat.le_of_ble_eq_true rfl) dX8_hold_114 (fun H locs hW hS => ?_)
                  refine lv_if_ne (tgt := 124) hx hb dX8_hold_117 (by decide) (fun c_22 => ?_) (fun c_22 => ?_)
                  · refine lv_iconst (v := 0) hx hb dX8_hold_124 (by decide) ?_
                    refine mm_put hx hb hts hin hown hK hW hS 0 (by decide) (List.mem_of_getElem? (i := 3) rfl) rfl rfl (by decide +kernel) rfl (ws_0 ad _ _) dX8_hold_125 (fun H locs hW hS => ?_)
                    refine lv_aload_n hx hb dX8_hold_128 rfl (lv_at hl 2 rfl) ?_
                    refine mm_gets (v := 0) hx hb hts hin hown hK hW 0 (by decide) (List.mem_of_getElem? (i := 3) rfl) rfl rfl (mq_same q 0 0 0) dX8_hold_129 ?_
                    refine lv_if_ne (tgt := 193) hx hb dX8_hold_132 (by decide) (fun h => absurd h (by decide)) (fun _ => ?_)
                    refine lv_aload_n hx hb dX8_hold_135 rfl (lv_at hl 2 rfl) ?_
                    refine mm_get (v := .ref (ad 21 19)) hx hb hts hin hown hK hW 19 (by decide) (List.mem_of_getElem? (i := 2) rfl) rfl rfl dX8_hold_136 ?_
                    refine lv_iload_n hx hb dX8_hold_139 rfl (lv_at hl 3 rfl) ?_
                    refine lv_iconst (v := 1) hx hb dX8_hold_140 (by decide) ?_
                    have b_23 : vp_in h 8 := by
                      have u_1 := rg_e h
                      have u_2 := rg_e (m_X8_isIn h 0 7)
                      have k_3 : (0 : Int32).toInt = 0 := rfl
                      have v_4 := cv_ne c_1
                      have k_5 : (7 : Int32).toInt = 7 := rfl
                      have v_6 := is_t c_1
                      have u_7 := rg_e (m_X8_isIn f (-1) 15)
                      have v_8 := cv_ne c_6
                      have u_9 := rg_e f
                      have k_10 : ((-1) : Int32).toInt = -1 := rfl
                      have k_11 : (15 : Int32).toInt = 15 := rfl
                      have v_12 := is_t c_6
                      have u_13 := rg_e (m_X8_isIn cl (-1) 7)
                      have v_14 := cv_ne c_11
                      have u_15 := rg_e cl
                      have v_16 := is_t c_11
                      have u_17 := rg_e (m_X8_isIn key (-1) 99)
                      have v_18 := cv_ne c_16
                      have u_19 := rg_e key
                      have k_20 : (99 : Int32).toInt = 99 := rfl
                      have v_21 := is_t c_16
                      have u_22 := rg_e (m_X8_isIn first 0 120000)
                      have v_23 := cv_ne c_17
                      have u_24 := rg_e first
                      have k_25 : (120000 : Int32).toInt = 120000 := rfl
                      have v_26 := is_t c_17
                      have u_27 := rg_e (m_X8_isIn last 0 120000)
                      have v_28 := cv_ne c_18
                      have u_29 := rg_e last
                      have v_30 := is_t c_18
                      have v_31 := cv_nlt c_19
                      have u_32 := rg_e (q.1 19 (Int32.toNatClampNeg h))
                      have v_33 := cv_eq c_21
                      have u_34 := rg_e (m_X8_hasRoom q 1)
                      have v_35 := cv_ne c_22
                      have k_36 : (1 : Int32).toInt = 1 := rfl
                      have v_37 := hr_t c_22
                      have w_38 := hL.2.2.2.2.2
                      exact vp_in_iff.mpr (by omega)
                    refine mm_zast hx hb hK hW hS 19 8 rfl rfl b_23 dX8_hold_141 (fun H locs hW hS => ?_)
                    refine lv_aload_n hx hb dX8_hold_142 rfl (lv_at hl 2 rfl) ?_
                    refine mm_get (v := .ref (ad 21 20)) hx hb hts hin hown hK hW 20 (by decide) (List.mem_of_getElem? (i := 4) rfl) rfl rfl dX8_hold_143 ?_
                    refine lv_iload_n hx hb dX8_hold_146 rfl (lv_at hl 3 rfl) ?_
                    refine lv_iload_n hx hb dX8_hold_147 rfl (lv_at hl 4 rfl) ?_
                    have b_24 : vp_in h 8 := by
                      have u_1 := rg_e h
                      have u_2 := rg_e (m_X8_isIn h 0 7)
                      have k_3 : (0 : Int32).toInt = 0 := rfl
                      have v_4 := cv_ne c_1
                      have k_5 : (7 : Int32).toInt = 7 := rfl
                      have v_6 := is_t c_1
                      have u_7 := rg_e (m_X8_isIn f (-1) 15)
                      have v_8 := cv_ne c_6
                      have u_9 := rg_e f
                      have k_10 : ((-1) : Int32).toInt = -1 := rfl
                      have k_11 : (15 : Int32).toInt = 15 := rfl
                      have v_12 := is_t c_6
                      have u_13 := rg_e (m_X8_isIn cl (-1) 7)
                      have v_14 := cv_ne c_11
                      have u_15 := rg_e cl
                      have v_16 := is_t c_11
                      have u_17 := rg_e (m_X8_isIn key (-1) 99)
                      have v_18 := cv_ne c_16
                      have u_19 := rg_e key
                      have k_20 : (99 : Int32).toInt = 99 := rfl
                      have v_21 := is_t c_16
                      have u_22 := rg_e (m_X8_isIn first 0 120000)
                      have v_23 := cv_ne c_17
                      have u_24 := rg_e first
                      have k_25 : (120000 : Int32).toInt = 120000 := rfl
                      have v_26 := is_t c_17
                      have u_27 := rg_e (m_X8_isIn last 0 120000)
                      have v_28 := cv_ne c_18
                      have u_29 := rg_e last
                      have v_30 := is_t c_18
                      have v_31 := cv_nlt c_19
                      have u_32 := rg_e (q.1 19 (Int32.toNatClampNeg h))
                      have v_33 := cv_eq c_21
                      have u_34 := rg_e (m_X8_hasRoom q 1)
                      have v_35 := cv_ne c_22
                      have k_36 : (1 : Int32).toInt = 1 := rfl
                      have v_37 := hr_t c_22
                      have w_38 := hL.2.2.2.2.2
                      exact vp_in_iff.mpr (by omega)
                    refine mm_iast hx hb hK hW hS 20 8 rfl b_24 dX8_hold_148 (fun H locs hW hS => ?_)
                    refine lv_aload_n hx hb dX8_hold_149 rfl (lv_at hl 2 rfl) ?_
                    refine mm_get (v := .ref (ad 21 21)) hx hb hts hin hown hK hW 21 (by decide) (List.mem_of_getElem? (i := 5) rfl) rfl rfl dX8_hold_150 ?_
                    refine lv_iload_n hx hb dX8_hold_153 rfl (lv_at hl 3 rfl) ?_
                    refine lv_iload_n hx hb dX8_hold_154 rfl (lv_at hl 5 rfl) ?_
                    have b_25 : vp_in h 8 := by
                      have u_1 := rg_e h
                      have u_2 := rg_e (m_X8_isIn h 0 7)
                      have k_3 : (0 : Int32).toInt = 0 := rfl
                      have v_4 := cv_ne c_1
                      have k_5 : (7 : Int32).toInt = 7 := rfl
                      have v_6 := is_t c_1
                      have u_7 := rg_e (m_X8_isIn f (-1) 15)
                      have v_8 := cv_ne c_6
                      have u_9 := rg_e f
                      have k_10 : ((-1) : Int32).toInt = -1 := rfl
                      have k_11 : (15 : Int32).toInt = 15 := rfl
                      have v_12 := is_t c_6
                      have u_13 := rg_e (m_X8_isIn cl (-1) 7)
                      have v_14 := cv_ne c_11
                      have u_15 := rg_e cl
                      have v_16 := is_t c_11
                      have u_17 := rg_e (m_X8_isIn key (-1) 99)
                      have v_18 := cv_ne c_16
                      have u_19 := rg_e key
                      have k_20 : (99 : Int32).toInt = 99 := rfl
                      have v_21 := is_t c_16
                      have u_22 := rg_e (m_X8_isIn first 0 120000)
                      have v_23 := cv_ne c_17
                      have u_24 := rg_e first
                      have k_25 : (120000 : Int32).toInt = 120000 := rfl
                      have v_26 := is_t c_17
                      have u_27 := rg_e (m_X8_isIn last 0 120000)
                      have v_28 := cv_ne c_18
                      have u_29 := rg_e last
                      have v_30 := is_t c_18
                      have v_31 := cv_nlt c_19
                      have u_32 := rg_e (q.1 19 (Int32.toNatClampNeg h))
                      have v_33 := cv_eq c_21
                      have u_34 := rg_e (m_X8_hasRoom q 1)
                      have v_35 := cv_ne c_22
                      have k_36 : (1 : Int32).toInt = 1 := rfl
                      have v_37 := hr_t c_22
                      have w_38 := hL.2.2.2.2.2
                      exact vp_in_iff.mpr (by omega)
                    refine mm_iast hx hb hK hW hS 21 8 rfl b_25 dX8_hold_155 (fun H locs hW hS => ?_)
                    refine lv_aload_n hx hb dX8_hold_156 rfl (lv_at hl 2 rfl) ?_
                    refine mm_get (v := .ref (ad 21 22)) hx hb hts hin hown hK hW 22 (by decide) (List.mem_of_getElem? (i := 6) rfl) rfl rfl dX8_hold_157 ?_
                    refine lv_iload_n hx hb dX8_hold_160 rfl (lv_at hl 3 rfl) ?_
                    refine lv_iload hx hb dX8_hold_161 (lv_at hl 6 rfl) ?_
                    have b_26 : vp_in h 8 := by
                      have u_1 := rg_e h
                      have u_2 := rg_e (m_X8_isIn h 0 7)
                      have k_3 : (0 : Int32).toInt = 0 := rfl
                      have v_4 := cv_ne c_1
                      have k_5 : (7 : Int32).toInt = 7 := rfl
                      have v_6 := is_t c_1
                      have u_7 := rg_e (m_X8_isIn f (-1) 15)
                      have v_8 := cv_ne c_6
                      have u_9 := rg_e f
                      have k_10 : ((-1) : Int32).toInt = -1 := rfl
                      have k_11 : (15 : Int32).toInt = 15 := rfl
                      have v_12 := is_t c_6
                      have u_13 := rg_e (m_X8_isIn cl (-1) 7)
                      have v_14 := cv_ne c_11
                      have u_15 := rg_e cl
                      have v_16 := is_t c_11
                      have u_17 := rg_e (m_X8_isIn key (-1) 99)
                      have v_18 := cv_ne c_16
                      have u_19 := rg_e key
                      have k_20 : (99 : Int32).toInt = 99 := rfl
                      have v_21 := is_t c_16
                      have u_22 := rg_e (m_X8_isIn first 0 120000)
                      have v_23 := cv_ne c_17
                      have u_24 := rg_e first
                      have k_25 : (120000 : Int32).toInt = 120000 := rfl
                      have v_26 := is_t c_17
                      have u_27 := rg_e (m_X8_isIn last 0 120000)
                      have v_28 := cv_ne c_18
                      have u_29 := rg_e last
                      have v_30 := is_t c_18
                      have v_31 := cv_nlt c_19
                      have u_32 := rg_e (q.1 19 (Int32.toNatClampNeg h))
                      have v_33 := cv_eq c_21
                      have u_34 := rg_e (m_X8_hasRoom q 1)
                      have v_35 := cv_ne c_22
                      have k_36 : (1 : Int32).toInt = 1 := rfl
                      have v_37 := hr_t c_22
                      have w_38 := hL.2.2.2.2.2
                      exact vp_in_iff.mpr (by omega)
                    refine mm_iast hx hb hK hW hS 22 8 rfl b_26 dX8_hold_163 (fun H locs hW hS => ?_)
                    refine lv_aload_n hx hb dX8_hold_164 rfl (lv_at hl 2 rfl) ?_
                    refine mm_get (v := .ref (ad 21 23)) hx hb hts hin hown hK hW 23 (by decide) (List.mem_of_getElem? (i := 7) rfl) rfl rfl dX8_hold_165 ?_
                    refine lv_iload_n hx hb dX8_hold_168 rfl (lv_at hl 3 rfl) ?_
                    refine lv_iload hx hb dX8_hold_169 (lv_at hl 7 rfl) ?_
                    have b_27 : vp_in h 8 := by
                      have u_1 := rg_e h
                      have u_2 := rg_e (m_X8_isIn h 0 7)
                      have k_3 : (0 : Int32).toInt = 0 := rfl
                      have v_4 := cv_ne c_1
                      have k_5 : (7 : Int32).toInt = 7 := rfl
                      have v_6 := is_t c_1
                      have u_7 := rg_e (m_X8_isIn f (-1) 15)
                      have v_8 := cv_ne c_6
                      have u_9 := rg_e f
                      have k_10 : ((-1) : Int32).toInt = -1 := rfl
                      have k_11 : (15 : Int32).toInt = 15 := rfl
                      have v_12 := is_t c_6
                      have u_13 := rg_e (m_X8_isIn cl (-1) 7)
                      have v_14 := cv_ne c_11
                      have u_15 := rg_e cl
                      have v_16 := is_t c_11
                      have u_17 := rg_e (m_X8_isIn key (-1) 99)
                      have v_18 := cv_ne c_16
                      have u_19 := rg_e key
                      have k_20 : (99 : Int32).toInt = 99 := rfl
                      have v_21 := is_t c_16
                      have u_22 := rg_e (m_X8_isIn first 0 120000)
                      have v_23 := cv_ne c_17
                      have u_24 := rg_e first
                      have k_25 : (120000 : Int32).toInt = 120000 := rfl
                      have v_26 := is_t c_17
                      have u_27 := rg_e (m_X8_isIn last 0 120000)
                      have v_28 := cv_ne c_18
                      have u_29 := rg_e last
                      have v_30 := is_t c_18
                      have v_31 := cv_nlt c_19
                      have u_32 := rg_e (q.1 19 (Int32.toNatClampNeg h))
                      have v_33 := cv_eq c_21
                      have u_34 := rg_e (m_X8_hasRoom q 1)
                      have v_35 := cv_ne c_22
                      have k_36 : (1 : Int32).toInt = 1 := rfl
                      have v_37 := hr_t c_22
                      have w_38 := hL.2.2.2.2.2
                      exact vp_in_iff.mpr (by omega)
                    refine mm_iast hx hb hK hW hS 23 8 rfl b_27 dX8_hold_171 (fun H locs hW hS => ?_)
                    refine lv_aload_n hx hb dX8_hold_172 rfl (lv_at hl 2 rfl) ?_
                    refine mm_get (v := .ref (ad 21 24)) hx hb hts hin hown hK hW 24 (by decide) (List.mem_of_getElem? (i := 8) rfl) rfl rfl dX8_hold_173 ?_
                    refine lv_iload_n hx hb dX8_hold_176 rfl (lv_at hl 3 rfl) ?_
                    refine lv_iload hx hb dX8_hold_177 (lv_at hl 8 rfl) ?_
                    have b_28 : vp_in h 8 := by
                      have u_1 := rg_e h
                      have u_2 := rg_e (m_X8_isIn h 0 7)
                      have k_3 : (0 : Int32).toInt = 0 := rfl
                      have v_4 := cv_ne c_1
                      have k_5 : (7 : Int32).toInt = 7 := rfl
                      have v_6 := is_t c_1
                      have u_7 := rg_e (m_X8_isIn f (-1) 15)
                      have v_8 := cv_ne c_6
                      have u_9 := rg_e f
                      have k_10 : ((-1) : Int32).toInt = -1 := rfl
                      have k_11 : (15 : Int32).toInt = 15 := rfl
                      have v_12 := is_t c_6
                      have u_13 := rg_e (m_X8_isIn cl (-1) 7)
                      have v_14 := cv_ne c_11
                      have u_15 := rg_e cl
                      have v_16 := is_t c_11
                      have u_17 := rg_e (m_X8_isIn key (-1) 99)
                      have v_18 := cv_ne c_16
                      have u_19 := rg_e key
                      have k_20 : (99 : Int32).toInt = 99 := rfl
                      have v_21 := is_t c_16
                      have u_22 := rg_e (m_X8_isIn first 0 120000)
                      have v_23 := cv_ne c_17
                      have u_24 := rg_e first
                      have k_25 : (120000 : Int32).toInt = 120000 := rfl
                      have v_26 := is_t c_17
                      have u_27 := rg_e (m_X8_isIn last 0 120000)
                      have v_28 := cv_ne c_18
                      have u_29 := rg_e last
                      have v_30 := is_t c_18
                      have v_31 := cv_nlt c_19
                      have u_32 := rg_e (q.1 19 (Int32.toNatClampNeg h))
                      have v_33 := cv_eq c_21
                      have u_34 := rg_e (m_X8_hasRoom q 1)
                      have v_35 := cv_ne c_22
                      have k_36 : (1 : Int32).toInt = 1 := rfl
                      have v_37 := hr_t c_22
                      have w_38 := hL.2.2.2.2.2
                      exact vp_in_iff.mpr (by omega)
                    refine mm_iast hx hb hK hW hS 24 8 rfl b_28 dX8_hold_179 (fun H locs hW hS => ?_)
                    refine lv_aload_n hx hb dX8_hold_180 rfl (lv_at hl 2 rfl) ?_
                    refine lv_bipush (v := 6) hx hb dX8_hold_181 (by decide) ?_
                    refine lv_iload_n hx hb dX8_hold_183 rfl (lv_at hl 3 rfl) ?_
                    refine lv_iload_n hx hb dX8_hold_184 rfl (lv_at hl 4 rfl) ?_
                    refine lv_iconst (v := 1) hx hb dX8_hold_185 (by decide) ?_
                    refine lv_iadd hx hb dX8_hold_186 ?_
                    refine lv_iload_n hx hb dX8_hold_187 rfl (lv_at hl 5 rfl) ?_
                    refine lv_iconst (v := 1) hx hb dX8_hold_188 (by decide) ?_
                    refine lv_iadd hx hb dX8_hold_189 ?_
                    have h_29 : 0 ≤ ((mq_i (mq_i (mq_i (mq_i (mq_i (mq_i (mq_i q 0 0 0) 19 (Int32.toNatClampNeg h) 1) 20 (Int32.toNatClampNeg h) f) 21 (Int32.toNatClampNeg h) cl) 22 (Int32.toNatClampNeg h) key) 23 (Int32.toNatClampNeg h) first) 24 (Int32.toNatClampNeg h) last).1 31 0).toInt ∧ ((mq_i (mq_i (mq_i (mq_i (mq_i (mq_i (mq_i q 0 0 0) 19 (Int32.toNatClampNeg h) 1) 20 (Int32.toNatClampNeg h) f) 21 (Int32.toNatClampNeg h) cl) 22 (Int32.toNatClampNeg h) key) 23 (Int32.toNatClampNeg h) first) 24 (Int32.toNatClampNeg h) last).1 31 0).toInt ≤ 399 := by
                      rw [show (mq_i (mq_i (mq_i (mq_i (mq_i (mq_i (mq_i q 0 0 0) 19 (Int32.toNatClampNeg h) 1) 20 (Int32.toNatClampNeg h) f) 21 (Int32.toNatClampNeg h) cl) 22 (Int32.toNatClampNeg h) key) 23 (Int32.toNatClampNeg h) first) 24 (Int32.toNatClampNeg h) last).1 31 0 = (q.1 31 0) from ((mq_ne (by decide)).trans ((mq_ne (by decide)).trans ((mq_ne (by decide)).trans ((mq_ne (by decide)).trans ((mq_ne (by decide)).trans ((mq_ne (by decide)).trans (mq_ne (by decide))))))))]
                      have k_1 : (6 : Int32).toInt = 6 := rfl
                      have u_2 := rg_e h
                      have u_3 := rg_e f
                      have k_4 : (1 : Int32).toInt = 1 := rfl
                      have u_6 := rg_e cl
                      have u_8 := rg_e (m_X8_isIn h 0 7)
                      have k_9 : (0 : Int32).toInt = 0 := rfl
                      have v_10 := cv_ne c_1
                      have k_11 : (7 : Int32).toInt = 7 := rfl
                      have v_12 := is_t c_1
                      have u_13 := rg_e (m_X8_isIn f (-1) 15)
                      have v_14 := cv_ne c_6
                      have k_15 : ((-1) : Int32).toInt = -1 := rfl
                      have k_16 : (15 : Int32).toInt = 15 := rfl
                      have v_17 := is_t c_6
                      have u_18 := rg_e (m_X8_isIn cl (-1) 7)
                      have v_19 := cv_ne c_11
                      have v_20 := is_t c_11
                      have u_21 := rg_e (m_X8_isIn key (-1) 99)
                      have v_22 := cv_ne c_16
                      have u_23 := rg_e key
                      have k_24 : (99 : Int32).toInt = 99 := rfl
                      have v_25 := is_t c_16
                      have u_26 := rg_e (m_X8_isIn first 0 120000)
                      have v_27 := cv_ne c_17
                      have u_28 := rg_e first
                      have k_29 : (120000 : Int32).toInt = 120000 := rfl
                      have v_30 := is_t c_17
                      have u_31 := rg_e (m_X8_isIn last 0 120000)
                      have v_32 := cv_ne c_18
                      have u_33 := rg_e last
                      have v_34 := is_t c_18
                      have v_35 := cv_nlt c_19
                      have u_36 := rg_e (q.1 19 (Int32.toNatClampNeg h))
                      have v_37 := cv_eq c_21
                      have u_38 := rg_e (m_X8_hasRoom q 1)
                      have v_39 := cv_ne c_22
                      have v_40 := hr_t c_22
                      have w_41 := hL.2.2.2.2.2
                      have u_5 := ad_o f 1
                      have u_7 := ad_o cl 1
                      exact by omega
                    have h_30 : 0 ≤ ((mq_i (mq_i (mq_i (mq_i (mq_i (mq_i (mq_i q 0 0 0) 19 (Int32.toNatClampNeg h) 1) 20 (Int32.toNatClampNeg h) f) 21 (Int32.toNatClampNeg h) cl) 22 (Int32.toNatClampNeg h) key) 23 (Int32.toNatClampNeg h) first) 24 (Int32.toNatClampNeg h) last).1 12 0).toInt ∧ ((mq_i (mq_i (mq_i (mq_i (mq_i (mq_i (mq_i q 0 0 0) 19 (Int32.toNatClampNeg h) 1) 20 (Int32.toNatClampNeg h) f) 21 (Int32.toNatClampNeg h) cl) 22 (Int32.toNatClampNeg h) key) 23 (Int32.toNatClampNeg h) first) 24 (Int32.toNatClampNeg h) last).1 12 0).toInt ≤ 64 := by
                      rw [show (mq_i (mq_i (mq_i (mq_i (mq_i (mq_i (mq_i q 0 0 0) 19 (Int32.toNatClampNeg h) 1) 20 (Int32.toNatClampNeg h) f) 21 (Int32.toNatClampNeg h) cl) 22 (Int32.toNatClampNeg h) key) 23 (Int32.toNatClampNeg h) first) 24 (Int32.toNatClampNeg h) last).1 12 0 = (q.1 12 0) from ((mq_ne (by decide)).trans ((mq_ne (by decide)).trans ((mq_ne (by decide)).trans ((mq_ne (by decide)).trans ((mq_ne (by decide)).trans ((mq_ne (by decide)).trans (mq_ne (by decide))))))))]
                      exact hI.2.2.2.1
                    refine mm_callVv (n := 4) (As := [.int 6, .int h, .int (f + 1), .int (cl + 1)]) (rest := []) (q2 := (m_X8_write (mq_i (mq_i (mq_i (mq_i (mq_i (mq_i (mq_i q 0 0 0) 19 (Int32.toNatClampNeg h) 1) 20 (Int32.toNatClampNeg h) f) 21 (Int32.toNatClampNeg h) cl) 22 (Int32.toNatClampNeg h) key) 23 (Int32.toNatClampNeg h) first) 24 (Int32.toNatClampNeg h) last) 6 h (f + 1) (cl + 1))) ⟨hx, hb, hml, hown, hts⟩ (c_X8_write l D b0 Pc cA ad (mq_i (mq_i (mq_i (mq_i (mq_i (mq_i (mq_i q 0 0 0) 19 (Int32.toNatClampNeg h) 1) 20 (Int32.toNatClampNeg h) f) 21 (Int32.toNatClampNeg h) cl) 22 (Int32.toNatClampNeg h) key) 23 (Int32.toNatClampNeg h) first) 24 (Int32.toNatClampNeg h) last) 6 h (f + 1) (cl + 1) h_29 h_30) gX8_hold_X8_write rfl (by decide +kernel) rfl ⟨Nat.le_of_ble_eq_true rfl, Nat.le_of_ble_eq_true rfl⟩ ⟨Nat.le_of_ble_eq_true rfl, Nat.le_of_ble_eq_true rfl⟩ hK hW hS hl.1 rfl (Nat.le_of_ble_eq_true rfl) dX8_hold_190 (fun H locs hW hS => ?_)
                    exact mm_vret hx hb hr hlk hK hW hS (by rw [m_X8_hold, if_neg c_1, if_neg c_6, if_neg c_11, if_neg c_16, if_neg c_17, if_neg c_18, if_neg c_19, if_pos c_21, if_neg c_22]) dX8_hold_193
                  · refine lv_iconst (v := 3) hx hb dX8_hold_120 (by decide) ?_
                    refine lv_goto (tgt := 125) hx hb dX8_hold_121 (by decide) ?_
                    refine mm_put hx hb hts hin hown hK hW hS 0 (by decide) (List.mem_of_getElem? (i := 3) rfl) rfl rfl (by decide +kernel) rfl (ws_0 ad _ _) dX8_hold_125 (fun H locs hW hS => ?_)
                    refine lv_aload_n hx hb dX8_hold_128 rfl (lv_at hl 2 rfl) ?_
                    refine mm_gets (v := 3) hx hb hts hin hown hK hW 0 (by decide) (List.mem_of_getElem? (i := 3) rfl) rfl rfl (mq_same q 0 0 3) dX8_hold_129 ?_
                    refine lv_if_ne (tgt := 193) hx hb dX8_hold_132 (by decide) (fun _ => ?_) (fun h => absurd h (by decide))
                    exact mm_vret hx hb hr hlk hK hW hS (by rw [m_X8_hold, if_neg c_1, if_neg c_6, if_neg c_11, if_neg c_16, if_neg c_17, if_neg c_18, if_neg c_19, if_pos c_21, if_pos c_22]) dX8_hold_193

def m_X8_lift (q : qM) (h : Int32) : qM := (if (m_X8_isIn h 0 7) = 0 then (mq_i q 0 0 1) else (if (q.1 19 (Int32.toNatClampNeg h)) = 0 then (mq_i q 0 0 2) else (if (m_X8_hasRoom q 1) = 0 then (mq_i q 0 0 2) else (m_X8_write (mq_i (mq_i q 0 0 0) 19 (Int32.toNatClampNeg h) 0) 7 h 0 0))))
set_option maxHeartbeats 4000000 in
set_option maxRecDepth 100000 in
theorem c_X8_lift (l : Launch) (D : va_G) (b0 : Nat) (Pc : Nat → Nat → Option va_E) (cA : Nat → ClassId) (ad : Nat → Nat → Nat) (q : qM) (h : Int32) (hI : gI q) (hL : lI q) : mc_v l yX8_lift wsX8_lift 3 74 D b0 Pc cA ad q [.ref (ad 20 0), .int h] (m_X8_lift q h) := by
  refine mc_of (by decide) rfl (Nat.le_of_ble_eq_true rfl) ?_
  intro p e s m below meth c hx hb hml hr hlk hown hts hK hW ls hl
  have hown : s.vm.findClass RX8 = some m.cls := hown
  have hS : va_S (wA b0) s.heap s.heap [] := va_S.rf
  have hl : lv_has ls 2 [(0, .ref (ad 20 0)), (1, .int h)] := hl
  have hin : ∀ w ∈ wsX80, w ∈ wsX8_lift := fun w h => List.mem_cons_of_mem _ (List.mem_append_right _ h)
  refine lv_aload_n hx hb dX8_lift_0 rfl (lv_at hl 0 rfl) ?_
  refine lv_iload_n hx hb dX8_lift_1 rfl (lv_at hl 1 rfl) ?_
  refine lv_iconst (v := 0) hx hb dX8_lift_2 (by decide) ?_
  refine lv_bipush (v := 7) hx hb dX8_lift_3 (by decide) ?_
  refine mm_callSi (n := 3) (As := [.int h, .int 0, .int 7]) (rest := [.ref (ad 20 0)]) (r := (m_X8_isIn h 0 7)) (q2 := q) ⟨hx, hb, hml, hown, hts⟩ (c_X8_isIn l D b0 Pc cA ad q h 0 7) gX8_lift_X8_isIn rfl (by decide +kernel) rfl ⟨Nat.le_of_ble_eq_true rfl, Nat.le_of_ble_eq_true rfl⟩ ⟨Nat.le_of_ble_eq_true rfl, Nat.le_of_ble_eq_true rfl⟩ hK hW hS hl.1 rfl (Nat.le_of_ble_eq_true rfl) dX8_lift_5 (fun H locs hW hS => ?_)
  refine lv_if_ne (tgt := 15) hx hb dX8_lift_8 (by decide) (fun c_1 => ?_) (fun c_1 => ?_)
  · refine lv_aload_n hx hb dX8_lift_15 rfl (lv_at hl 0 rfl) ?_
    refine mm_get (v := .ref (ad 21 19)) hx hb hts hin hown hK hW 19 (by decide) (List.mem_of_getElem? (i := 1) rfl) rfl rfl dX8_lift_16 ?_
    refine lv_iload_n hx hb dX8_lift_19 rfl (lv_at hl 1 rfl) ?_
    have b_2 : vp_in h 8 := by
      have u_1 := rg_e h
      have u_2 := rg_e (m_X8_isIn h 0 7)
      have k_3 : (0 : Int32).toInt = 0 := rfl
      have v_4 := cv_ne c_1
      have k_5 : (7 : Int32).toInt = 7 := rfl
      have v_6 := is_t c_1
      have w_7 := hL.2.2.2.2.2
      exact vp_in_iff.mpr (by omega)
    refine mm_zald (v := (q.1 19 (Int32.toNatClampNeg h))) hx hb hK hW 19 8 rfl b_2 ((rfl)) dX8_lift_20 ?_
    refine lv_if_eq (tgt := 32) hx hb dX8_lift_21 (by decide) (fun c_3 => ?_) (fun c_3 => ?_)
    · refine lv_iconst (v := 2) hx hb dX8_lift_32 (by decide) ?_
      refine lv_goto (tgt := 37) hx hb dX8_lift_33 (by decide) ?_
      refine mm_put hx hb hts hin hown hK hW hS 0 (by decide) (List.mem_of_getElem? (i := 2) rfl) rfl rfl (by decide +kernel) rfl (ws_0 ad _ _) dX8_lift_37 (fun H locs hW hS => ?_)
      refine lv_aload_n hx hb dX8_lift_40 rfl (lv_at hl 0 rfl) ?_
      refine mm_gets (v := 2) hx hb hts hin hown hK hW 0 (by decide) (List.mem_of_getElem? (i := 2) rfl) rfl rfl (mq_same q 0 0 2) dX8_lift_41 ?_
      refine lv_if_ne (tgt := 63) hx hb dX8_lift_44 (by decide) (fun _ => ?_) (fun h => absurd h (by decide))
      exact mm_vret hx hb hr hlk hK hW hS (by rw [m_X8_lift, if_neg c_1, if_pos c_3]) dX8_lift_63
    · refine lv_aload_n hx hb dX8_lift_24 rfl (lv_at hl 0 rfl) ?_
      refine lv_iconst (v := 1) hx hb dX8_lift_25 (by decide) ?_
      refine mm_callVi (n := 1) (As := [.int 1]) (rest := [.ref (ad 20 0)]) (r := (m_X8_hasRoom q 1)) (q2 := q) ⟨hx, hb, hml, hown, hts⟩ (c_X8_hasRoom l D b0 Pc cA ad q 1) gX8_lift_X8_hasRoom rfl (by decide +kernel) rfl ⟨Nat.le_of_ble_eq_true rfl, Nat.le_of_ble_eq_true rfl⟩ ⟨Nat.le_of_ble_eq_true rfl, Nat.le_of_ble_eq_true rfl⟩ hK hW hS hl.1 rfl (Nat.le_of_ble_eq_true rfl) dX8_lift_26 (fun H locs hW hS => ?_)
      refine lv_if_ne (tgt := 36) hx hb dX8_lift_29 (by decide) (fun c_4 => ?_) (fun c_4 => ?_)
      · refine lv_iconst (v := 0) hx hb dX8_lift_36 (by decide) ?_
        refine mm_put hx hb hts hin hown hK hW hS 0 (by decide) (List.mem_of_getElem? (i := 2) rfl) rfl rfl (by decide +kernel) rfl (ws_0 ad _ _) dX8_lift_37 (fun H locs hW hS => ?_)
        refine lv_aload_n hx hb dX8_lift_40 rfl (lv_at hl 0 rfl) ?_
        refine mm_gets (v := 0) hx hb hts hin hown hK hW 0 (by decide) (List.mem_of_getElem? (i := 2) rfl) rfl rfl (mq_same q 0 0 0) dX8_lift_41 ?_
        refine lv_if_ne (tgt := 63) hx hb dX8_lift_44 (by decide) (fun h => absurd h (by decide)) (fun _ => ?_)
        refine lv_aload_n hx hb dX8_lift_47 rfl (lv_at hl 0 rfl) ?_
        refine mm_get (v := .ref (ad 21 19)) hx hb hts hin hown hK hW 19 (by decide) (List.mem_of_getElem? (i := 1) rfl) rfl rfl dX8_lift_48 ?_
        refine lv_iload_n hx hb dX8_lift_51 rfl (lv_at hl 1 rfl) ?_
        refine lv_iconst (v := 0) hx hb dX8_lift_52 (by decide) ?_
        have b_5 : vp_in h 8 := by
          have u_1 := rg_e h
          have u_2 := rg_e (m_X8_isIn h 0 7)
          have k_3 : (0 : Int32).toInt = 0 := rfl
          have v_4 := cv_ne c_1
          have k_5 : (7 : Int32).toInt = 7 := rfl
          have v_6 := is_t c_1
          have u_7 := rg_e (q.1 19 (Int32.toNatClampNeg h))
          have v_8 := cv_ne c_3
          have u_9 := rg_e (m_X8_hasRoom q 1)
          have v_10 := cv_ne c_4
          have k_11 : (1 : Int32).toInt = 1 := rfl
          have v_12 := hr_t c_4
          have w_13 := hL.2.2.2.2.2
          exact vp_in_iff.mpr (by omega)
        refine mm_zast hx hb hK hW hS 19 8 rfl rfl b_5 dX8_lift_53 (fun H locs hW hS => ?_)
        refine lv_aload_n hx hb dX8_lift_54 rfl (lv_at hl 0 rfl) ?_
        refine lv_bipush (v := 7) hx hb dX8_lift_55 (by decide) ?_
        refine lv_iload_n hx hb dX8_lift_57 rfl (lv_at hl 1 rfl) ?_
        refine lv_iconst (v := 0) hx hb dX8_lift_58 (by decide) ?_
        refine lv_iconst (v := 0) hx hb dX8_lift_59 (by decide) ?_
        have h_6 : 0 ≤ ((mq_i (mq_i q 0 0 0) 19 (Int32.toNatClampNeg h) 0).1 31 0).toInt ∧ ((mq_i (mq_i q 0 0 0) 19 (Int32.toNatClampNeg h) 0).1 31 0).toInt ≤ 399 := by
          rw [show (mq_i (mq_i q 0 0 0) 19 (Int32.toNatClampNeg h) 0).1 31 0 = (q.1 31 0) from ((mq_ne (by decide)).trans (mq_ne (by decide)))]
          have k_1 : (7 : Int32).toInt = 7 := rfl
          have u_2 := rg_e h
          have k_3 : (0 : Int32).toInt = 0 := rfl
          have u_4 := rg_e (m_X8_isIn h 0 7)
          have v_5 := cv_ne c_1
          have v_6 := is_t c_1
          have u_7 := rg_e (q.1 19 (Int32.toNatClampNeg h))
          have v_8 := cv_ne c_3
          have u_9 := rg_e (m_X8_hasRoom q 1)
          have v_10 := cv_ne c_4
          have k_11 : (1 : Int32).toInt = 1 := rfl
          have v_12 := hr_t c_4
          have w_13 := hL.2.2.2.2.2
          exact by omega
        have h_7 : 0 ≤ ((mq_i (mq_i q 0 0 0) 19 (Int32.toNatClampNeg h) 0).1 12 0).toInt ∧ ((mq_i (mq_i q 0 0 0) 19 (Int32.toNatClampNeg h) 0).1 12 0).toInt ≤ 64 := by
          rw [show (mq_i (mq_i q 0 0 0) 19 (Int32.toNatClampNeg h) 0).1 12 0 = (q.1 12 0) from ((mq_ne (by decide)).trans (mq_ne (by decide)))]
          exact hI.2.2.2.1
        refine mm_callVv (n := 4) (As := [.int 7, .int h, .int 0, .int 0]) (rest := []) (q2 := (m_X8_write (mq_i (mq_i q 0 0 0) 19 (Int32.toNatClampNeg h) 0) 7 h 0 0)) ⟨hx, hb, hml, hown, hts⟩ (c_X8_write l D b0 Pc cA ad (mq_i (mq_i q 0 0 0) 19 (Int32.toNatClampNeg h) 0) 7 h 0 0 h_6 h_7) gX8_lift_X8_write rfl (by decide +kernel) rfl ⟨Nat.le_of_ble_eq_true rfl, Nat.le_of_ble_eq_true rfl⟩ ⟨Nat.le_of_ble_eq_true rfl, Nat.le_of_ble_eq_true rfl⟩ hK hW hS hl.1 rfl (Nat.le_of_ble_eq_true rfl) dX8_lift_60 (fun H locs hW hS => ?_)
        exact mm_vret hx hb hr hlk hK hW hS (by rw [m_X8_lift, if_neg c_1, if_neg c_3, if_neg c_4]) dX8_lift_63
      · refine lv_iconst (v := 2) hx hb dX8_lift_32 (by decide) ?_
        refine lv_goto (tgt := 37) hx hb dX8_lift_33 (by decide) ?_
        refine mm_put hx hb hts hin hown hK hW hS 0 (by decide) (List.mem_of_getElem? (i := 2) rfl) rfl rfl (by decide +kernel) rfl (ws_0 ad _ _) dX8_lift_37 (fun H locs hW hS => ?_)
        refine lv_aload_n hx hb dX8_lift_40 rfl (lv_at hl 0 rfl) ?_
        refine mm_gets (v := 2) hx hb hts hin hown hK hW 0 (by decide) (List.mem_of_getElem? (i := 2) rfl) rfl rfl (mq_same q 0 0 2) dX8_lift_41 ?_
        refine lv_if_ne (tgt := 63) hx hb dX8_lift_44 (by decide) (fun _ => ?_) (fun h => absurd h (by decide))
        exact mm_vret hx hb hr hlk hK hW hS (by rw [m_X8_lift, if_neg c_1, if_neg c_3, if_pos c_4]) dX8_lift_63
  · refine lv_iconst (v := 1) hx hb dX8_lift_11 (by decide) ?_
    refine lv_goto (tgt := 37) hx hb dX8_lift_12 (by decide) ?_
    refine mm_put hx hb hts hin hown hK hW hS 0 (by decide) (List.mem_of_getElem? (i := 2) rfl) rfl rfl (by decide +kernel) rfl (ws_0 ad _ _) dX8_lift_37 (fun H locs hW hS => ?_)
    refine lv_aload_n hx hb dX8_lift_40 rfl (lv_at hl 0 rfl) ?_
    refine mm_gets (v := 1) hx hb hts hin hown hK hW 0 (by decide) (List.mem_of_getElem? (i := 2) rfl) rfl rfl (mq_same q 0 0 1) dX8_lift_41 ?_
    refine lv_if_ne (tgt := 63) hx hb dX8_lift_44 (by decide) (fun _ => ?_) (fun h => absurd h (by decide))
    exact mm_vret hx hb hr hlk hK hW hS (by rw [m_X8_lift, if_pos c_1]) dX8_lift_63

def m_X8_hasRight (q : qM) (officer : Int32) (right : Int32) : Int32 := (if ((q.1 1 (Int32.toNatClampNeg officer)) &&& right) = 0 then 0 else 1)
set_option maxHeartbeats 4000000 in
set_option maxRecDepth 100000 in
theorem c_X8_hasRight (l : Launch) (D : va_G) (b0 : Nat) (Pc : Nat → Nat → Option va_E) (cA : Nat → ClassId) (ad : Nat → Nat → Nat) (q : qM) (officer : Int32) (right : Int32) (ho : 0 ≤ (officer : Int32).toInt ∧ (officer : Int32).toInt ≤ 7) : mc_i l yX8_hasRight wsX8_hasRight 0 0 D b0 Pc cA ad q [.ref (ad 20 0), .int officer, .int right] (m_X8_hasRight q officer right, q) := by
  refine mc_of (by decide) rfl (Nat.le_of_ble_eq_true rfl) ?_
  intro p e s m below meth c hx hb hml hr hlk hown hts hK hW ls hl
  have hown : s.vm.findClass RX8 = some m.cls := hown
  have hS : va_S (wA b0) s.heap s.heap [] := va_S.rf
  have hl : lv_has ls 3 [(0, .ref (ad 20 0)), (1, .int officer), (2, .int right)] := hl
  have hin : ∀ w ∈ wsX80, w ∈ wsX8_hasRight := fun w h => List.mem_cons_of_mem _ (List.mem_append_right _ h)
  refine lv_aload_n hx hb dX8_hasRight_0 rfl (lv_at hl 0 rfl) ?_
  refine mm_get (v := .ref (ad 21 1)) hx hb hts hin hown hK hW 1 (by decide) (List.mem_of_getElem? (i := 1) rfl) rfl rfl dX8_hasRight_1 ?_
  refine lv_iload_n hx hb dX8_hasRight_4 rfl (lv_at hl 1 rfl) ?_
  have b_1 : vp_in officer 8 := by
    have u_1 := rg_e officer
    have w_2 := ho
    exact vp_in_iff.mpr (by omega)
  refine mm_iald (v := (q.1 1 (Int32.toNatClampNeg officer))) hx hb hK hW 1 8 rfl b_1 ((rfl)) dX8_hasRight_5 ?_
  refine lv_iload_n hx hb dX8_hasRight_6 rfl (lv_at hl 2 rfl) ?_
  refine lv_iand hx hb dX8_hasRight_7 ?_
  refine lv_if_eq (tgt := 15) hx hb dX8_hasRight_8 (by decide) (fun c_2 => ?_) (fun c_2 => ?_)
  · refine lv_iconst (v := 0) hx hb dX8_hasRight_15 (by decide) ?_
    exact mm_zret hx hb hr hlk hK hW hS rfl (by rw [m_X8_hasRight, if_pos c_2]) dX8_hasRight_16
  · refine lv_iconst (v := 1) hx hb dX8_hasRight_11 (by decide) ?_
    refine lv_goto (tgt := 16) hx hb dX8_hasRight_12 (by decide) ?_
    exact mm_zret hx hb hr hlk hK hW hS rfl (by rw [m_X8_hasRight, if_neg c_2]) dX8_hasRight_16

def m_X8_listed (q : qM) (li : Int32) (i : Int32) : Int32 × qM := (if (m_X8_noList q li) = 0 then (if 0 ≤ i then (if (q.1 27 (Int32.toNatClampNeg li)) ≤ i then ((-1), (mq_i q 0 0 0)) else ((q.1 26 (Int32.toNatClampNeg ((64 * li) + i))), (mq_i q 0 0 0))) else (0, (mq_i q 0 0 1))) else (0, (mq_i q 0 0 1)))
set_option maxHeartbeats 4000000 in
set_option maxRecDepth 100000 in
theorem c_X8_listed (l : Launch) (D : va_G) (b0 : Nat) (Pc : Nat → Nat → Option va_E) (cA : Nat → ClassId) (ad : Nat → Nat → Nat) (q : qM) (li : Int32) (i : Int32) (hL : lI q) : mc_i l yX8_listed wsX8_listed 2 43 D b0 Pc cA ad q [.ref (ad 20 0), .int li, .int i] (m_X8_listed q li i) := by
  refine mc_of (by decide) rfl (Nat.le_of_ble_eq_true rfl) ?_
  intro p e s m below meth c hx hb hml hr hlk hown hts hK hW ls hl
  have hown : s.vm.findClass RX8 = some m.cls := hown
  have hS : va_S (wA b0) s.heap s.heap [] := va_S.rf
  have hl : lv_has ls 3 [(0, .ref (ad 20 0)), (1, .int li), (2, .int i)] := hl
  have hin : ∀ w ∈ wsX80, w ∈ wsX8_listed := fun w h => List.mem_cons_of_mem _ (List.mem_append_right _ h)
  refine lv_aload_n hx hb dX8_listed_0 rfl (lv_at hl 0 rfl) ?_
  refine lv_aload_n hx hb dX8_listed_1 rfl (lv_at hl 0 rfl) ?_
  refine lv_iload_n hx hb dX8_listed_2 rfl (lv_at hl 1 rfl) ?_
  refine mm_callVi (n := 1) (As := [.int li]) (rest := [.ref (ad 20 0)]) (r := (m_X8_noList q li)) (q2 := q) ⟨hx, hb, hml, hown, hts⟩ (c_X8_noList l D b0 Pc cA ad q li) gX8_listed_X8_noList rfl (by decide +kernel) rfl ⟨Nat.le_of_ble_eq_true rfl, Nat.le_of_ble_eq_true rfl⟩ ⟨Nat.le_of_ble_eq_true rfl, Nat.le_of_ble_eq_true rfl⟩ hK hW hS hl.1 rfl (Nat.le_of_ble_eq_true rfl) dX8_listed_3 (fun H locs hW hS => ?_)
  refine lv_if_ne (tgt := 13) hx hb dX8_listed_6 (by decide) (fun c_1 => ?_) (fun c_1 => ?_)
  · refine lv_iconst (v := 1) hx hb dX8_listed_13 (by decide) ?_
    refine lv_goto (tgt := 18) hx hb dX8_listed_14 (by decide) ?_
    refine mm_put hx hb hts hin hown hK hW hS 0 (by decide) (List.mem_of_getElem? (i := 1) rfl) rfl rfl (by decide +kernel) rfl (ws_0 ad _ _) dX8_listed_18 (fun H locs hW hS => ?_)
    refine lv_aload_n hx hb dX8_listed_21 rfl (lv_at hl 0 rfl) ?_
    refine mm_gets (v := 1) hx hb hts hin hown hK hW 0 (by decide) (List.mem_of_getElem? (i := 1) rfl) rfl rfl (mq_same q 0 0 1) dX8_listed_22 ?_
    refine lv_if_le (tgt := 32) hx hb dX8_listed_25 (by decide) (fun h => absurd h (by decide)) (fun _ => ?_)
    refine lv_iconst (v := 0) hx hb dX8_listed_28 (by decide) ?_
    refine lv_goto (tgt := 57) hx hb dX8_listed_29 (by decide) ?_
    exact mm_iret hx hb hr hlk hK hW hS (by rw [m_X8_listed, if_neg c_1]) dX8_listed_57
  · refine lv_iload_n hx hb dX8_listed_9 rfl (lv_at hl 2 rfl) ?_
    refine lv_if_ge (tgt := 17) hx hb dX8_listed_10 (by decide) (fun c_2 => ?_) (fun c_2 => ?_)
    · refine lv_iconst (v := 0) hx hb dX8_listed_17 (by decide) ?_
      refine mm_put hx hb hts hin hown hK hW hS 0 (by decide) (List.mem_of_getElem? (i := 1) rfl) rfl rfl (by decide +kernel) rfl (ws_0 ad _ _) dX8_listed_18 (fun H locs hW hS => ?_)
      refine lv_aload_n hx hb dX8_listed_21 rfl (lv_at hl 0 rfl) ?_
      refine mm_gets (v := 0) hx hb hts hin hown hK hW 0 (by decide) (List.mem_of_getElem? (i := 1) rfl) rfl rfl (mq_same q 0 0 0) dX8_listed_22 ?_
      refine lv_if_le (tgt := 32) hx hb dX8_listed_25 (by decide) (fun _ => ?_) (fun h => absurd h (by decide))
      refine lv_iload_n hx hb dX8_listed_32 rfl (lv_at hl 2 rfl) ?_
      refine lv_aload_n hx hb dX8_listed_33 rfl (lv_at hl 0 rfl) ?_
      refine mm_get (v := .ref (ad 21 27)) hx hb hts hin hown hK hW 27 (by decide) (List.mem_of_getElem? (i := 2) rfl) rfl rfl dX8_listed_34 ?_
      refine lv_iload_n hx hb dX8_listed_37 rfl (lv_at hl 1 rfl) ?_
      have b_3 : vp_in li 16 := by
        have u_1 := rg_e li
        have u_2 := rg_e (m_X8_noList q li)
        have k_3 : (0 : Int32).toInt = 0 := rfl
        have v_4 := cv_eq c_1
        have v_5 := nl_t hL c_1
        have u_6 := rg_e i
        have v_7 := cv_le c_2
        have w_8 := hL.2.1 (Int32.toNatClampNeg li)
        exact vp_in_iff.mpr (by omega)
      refine mm_iald (v := (q.1 27 (Int32.toNatClampNeg li))) hx hb hK hW 27 16 rfl b_3 ((mq_ne (by decide))) dX8_listed_38 ?_
      refine lv_icmp_ge (tgt := 56) hx hb dX8_listed_39 (by decide) (fun c_4 => ?_) (fun c_4 => ?_)
      · refine lv_iconst (v := (-1)) hx hb dX8_listed_56 (by decide) ?_
        exact mm_iret hx hb hr hlk hK hW hS (by rw [m_X8_listed, if_pos c_1, if_pos c_2, if_pos c_4]) dX8_listed_57
      · refine lv_aload_n hx hb dX8_listed_42 rfl (lv_at hl 0 rfl) ?_
        refine mm_get (v := .ref (ad 21 26)) hx hb hts hin hown hK hW 26 (by decide) (List.mem_of_getElem? (i := 3) rfl) rfl rfl dX8_listed_43 ?_
        refine lv_bipush (v := 64) hx hb dX8_listed_46 (by decide) ?_
        refine lv_iload_n hx hb dX8_listed_48 rfl (lv_at hl 1 rfl) ?_
        refine lv_imul hx hb dX8_listed_49 ?_
        refine lv_iload_n hx hb dX8_listed_50 rfl (lv_at hl 2 rfl) ?_
        refine lv_iadd hx hb dX8_listed_51 ?_
        have b_5 : vp_in ((64 * li) + i) 1024 := by
          have k_1 : (64 : Int32).toInt = 64 := rfl
          have u_2 := rg_e li
          have u_4 := rg_e i
          have u_6 := rg_e (m_X8_noList q li)
          have k_7 : (0 : Int32).toInt = 0 := rfl
          have v_8 := cv_eq c_1
          have v_9 := nl_t hL c_1
          have v_10 := cv_le c_2
          have u_11 := rg_e (q.1 27 (Int32.toNatClampNeg li))
          have v_12 := cv_nle c_4
          have w_13 := hL.2.1 (Int32.toNatClampNeg li)
          have u_3 := mu_o 64 64 li rfl
          have u_5 := ad_o (64 * li) i
          exact vp_in_iff.mpr (by omega)
        refine mm_iald (v := (q.1 26 (Int32.toNatClampNeg ((64 * li) + i)))) hx hb hK hW 26 1024 rfl b_5 ((mq_ne (by decide))) dX8_listed_52 ?_
        refine lv_goto (tgt := 57) hx hb dX8_listed_53 (by decide) ?_
        exact mm_iret hx hb hr hlk hK hW hS (by rw [m_X8_listed, if_pos c_1, if_pos c_2, if_neg c_4]) dX8_listed_57
    · refine lv_iconst (v := 1) hx hb dX8_listed_13 (by decide) ?_
      refine lv_goto (tgt := 18) hx hb dX8_listed_14 (by decide) ?_
      refine mm_put hx hb hts hin hown hK hW hS 0 (by decide) (List.mem_of_getElem? (i := 1) rfl) rfl rfl (by decide +kernel) rfl (ws_0 ad _ _) dX8_listed_18 (fun H locs hW hS => ?_)
      refine lv_aload_n hx hb dX8_listed_21 rfl (lv_at hl 0 rfl) ?_
      refine mm_gets (v := 1) hx hb hts hin hown hK hW 0 (by decide) (List.mem_of_getElem? (i := 1) rfl) rfl rfl (mq_same q 0 0 1) dX8_listed_22 ?_
      refine lv_if_le (tgt := 32) hx hb dX8_listed_25 (by decide) (fun h => absurd h (by decide)) (fun _ => ?_)
      refine lv_iconst (v := 0) hx hb dX8_listed_28 (by decide) ?_
      refine lv_goto (tgt := 57) hx hb dX8_listed_29 (by decide) ?_
      exact mm_iret hx hb hr hlk hK hW hS (by rw [m_X8_listed, if_pos c_1, if_neg c_2]) dX8_listed_57

def m_X8_bits (set : Int32) : Int32 := ((((((((0 + ((set >>> ((0 : Int32) &&& 31)) &&& 1)) + ((set >>> ((1 : Int32) &&& 31)) &&& 1)) + ((set >>> ((2 : Int32) &&& 31)) &&& 1)) + ((set >>> ((3 : Int32) &&& 31)) &&& 1)) + ((set >>> ((4 : Int32) &&& 31)) &&& 1)) + ((set >>> ((5 : Int32) &&& 31)) &&& 1)) + ((set >>> ((6 : Int32) &&& 31)) &&& 1)) + ((set >>> ((7 : Int32) &&& 31)) &&& 1))
set_option maxHeartbeats 4000000 in
set_option maxRecDepth 100000 in
theorem c_X8_bits (l : Launch) (D : va_G) (b0 : Nat) (Pc : Nat → Nat → Option va_E) (cA : Nat → ClassId) (ad : Nat → Nat → Nat) (q : qM) (set : Int32) : mc_i l yX8_bits wsX8_bits 0 0 D b0 Pc cA ad q [.int set] (m_X8_bits set, q) := by
  refine mc_of (by decide) rfl (Nat.le_of_ble_eq_true rfl) ?_
  intro p e s m below meth c hx hb hml hr hlk hown hts hK hW ls hl
  have hown : s.vm.findClass RX8 = some m.cls := hown
  have hS : va_S (wA b0) s.heap s.heap [] := va_S.rf
  have hl : lv_has ls 3 [(0, .int set)] := hl
  refine lv_iconst (v := 0) hx hb dX8_bits_0 (by decide) ?_
  refine lv_istore_n (lv' := [(1, .int 0), (0, .int set)]) hx hb dX8_bits_1 rfl hl (by decide) rfl (fun ls hl => ?_)
  refine lv_iconst (v := 0) hx hb dX8_bits_2 (by decide) ?_
  refine lv_istore_n (lv' := [(2, .int 0), (1, .int 0), (0, .int set)]) hx hb dX8_bits_3 rfl hl (by decide) rfl (fun ls hl => ?_)
  refine lv_iload_n hx hb dX8_bits_4 rfl (lv_at hl 0 rfl) ?_
  refine lv_bipush (v := 8) hx hb dX8_bits_5 (by decide) ?_
  refine lv_icmp_ge (tgt := 24) hx hb dX8_bits_7 (by decide) (fun h => absurd h (by decide)) (fun _ => ?_)
  refine lv_iload_n hx hb dX8_bits_10 rfl (lv_at hl 1 rfl) ?_
  refine lv_iload_n hx hb dX8_bits_11 rfl (lv_at hl 2 rfl) ?_
  refine lv_iload_n hx hb dX8_bits_12 rfl (lv_at hl 0 rfl) ?_
  refine lv_ishr hx hb dX8_bits_13 ?_
  refine lv_iconst (v := 1) hx hb dX8_bits_14 (by decide) ?_
  refine lv_iand hx hb dX8_bits_15 ?_
  refine lv_iadd hx hb dX8_bits_16 ?_
  refine lv_istore_n (lv' := [(1, .int (0 + ((set >>> ((0 : Int32) &&& 31)) &&& 1))), (2, .int 0), (0, .int set)]) hx hb dX8_bits_17 rfl hl (by decide) rfl (fun ls hl => ?_)
  refine lv_iinc (v := 1) (lv' := [(2, .int 1), (1, .int (0 + ((set >>> ((0 : Int32) &&& 31)) &&& 1))), (0, .int set)]) hx hb dX8_bits_18 hl (k := 1) rfl (by first | rfl | decide) (by decide) rfl (fun ls hl => ?_)
  refine lv_goto (tgt := 4) hx hb dX8_bits_21 (by decide) ?_
  refine lv_iload_n hx hb dX8_bits_4 rfl (lv_at hl 0 rfl) ?_
  refine lv_bipush (v := 8) hx hb dX8_bits_5 (by decide) ?_
  refine lv_icmp_ge (tgt := 24) hx hb dX8_bits_7 (by decide) (fun h => absurd h (by decide)) (fun _ => ?_)
  refine lv_iload_n hx hb dX8_bits_10 rfl (lv_at hl 1 rfl) ?_
  refine lv_iload_n hx hb dX8_bits_11 rfl (lv_at hl 2 rfl) ?_
  refine lv_iload_n hx hb dX8_bits_12 rfl (lv_at hl 0 rfl) ?_
  refine lv_ishr hx hb dX8_bits_13 ?_
  refine lv_iconst (v := 1) hx hb dX8_bits_14 (by decide) ?_
  refine lv_iand hx hb dX8_bits_15 ?_
  refine lv_iadd hx hb dX8_bits_16 ?_
  refine lv_istore_n (lv' := [(1, .int ((0 + ((set >>> ((0 : Int32) &&& 31)) &&& 1)) + ((set >>> ((1 : Int32) &&& 31)) &&& 1))), (2, .int 1), (0, .int set)]) hx hb dX8_bits_17 rfl hl (by decide) rfl (fun ls hl => ?_)
  refine lv_iinc (v := 2) (lv' := [(2, .int 2), (1, .int ((0 + ((set >>> ((0 : Int32) &&& 31)) &&& 1)) + ((set >>> ((1 : Int32) &&& 31)) &&& 1))), (0, .int set)]) hx hb dX8_bits_18 hl (k := 1) rfl (by first | rfl | decide) (by decide) rfl (fun ls hl => ?_)
  refine lv_goto (tgt := 4) hx hb dX8_bits_21 (by decide) ?_
  refine lv_iload_n hx hb dX8_bits_4 rfl (lv_at hl 0 rfl) ?_
  refine lv_bipush (v := 8) hx hb dX8_bits_5 (by decide) ?_
  refine lv_icmp_ge (tgt := 24) hx hb dX8_bits_7 (by decide) (fun h => absurd h (by decide)) (fun _ => ?_)
  refine lv_iload_n hx hb dX8_bits_10 rfl (lv_at hl 1 rfl) ?_
  refine lv_iload_n hx hb dX8_bits_11 rfl (lv_at hl 2 rfl) ?_
  refine lv_iload_n hx hb dX8_bits_12 rfl (lv_at hl 0 rfl) ?_
  refine lv_ishr hx hb dX8_bits_13 ?_
  refine lv_iconst (v := 1) hx hb dX8_bits_14 (by decide) ?_
  refine lv_iand hx hb dX8_bits_15 ?_
  refine lv_iadd hx hb dX8_bits_16 ?_
  refine lv_istore_n (lv' := [(1, .int (((0 + ((set >>> ((0 : Int32) &&& 31)) &&& 1)) + ((set >>> ((1 : Int32) &&& 31)) &&& 1)) + ((set >>> ((2 : Int32) &&& 31)) &&& 1))), (2, .int 2), (0, .int set)]) hx hb dX8_bits_17 rfl hl (by decide) rfl (fun ls hl => ?_)
  refine lv_iinc (v := 3) (lv' := [(2, .int 3), (1, .int (((0 + ((set >>> ((0 : Int32) &&& 31)) &&& 1)) + ((set >>> ((1 : Int32) &&& 31)) &&& 1)) + ((set >>> ((2 : Int32) &&& 31)) &&& 1))), (0, .int set)]) hx hb dX8_bits_18 hl (k := 1) rfl (by first | rfl | decide) (by decide) rfl (fun ls hl => ?_)
  refine lv_goto (tgt := 4) hx hb dX8_bits_21 (by decide) ?_
  refine lv_iload_n hx hb dX8_bits_4 rfl (lv_at hl 0 rfl) ?_
  refine lv_bipush (v := 8) hx hb dX8_bits_5 (by decide) ?_
  refine lv_icmp_ge (tgt := 24) hx hb dX8_bits_7 (by decide) (fun h => absurd h (by decide)) (fun _ => ?_)
  refine lv_iload_n hx hb dX8_bits_10 rfl (lv_at hl 1 rfl) ?_
  refine lv_iload_n hx hb dX8_bits_11 rfl (lv_at hl 2 rfl) ?_
  refine lv_iload_n hx hb dX8_bits_12 rfl (lv_at hl 0 rfl) ?_
  refine lv_ishr hx hb dX8_bits_13 ?_
  refine lv_iconst (v := 1) hx hb dX8_bits_14 (by decide) ?_
  refine lv_iand hx hb dX8_bits_15 ?_
  refine lv_iadd hx hb dX8_bits_16 ?_
  refine lv_istore_n (lv' := [(1, .int ((((0 + ((set >>> ((0 : Int32) &&& 31)) &&& 1)) + ((set >>> ((1 : Int32) &&& 31)) &&& 1)) + ((set >>> ((2 : Int32) &&& 31)) &&& 1)) + ((set >>> ((3 : Int32) &&& 31)) &&& 1))), (2, .int 3), (0, .int set)]) hx hb dX8_bits_17 rfl hl (by decide) rfl (fun ls hl => ?_)
  refine lv_iinc (v := 4) (lv' := [(2, .int 4), (1, .int ((((0 + ((set >>> ((0 : Int32) &&& 31)) &&& 1)) + ((set >>> ((1 : Int32) &&& 31)) &&& 1)) + ((set >>> ((2 : Int32) &&& 31)) &&& 1)) + ((set >>> ((3 : Int32) &&& 31)) &&& 1))), (0, .int set)]) hx hb dX8_bits_18 hl (k := 1) rfl (by first | rfl | decide) (by decide) rfl (fun ls hl => ?_)
  refine lv_goto (tgt := 4) hx hb dX8_bits_21 (by decide) ?_
  refine lv_iload_n hx hb dX8_bits_4 rfl (lv_at hl 0 rfl) ?_
  refine lv_bipush (v := 8) hx hb dX8_bits_5 (by decide) ?_
  refine lv_icmp_ge (tgt := 24) hx hb dX8_bits_7 (by decide) (fun h => absurd h (by decide)) (fun _ => ?_)
  refine lv_iload_n hx hb dX8_bits_10 rfl (lv_at hl 1 rfl) ?_
  refine lv_iload_n hx hb dX8_bits_11 rfl (lv_at hl 2 rfl) ?_
  refine lv_iload_n hx hb dX8_bits_12 rfl (lv_at hl 0 rfl) ?_
  refine lv_ishr hx hb dX8_bits_13 ?_
  refine lv_iconst (v := 1) hx hb dX8_bits_14 (by decide) ?_
  refine lv_iand hx hb dX8_bits_15 ?_
  refine lv_iadd hx hb dX8_bits_16 ?_
  refine lv_istore_n (lv' := [(1, .int (((((0 + ((set >>> ((0 : Int32) &&& 31)) &&& 1)) + ((set >>> ((1 : Int32) &&& 31)) &&& 1)) + ((set >>> ((2 : Int32) &&& 31)) &&& 1)) + ((set >>> ((3 : Int32) &&& 31)) &&& 1)) + ((set >>> ((4 : Int32) &&& 31)) &&& 1))), (2, .int 4), (0, .int set)]) hx hb dX8_bits_17 rfl hl (by decide) rfl (fun ls hl => ?_)
  refine lv_iinc (v := 5) (lv' := [(2, .int 5), (1, .int (((((0 + ((set >>> ((0 : Int32) &&& 31)) &&& 1)) + ((set >>> ((1 : Int32) &&& 31)) &&& 1)) + ((set >>> ((2 : Int32) &&& 31)) &&& 1)) + ((set >>> ((3 : Int32) &&& 31)) &&& 1)) + ((set >>> ((4 : Int32) &&& 31)) &&& 1))), (0, .int set)]) hx hb dX8_bits_18 hl (k := 1) rfl (by first | rfl | decide) (by decide) rfl (fun ls hl => ?_)
  refine lv_goto (tgt := 4) hx hb dX8_bits_21 (by decide) ?_
  refine lv_iload_n hx hb dX8_bits_4 rfl (lv_at hl 0 rfl) ?_
  refine lv_bipush (v := 8) hx hb dX8_bits_5 (by decide) ?_
  refine lv_icmp_ge (tgt := 24) hx hb dX8_bits_7 (by decide) (fun h => absurd h (by decide)) (fun _ => ?_)
  refine lv_iload_n hx hb dX8_bits_10 rfl (lv_at hl 1 rfl) ?_
  refine lv_iload_n hx hb dX8_bits_11 rfl (lv_at hl 2 rfl) ?_
  refine lv_iload_n hx hb dX8_bits_12 rfl (lv_at hl 0 rfl) ?_
  refine lv_ishr hx hb dX8_bits_13 ?_
  refine lv_iconst (v := 1) hx hb dX8_bits_14 (by decide) ?_
  refine lv_iand hx hb dX8_bits_15 ?_
  refine lv_iadd hx hb dX8_bits_16 ?_
  refine lv_istore_n (lv' := [(1, .int ((((((0 + ((set >>> ((0 : Int32) &&& 31)) &&& 1)) + ((set >>> ((1 : Int32) &&& 31)) &&& 1)) + ((set >>> ((2 : Int32) &&& 31)) &&& 1)) + ((set >>> ((3 : Int32) &&& 31)) &&& 1)) + ((set >>> ((4 : Int32) &&& 31)) &&& 1)) + ((set >>> ((5 : Int32) &&& 31)) &&& 1))), (2, .int 5), (0, .int set)]) hx hb dX8_bits_17 rfl hl (by decide) rfl (fun ls hl => ?_)
  refine lv_iinc (v := 6) (lv' := [(2, .int 6), (1, .int ((((((0 + ((set >>> ((0 : Int32) &&& 31)) &&& 1)) + ((set >>> ((1 : Int32) &&& 31)) &&& 1)) + ((set >>> ((2 : Int32) &&& 31)) &&& 1)) + ((set >>> ((3 : Int32) &&& 31)) &&& 1)) + ((set >>> ((4 : Int32) &&& 31)) &&& 1)) + ((set >>> ((5 : Int32) &&& 31)) &&& 1))), (0, .int set)]) hx hb dX8_bits_18 hl (k := 1) rfl (by first | rfl | decide) (by decide) rfl (fun ls hl => ?_)
  refine lv_goto (tgt := 4) hx hb dX8_bits_21 (by decide) ?_
  refine lv_iload_n hx hb dX8_bits_4 rfl (lv_at hl 0 rfl) ?_
  refine lv_bipush (v := 8) hx hb dX8_bits_5 (by decide) ?_
  refine lv_icmp_ge (tgt := 24) hx hb dX8_bits_7 (by decide) (fun h => absurd h (by decide)) (fun _ => ?_)
  refine lv_iload_n hx hb dX8_bits_10 rfl (lv_at hl 1 rfl) ?_
  refine lv_iload_n hx hb dX8_bits_11 rfl (lv_at hl 2 rfl) ?_
  refine lv_iload_n hx hb dX8_bits_12 rfl (lv_at hl 0 rfl) ?_
  refine lv_ishr hx hb dX8_bits_13 ?_
  refine lv_iconst (v := 1) hx hb dX8_bits_14 (by decide) ?_
  refine lv_iand hx hb dX8_bits_15 ?_
  refine lv_iadd hx hb dX8_bits_16 ?_
  refine lv_istore_n (lv' := [(1, .int (((((((0 + ((set >>> ((0 : Int32) &&& 31)) &&& 1)) + ((set >>> ((1 : Int32) &&& 31)) &&& 1)) + ((set >>> ((2 : Int32) &&& 31)) &&& 1)) + ((set >>> ((3 : Int32) &&& 31)) &&& 1)) + ((set >>> ((4 : Int32) &&& 31)) &&& 1)) + ((set >>> ((5 : Int32) &&& 31)) &&& 1)) + ((set >>> ((6 : Int32) &&& 31)) &&& 1))), (2, .int 6), (0, .int set)]) hx hb dX8_bits_17 rfl hl (by decide) rfl (fun ls hl => ?_)
  refine lv_iinc (v := 7) (lv' := [(2, .int 7), (1, .int (((((((0 + ((set >>> ((0 : Int32) &&& 31)) &&& 1)) + ((set >>> ((1 : Int32) &&& 31)) &&& 1)) + ((set >>> ((2 : Int32) &&& 31)) &&& 1)) + ((set >>> ((3 : Int32) &&& 31)) &&& 1)) + ((set >>> ((4 : Int32) &&& 31)) &&& 1)) + ((set >>> ((5 : Int32) &&& 31)) &&& 1)) + ((set >>> ((6 : Int32) &&& 31)) &&& 1))), (0, .int set)]) hx hb dX8_bits_18 hl (k := 1) rfl (by first | rfl | decide) (by decide) rfl (fun ls hl => ?_)
  refine lv_goto (tgt := 4) hx hb dX8_bits_21 (by decide) ?_
  refine lv_iload_n hx hb dX8_bits_4 rfl (lv_at hl 0 rfl) ?_
  refine lv_bipush (v := 8) hx hb dX8_bits_5 (by decide) ?_
  refine lv_icmp_ge (tgt := 24) hx hb dX8_bits_7 (by decide) (fun h => absurd h (by decide)) (fun _ => ?_)
  refine lv_iload_n hx hb dX8_bits_10 rfl (lv_at hl 1 rfl) ?_
  refine lv_iload_n hx hb dX8_bits_11 rfl (lv_at hl 2 rfl) ?_
  refine lv_iload_n hx hb dX8_bits_12 rfl (lv_at hl 0 rfl) ?_
  refine lv_ishr hx hb dX8_bits_13 ?_
  refine lv_iconst (v := 1) hx hb dX8_bits_14 (by decide) ?_
  refine lv_iand hx hb dX8_bits_15 ?_
  refine lv_iadd hx hb dX8_bits_16 ?_
  refine lv_istore_n (lv' := [(1, .int ((((((((0 + ((set >>> ((0 : Int32) &&& 31)) &&& 1)) + ((set >>> ((1 : Int32) &&& 31)) &&& 1)) + ((set >>> ((2 : Int32) &&& 31)) &&& 1)) + ((set >>> ((3 : Int32) &&& 31)) &&& 1)) + ((set >>> ((4 : Int32) &&& 31)) &&& 1)) + ((set >>> ((5 : Int32) &&& 31)) &&& 1)) + ((set >>> ((6 : Int32) &&& 31)) &&& 1)) + ((set >>> ((7 : Int32) &&& 31)) &&& 1))), (2, .int 7), (0, .int set)]) hx hb dX8_bits_17 rfl hl (by decide) rfl (fun ls hl => ?_)
  refine lv_iinc (v := 8) (lv' := [(2, .int 8), (1, .int ((((((((0 + ((set >>> ((0 : Int32) &&& 31)) &&& 1)) + ((set >>> ((1 : Int32) &&& 31)) &&& 1)) + ((set >>> ((2 : Int32) &&& 31)) &&& 1)) + ((set >>> ((3 : Int32) &&& 31)) &&& 1)) + ((set >>> ((4 : Int32) &&& 31)) &&& 1)) + ((set >>> ((5 : Int32) &&& 31)) &&& 1)) + ((set >>> ((6 : Int32) &&& 31)) &&& 1)) + ((set >>> ((7 : Int32) &&& 31)) &&& 1))), (0, .int set)]) hx hb dX8_bits_18 hl (k := 1) rfl (by first | rfl | decide) (by decide) rfl (fun ls hl => ?_)
  refine lv_goto (tgt := 4) hx hb dX8_bits_21 (by decide) ?_
  refine lv_iload_n hx hb dX8_bits_4 rfl (lv_at hl 0 rfl) ?_
  refine lv_bipush (v := 8) hx hb dX8_bits_5 (by decide) ?_
  refine lv_icmp_ge (tgt := 24) hx hb dX8_bits_7 (by decide) (fun _ => ?_) (fun h => absurd h (by decide))
  refine lv_iload_n hx hb dX8_bits_24 rfl (lv_at hl 1 rfl) ?_
  exact mm_iret hx hb hr hlk hK hW hS (by rw [m_X8_bits]) dX8_bits_25

def m_X8_approve (q : qM) (li : Int32) (officer : Int32) : Int32 × qM := (if (m_X8_noList q li) = 0 then (if (m_X8_noOfficer officer) = 0 then (if (q.1 30 (Int32.toNatClampNeg li)) = 0 then (if (m_X8_hasRight q officer 2) = 0 then (0, (mq_i q 0 0 2)) else (if (q.1 28 (Int32.toNatClampNeg li)) = officer then (0, (mq_i q 0 0 2)) else (if (((q.1 29 (Int32.toNatClampNeg li)) >>> (officer &&& 31)) &&& 1) = 1 then (0, (mq_i q 0 0 2)) else (if (m_X8_hasRoom q 1) = 0 then (0, (mq_i q 0 0 2)) else ((m_X8_bits ((m_X8_write (mq_i (mq_i q 0 0 0) 29 (Int32.toNatClampNeg li) ((q.1 29 (Int32.toNatClampNeg li)) ||| ((1 : Int32) <<< (officer &&& 31)))) 9 li officer 0).1 29 (Int32.toNatClampNeg li))), (m_X8_write (mq_i (mq_i q 0 0 0) 29 (Int32.toNatClampNeg li) ((q.1 29 (Int32.toNatClampNeg li)) ||| ((1 : Int32) <<< (officer &&& 31)))) 9 li officer 0)))))) else (0, (mq_i q 0 0 2))) else (0, (mq_i q 0 0 1))) else (0, (mq_i q 0 0 1)))
set_option maxHeartbeats 4000000 in
set_option maxRecDepth 100000 in
theorem c_X8_approve (l : Launch) (D : va_G) (b0 : Nat) (Pc : Nat → Nat → Option va_E) (cA : Nat → ClassId) (ad : Nat → Nat → Nat) (q : qM) (li : Int32) (officer : Int32) (hI : gI q) (hL : lI q) : mc_i l yX8_approve wsX8_approve 3 74 D b0 Pc cA ad q [.ref (ad 20 0), .int li, .int officer] (m_X8_approve q li officer) := by
  refine mc_of (by decide) rfl (Nat.le_of_ble_eq_true rfl) ?_
  intro p e s m below meth c hx hb hml hr hlk hown hts hK hW ls hl
  have hown : s.vm.findClass RX8 = some m.cls := hown
  have hS : va_S (wA b0) s.heap s.heap [] := va_S.rf
  have hl : lv_has ls 3 [(0, .ref (ad 20 0)), (1, .int li), (2, .int officer)] := hl
  have hin : ∀ w ∈ wsX80, w ∈ wsX8_approve := fun w h => List.mem_cons_of_mem _ (List.mem_append_right _ h)
  refine lv_aload_n hx hb dX8_approve_0 rfl (lv_at hl 0 rfl) ?_
  refine lv_aload_n hx hb dX8_approve_1 rfl (lv_at hl 0 rfl) ?_
  refine lv_iload_n hx hb dX8_approve_2 rfl (lv_at hl 1 rfl) ?_
  refine mm_callVi (n := 1) (As := [.int li]) (rest := [.ref (ad 20 0)]) (r := (m_X8_noList q li)) (q2 := q) ⟨hx, hb, hml, hown, hts⟩ (c_X8_noList l D b0 Pc cA ad q li) gX8_approve_X8_noList rfl (by decide +kernel) rfl ⟨Nat.le_of_ble_eq_true rfl, Nat.le_of_ble_eq_true rfl⟩ ⟨Nat.le_of_ble_eq_true rfl, Nat.le_of_ble_eq_true rfl⟩ hK hW hS hl.1 rfl (Nat.le_of_ble_eq_true rfl) dX8_approve_3 (fun H locs hW hS => ?_)
  refine lv_if_ne (tgt := 17) hx hb dX8_approve_6 (by decide) (fun c_1 => ?_) (fun c_1 => ?_)
  · refine lv_iconst (v := 1) hx hb dX8_approve_17 (by decide) ?_
    refine lv_goto (tgt := 76) hx hb dX8_approve_18 (by decide) ?_
    refine mm_put hx hb hts hin hown hK hW hS 0 (by decide) (List.mem_of_getElem? (i := 4) rfl) rfl rfl (by decide +kernel) rfl (ws_0 ad _ _) dX8_approve_76 (fun H locs hW hS => ?_)
    refine lv_aload_n hx hb dX8_approve_79 rfl (lv_at hl 0 rfl) ?_
    refine mm_gets (v := 1) hx hb hts hin hown hK hW 0 (by decide) (List.mem_of_getElem? (i := 4) rfl) rfl rfl (mq_same q 0 0 1) dX8_approve_80 ?_
    refine lv_if_le (tgt := 88) hx hb dX8_approve_83 (by decide) (fun h => absurd h (by decide)) (fun _ => ?_)
    refine lv_iconst (v := 0) hx hb dX8_approve_86 (by decide) ?_
    exact mm_iret hx hb hr hlk hK hW hS (by rw [m_X8_approve, if_neg c_1]) dX8_approve_87
  · refine lv_aload_n hx hb dX8_approve_9 rfl (lv_at hl 0 rfl) ?_
    refine lv_iload_n hx hb dX8_approve_10 rfl (lv_at hl 2 rfl) ?_
    refine mm_callVi (n := 1) (As := [.int officer]) (rest := [.ref (ad 20 0)]) (r := (m_X8_noOfficer officer)) (q2 := q) ⟨hx, hb, hml, hown, hts⟩ (c_X8_noOfficer l D b0 Pc cA ad q officer) gX8_approve_X8_noOfficer rfl (by decide +kernel) rfl ⟨Nat.le_of_ble_eq_true rfl, Nat.le_of_ble_eq_true rfl⟩ ⟨Nat.le_of_ble_eq_true rfl, Nat.le_of_ble_eq_true rfl⟩ hK hW hS hl.1 rfl (Nat.le_of_ble_eq_true rfl) dX8_approve_11 (fun H locs hW hS => ?_)
    refine lv_if_eq (tgt := 21) hx hb dX8_approve_14 (by decide) (fun c_2 => ?_) (fun c_2 => ?_)
    · refine lv_aload_n hx hb dX8_approve_21 rfl (lv_at hl 0 rfl) ?_
      refine mm_get (v := .ref (ad 21 30)) hx hb hts hin hown hK hW 30 (by decide) (List.mem_of_getElem? (i := 1) rfl) rfl rfl dX8_approve_22 ?_
      refine lv_iload_n hx hb dX8_approve_25 rfl (lv_at hl 1 rfl) ?_
      have b_3 : vp_in li 16 := by
        have u_1 := rg_e li
        have u_2 := rg_e (m_X8_noList q li)
        have k_3 : (0 : Int32).toInt = 0 := rfl
        have v_4 := cv_eq c_1
        have v_5 := nl_t hL c_1
        have u_6 := rg_e (m_X8_noOfficer officer)
        have v_7 := cv_eq c_2
        have u_8 := rg_e officer
        have v_9 := no_t c_2
        have w_10 := hL.2.2.2.2.2
        exact vp_in_iff.mpr (by omega)
      refine mm_zald (v := (q.1 30 (Int32.toNatClampNeg li))) hx hb hK hW 30 16 rfl b_3 ((rfl)) dX8_approve_26 ?_
      refine lv_if_ne (tgt := 71) hx hb dX8_approve_27 (by decide) (fun c_4 => ?_) (fun c_4 => ?_)
      · refine lv_iconst (v := 2) hx hb dX8_approve_71 (by decide) ?_
        refine lv_goto (tgt := 76) hx hb dX8_approve_72 (by decide) ?_
        refine mm_put hx hb hts hin hown hK hW hS 0 (by decide) (List.mem_of_getElem? (i := 4) rfl) rfl rfl (by decide +kernel) rfl (ws_0 ad _ _) dX8_approve_76 (fun H locs hW hS => ?_)
        refine lv_aload_n hx hb dX8_approve_79 rfl (lv_at hl 0 rfl) ?_
        refine mm_gets (v := 2) hx hb hts hin hown hK hW 0 (by decide) (List.mem_of_getElem? (i := 4) rfl) rfl rfl (mq_same q 0 0 2) dX8_approve_80 ?_
        refine lv_if_le (tgt := 88) hx hb dX8_approve_83 (by decide) (fun h => absurd h (by decide)) (fun _ => ?_)
        refine lv_iconst (v := 0) hx hb dX8_approve_86 (by decide) ?_
        exact mm_iret hx hb hr hlk hK hW hS (by rw [m_X8_approve, if_pos c_1, if_pos c_2, if_neg c_4]) dX8_approve_87
      · refine lv_aload_n hx hb dX8_approve_30 rfl (lv_at hl 0 rfl) ?_
        refine lv_iload_n hx hb dX8_approve_31 rfl (lv_at hl 2 rfl) ?_
        refine lv_iconst (v := 2) hx hb dX8_approve_32 (by decide) ?_
        have h_5 : 0 ≤ (officer : Int32).toInt ∧ (officer : Int32).toInt ≤ 7 := by
          have u_1 := rg_e officer
          have k_2 : (2 : Int32).toInt = 2 := rfl
          have u_3 := rg_e (m_X8_noList q li)
          have k_4 : (0 : Int32).toInt = 0 := rfl
          have v_5 := cv_eq c_1
          have u_6 := rg_e li
          have v_7 := nl_t hL c_1
          have u_8 := rg_e (m_X8_noOfficer officer)
          have v_9 := cv_eq c_2
          have v_10 := no_t c_2
          have u_11 := rg_e (q.1 30 (Int32.toNatClampNeg li))
          have v_12 := cv_eq c_4
          have w_13 := hL.2.2.2.2.2
          exact by omega
        refine mm_callVi (n := 2) (As := [.int officer, .int 2]) (rest := [.ref (ad 20 0)]) (r := (m_X8_hasRight q officer 2)) (q2 := q) ⟨hx, hb, hml, hown, hts⟩ (c_X8_hasRight l D b0 Pc cA ad q officer 2 h_5) gX8_approve_X8_hasRight rfl (by decide +kernel) rfl ⟨Nat.le_of_ble_eq_true rfl, Nat.le_of_ble_eq_true rfl⟩ ⟨Nat.le_of_ble_eq_true rfl, Nat.le_of_ble_eq_true rfl⟩ hK hW hS hl.1 rfl (Nat.le_of_ble_eq_true rfl) dX8_approve_33 (fun H locs hW hS => ?_)
        refine lv_if_eq (tgt := 71) hx hb dX8_approve_36 (by decide) (fun c_6 => ?_) (fun c_6 => ?_)
        · refine lv_iconst (v := 2) hx hb dX8_approve_71 (by decide) ?_
          refine lv_goto (tgt := 76) hx hb dX8_approve_72 (by decide) ?_
          refine mm_put hx hb hts hin hown hK hW hS 0 (by decide) (List.mem_of_getElem? (i := 4) rfl) rfl rfl (by decide +kernel) rfl (ws_0 ad _ _) dX8_approve_76 (fun H locs hW hS => ?_)
          refine lv_aload_n hx hb dX8_approve_79 rfl (lv_at hl 0 rfl) ?_
          refine mm_gets (v := 2) hx hb hts hin hown hK hW 0 (by decide) (List.mem_of_getElem? (i := 4) rfl) rfl rfl (mq_same q 0 0 2) dX8_approve_80 ?_
          refine lv_if_le (tgt := 88) hx hb dX8_approve_83 (by decide) (fun h => absurd h (by decide)) (fun _ => ?_)
          refine lv_iconst (v := 0) hx hb dX8_approve_86 (by decide) ?_
          exact mm_iret hx hb hr hlk hK hW hS (by rw [m_X8_approve, if_pos c_1, if_pos c_2, if_pos c_4, if_pos c_6]) dX8_approve_87
        · refine lv_aload_n hx hb dX8_approve_39 rfl (lv_at hl 0 rfl) ?_
          refine mm_get (v := .ref (ad 21 28)) hx hb hts hin hown hK hW 28 (by decide) (List.mem_of_getElem? (i := 2) rfl) rfl rfl dX8_approve_40 ?_
          refine lv_iload_n hx hb dX8_approve_43 rfl (lv_at hl 1 rfl) ?_
          have b_7 : vp_in li 16 := by
            have u_1 := rg_e li
            have u_2 := rg_e (m_X8_noList q li)
            have k_3 : (0 : Int32).toInt = 0 := rfl
            have v_4 := cv_eq c_1
            have v_5 := nl_t hL c_1
            have u_6 := rg_e (m_X8_noOfficer officer)
            have v_7 := cv_eq c_2
            have u_8 := rg_e officer
            have v_9 := no_t c_2
            have u_10 := rg_e (q.1 30 (Int32.toNatClampNeg li))
            have v_11 := cv_eq c_4
            have u_12 := rg_e (m_X8_hasRight q officer 2)
            have v_13 := cv_ne c_6
            have w_14 := hL.2.2.2.2.2
            exact vp_in_iff.mpr (by omega)
          refine mm_iald (v := (q.1 28 (Int32.toNatClampNeg li))) hx hb hK hW 28 16 rfl b_7 ((rfl)) dX8_approve_44 ?_
          refine lv_iload_n hx hb dX8_approve_45 rfl (lv_at hl 2 rfl) ?_
          refine lv_icmp_eq (tgt := 71) hx hb dX8_approve_46 (by decide) (fun c_8 => ?_) (fun c_8 => ?_)
          · refine lv_iconst (v := 2) hx hb dX8_approve_71 (by decide) ?_
            refine lv_goto (tgt := 76) hx hb dX8_approve_72 (by decide) ?_
            refine mm_put hx hb hts hin hown hK hW hS 0 (by decide) (List.mem_of_getElem? (i := 4) rfl) rfl rfl (by decide +kernel) rfl (ws_0 ad _ _) dX8_approve_76 (fun H locs hW hS => ?_)
            refine lv_aload_n hx hb dX8_approve_79 rfl (lv_at hl 0 rfl) ?_
            refine mm_gets (v := 2) hx hb hts hin hown hK hW 0 (by decide) (List.mem_of_getElem? (i := 4) rfl) rfl rfl (mq_same q 0 0 2) dX8_approve_80 ?_
            refine lv_if_le (tgt := 88) hx hb dX8_approve_83 (by decide) (fun h => absurd h (by decide)) (fun _ => ?_)
            refine lv_iconst (v := 0) hx hb dX8_approve_86 (by decide) ?_
            exact mm_iret hx hb hr hlk hK hW hS (by rw [m_X8_approve, if_pos c_1, if_pos c_2, if_pos c_4, if_neg c_6, if_pos c_8]) dX8_approve_87
          · refine lv_aload_n hx hb dX8_approve_49 rfl (lv_at hl 0 rfl) ?_
            refine mm_get (v := .ref (ad 21 29)) hx hb hts hin hown hK hW 29 (by decide) (List.mem_of_getElem? (i := 3) rfl) rfl rfl dX8_approve_50 ?_
            refine lv_iload_n hx hb dX8_approve_53 rfl (lv_at hl 1 rfl) ?_
            have b_9 : vp_in li 16 := by
              have u_1 := rg_e li
              have u_2 := rg_e (m_X8_noList q li)
              have k_3 : (0 : Int32).toInt = 0 := rfl
              have v_4 := cv_eq c_1
              have v_5 := nl_t hL c_1
              have u_6 := rg_e (m_X8_noOfficer officer)
              have v_7 := cv_eq c_2
              have u_8 := rg_e officer
              have v_9 := no_t c_2
              have u_10 := rg_e (q.1 30 (Int32.toNatClampNeg li))
              have v_11 := cv_eq c_4
              have u_12 := rg_e (m_X8_hasRight q officer 2)
              have v_13 := cv_ne c_6
              have u_14 := rg_e (q.1 28 (Int32.toNatClampNeg li))
              have v_15 := cv_ne c_8
              have w_16 := hL.2.2.2.2.2
              exact vp_in_iff.mpr (by omega)
            refine mm_iald (v := (q.1 29 (Int32.toNatClampNeg li))) hx hb hK hW 29 16 rfl b_9 ((rfl)) dX8_approve_54 ?_
            refine lv_iload_n hx hb dX8_approve_55 rfl (lv_at hl 2 rfl) ?_
            refine lv_ishr hx hb dX8_approve_56 ?_
            refine lv_iconst (v := 1) hx hb dX8_approve_57 (by decide) ?_
            refine lv_iand hx hb dX8_approve_58 ?_
            refine lv_iconst (v := 1) hx hb dX8_approve_59 (by decide) ?_
            refine lv_icmp_eq (tgt := 71) hx hb dX8_approve_60 (by decide) (fun c_10 => ?_) (fun c_10 => ?_)
            · refine lv_iconst (v := 2) hx hb dX8_approve_71 (by decide) ?_
              refine lv_goto (tgt := 76) hx hb dX8_approve_72 (by decide) ?_
              refine mm_put hx hb hts hin hown hK hW hS 0 (by decide) (List.mem_of_getElem? (i := 4) rfl) rfl rfl (by decide +kernel) rfl (ws_0 ad _ _) dX8_approve_76 (fun H locs hW hS => ?_)
              refine lv_aload_n hx hb dX8_approve_79 rfl (lv_at hl 0 rfl) ?_
              refine mm_gets (v := 2) hx hb hts hin hown hK hW 0 (by decide) (List.mem_of_getElem? (i := 4) rfl) rfl rfl (mq_same q 0 0 2) dX8_approve_80 ?_
              refine lv_if_le (tgt := 88) hx hb dX8_approve_83 (by decide) (fun h => absurd h (by decide)) (fun _ => ?_)
              refine lv_iconst (v := 0) hx hb dX8_approve_86 (by decide) ?_
              exact mm_iret hx hb hr hlk hK hW hS (by rw [m_X8_approve, if_pos c_1, if_pos c_2, if_pos c_4, if_neg c_6, if_neg c_8, if_pos c_10]) dX8_approve_87
            · refine lv_aload_n hx hb dX8_approve_63 rfl (lv_at hl 0 rfl) ?_
              refine lv_iconst (v := 1) hx hb dX8_approve_64 (by decide) ?_
              refine mm_callVi (n := 1) (As := [.int 1]) (rest := [.ref (ad 20 0)]) (r := (m_X8_hasRoom q 1)) (q2 := q) ⟨hx, hb, hml, hown, hts⟩ (c_X8_hasRoom l D b0 Pc cA ad q 1) gX8_approve_X8_hasRoom rfl (by decide +kernel) rfl ⟨Nat.le_of_ble_eq_true rfl, Nat.le_of_ble_eq_true rfl⟩ ⟨Nat.le_of_ble_eq_true rfl, Nat.le_of_ble_eq_true rfl⟩ hK hW hS hl.1 rfl (Nat.le_of_ble_eq_true rfl) dX8_approve_65 (fun H locs hW hS => ?_)
              refine lv_if_ne (tgt := 75) hx hb dX8_approve_68 (by decide) (fun c_11 => ?_) (fun c_11 => ?_)
              · refine lv_iconst (v := 0) hx hb dX8_approve_75 (by decide) ?_
                refine mm_put hx hb hts hin hown hK hW hS 0 (by decide) (List.mem_of_getElem? (i := 4) rfl) rfl rfl (by decide +kernel) rfl (ws_0 ad _ _) dX8_approve_76 (fun H locs hW hS => ?_)
                refine lv_aload_n hx hb dX8_approve_79 rfl (lv_at hl 0 rfl) ?_
                refine mm_gets (v := 0) hx hb hts hin hown hK hW 0 (by decide) (List.mem_of_getElem? (i := 4) rfl) rfl rfl (mq_same q 0 0 0) dX8_approve_80 ?_
                refine lv_if_le (tgt := 88) hx hb dX8_approve_83 (by decide) (fun _ => ?_) (fun h => absurd h (by decide))
                refine lv_aload_n hx hb dX8_approve_88 rfl (lv_at hl 0 rfl) ?_
                refine mm_get (v := .ref (ad 21 29)) hx hb hts hin hown hK hW 29 (by decide) (List.mem_of_getElem? (i := 3) rfl) rfl rfl dX8_approve_89 ?_
                refine lv_iload_n hx hb dX8_approve_92 rfl (lv_at hl 1 rfl) ?_
                refine lv_aload_n hx hb dX8_approve_93 rfl (lv_at hl 0 rfl) ?_
                refine mm_get (v := .ref (ad 21 29)) hx hb hts hin hown hK hW 29 (by decide) (List.mem_of_getElem? (i := 3) rfl) rfl rfl dX8_approve_94 ?_
                refine lv_iload_n hx hb dX8_approve_97 rfl (lv_at hl 1 rfl) ?_
                have b_12 : vp_in li 16 := by
                  have u_1 := rg_e li
                  have u_2 := rg_e (m_X8_noList q li)
                  have k_3 : (0 : Int32).toInt = 0 := rfl
                  have v_4 := cv_eq c_1
                  have v_5 := nl_t hL c_1
                  have u_6 := rg_e (m_X8_noOfficer officer)
                  have v_7 := cv_eq c_2
                  have u_8 := rg_e officer
                  have v_9 := no_t c_2
                  have u_10 := rg_e (q.1 30 (Int32.toNatClampNeg li))
                  have v_11 := cv_eq c_4
                  have u_12 := rg_e (m_X8_hasRight q officer 2)
                  have v_13 := cv_ne c_6
                  have u_14 := rg_e (q.1 28 (Int32.toNatClampNeg li))
                  have v_15 := cv_ne c_8
                  have u_16 := rg_e (q.1 29 (Int32.toNatClampNeg li))
                  have u_17 := rg_e ((q.1 29 (Int32.toNatClampNeg li)) >>> (officer &&& 31))
                  have k_18 : (1 : Int32).toInt = 1 := rfl
                  have u_19 := rg_e (((q.1 29 (Int32.toNatClampNeg li)) >>> (officer &&& 31)) &&& 1)
                  have v_20 := cv_ne c_10
                  have u_21 := rg_e (m_X8_hasRoom q 1)
                  have v_22 := cv_ne c_11
                  have v_23 := hr_t c_11
                  have w_24 := hL.2.2.2.2.2
                  exact vp_in_iff.mpr (by omega)
                refine mm_iald (v := (q.1 29 (Int32.toNatClampNeg li))) hx hb hK hW 29 16 rfl b_12 ((mq_ne (by decide))) dX8_approve_98 ?_
                refine lv_iconst (v := 1) hx hb dX8_approve_99 (by decide) ?_
                refine lv_iload_n hx hb dX8_approve_100 rfl (lv_at hl 2 rfl) ?_
                refine lv_ishl hx hb dX8_approve_101 ?_
                refine lv_ior hx hb dX8_approve_102 ?_
                have b_13 : vp_in li 16 := by
                  have u_1 := rg_e li
                  have u_2 := rg_e (m_X8_noList q li)
                  have k_3 : (0 : Int32).toInt = 0 := rfl
                  have v_4 := cv_eq c_1
                  have v_5 := nl_t hL c_1
                  have u_6 := rg_e (m_X8_noOfficer officer)
                  have v_7 := cv_eq c_2
                  have u_8 := rg_e officer
                  have v_9 := no_t c_2
                  have u_10 := rg_e (q.1 30 (Int32.toNatClampNeg li))
                  have v_11 := cv_eq c_4
                  have u_12 := rg_e (m_X8_hasRight q officer 2)
                  have v_13 := cv_ne c_6
                  have u_14 := rg_e (q.1 28 (Int32.toNatClampNeg li))
                  have v_15 := cv_ne c_8
                  have u_16 := rg_e (q.1 29 (Int32.toNatClampNeg li))
                  have u_17 := rg_e ((q.1 29 (Int32.toNatClampNeg li)) >>> (officer &&& 31))
                  have k_18 : (1 : Int32).toInt = 1 := rfl
                  have u_19 := rg_e (((q.1 29 (Int32.toNatClampNeg li)) >>> (officer &&& 31)) &&& 1)
                  have v_20 := cv_ne c_10
                  have u_21 := rg_e (m_X8_hasRoom q 1)
                  have v_22 := cv_ne c_11
                  have v_23 := hr_t c_11
                  have w_24 := hL.2.2.2.2.2
                  exact vp_in_iff.mpr (by omega)
                refine mm_iast hx hb hK hW hS 29 16 rfl b_13 dX8_approve_103 (fun H locs hW hS => ?_)
                refine lv_aload_n hx hb dX8_approve_104 rfl (lv_at hl 0 rfl) ?_
                refine lv_bipush (v := 9) hx hb dX8_approve_105 (by decide) ?_
                refine lv_iload_n hx hb dX8_approve_107 rfl (lv_at hl 1 rfl) ?_
                refine lv_iload_n hx hb dX8_approve_108 rfl (lv_at hl 2 rfl) ?_
                refine lv_iconst (v := 0) hx hb dX8_approve_109 (by decide) ?_
                have h_14 : 0 ≤ ((mq_i (mq_i q 0 0 0) 29 (Int32.toNatClampNeg li) ((q.1 29 (Int32.toNatClampNeg li)) ||| ((1 : Int32) <<< (officer &&& 31)))).1 31 0).toInt ∧ ((mq_i (mq_i q 0 0 0) 29 (Int32.toNatClampNeg li) ((q.1 29 (Int32.toNatClampNeg li)) ||| ((1 : Int32) <<< (officer &&& 31)))).1 31 0).toInt ≤ 399 := by
                  rw [show (mq_i (mq_i q 0 0 0) 29 (Int32.toNatClampNeg li) ((q.1 29 (Int32.toNatClampNeg li)) ||| ((1 : Int32) <<< (officer &&& 31)))).1 31 0 = (q.1 31 0) from ((mq_ne (by decide)).trans (mq_ne (by decide)))]
                  have k_1 : (9 : Int32).toInt = 9 := rfl
                  have u_2 := rg_e li
                  have u_3 := rg_e officer
                  have k_4 : (0 : Int32).toInt = 0 := rfl
                  have u_5 := rg_e (m_X8_noList q li)
                  have v_6 := cv_eq c_1
                  have v_7 := nl_t hL c_1
                  have u_8 := rg_e (m_X8_noOfficer officer)
                  have v_9 := cv_eq c_2
                  have v_10 := no_t c_2
                  have u_11 := rg_e (q.1 30 (Int32.toNatClampNeg li))
                  have v_12 := cv_eq c_4
                  have u_13 := rg_e (m_X8_hasRight q officer 2)
                  have v_14 := cv_ne c_6
                  have u_15 := rg_e (q.1 28 (Int32.toNatClampNeg li))
                  have v_16 := cv_ne c_8
                  have u_17 := rg_e (q.1 29 (Int32.toNatClampNeg li))
                  have u_18 := rg_e ((q.1 29 (Int32.toNatClampNeg li)) >>> (officer &&& 31))
                  have k_19 : (1 : Int32).toInt = 1 := rfl
                  have u_20 := rg_e (((q.1 29 (Int32.toNatClampNeg li)) >>> (officer &&& 31)) &&& 1)
                  have v_21 := cv_ne c_10
                  have u_22 := rg_e (m_X8_hasRoom q 1)
                  have v_23 := cv_ne c_11
                  have v_24 := hr_t c_11
                  have w_25 := hL.2.2.2.2.2
                  exact by omega
                have h_15 : 0 ≤ ((mq_i (mq_i q 0 0 0) 29 (Int32.toNatClampNeg li) ((q.1 29 (Int32.toNatClampNeg li)) ||| ((1 : Int32) <<< (officer &&& 31)))).1 12 0).toInt ∧ ((mq_i (mq_i q 0 0 0) 29 (Int32.toNatClampNeg li) ((q.1 29 (Int32.toNatClampNeg li)) ||| ((1 : Int32) <<< (officer &&& 31)))).1 12 0).toInt ≤ 64 := by
                  rw [show (mq_i (mq_i q 0 0 0) 29 (Int32.toNatClampNeg li) ((q.1 29 (Int32.toNatClampNeg li)) ||| ((1 : Int32) <<< (officer &&& 31)))).1 12 0 = (q.1 12 0) from ((mq_ne (by decide)).trans (mq_ne (by decide)))]
                  exact hI.2.2.2.1
                refine mm_callVv (n := 4) (As := [.int 9, .int li, .int officer, .int 0]) (rest := []) (q2 := (m_X8_write (mq_i (mq_i q 0 0 0) 29 (Int32.toNatClampNeg li) ((q.1 29 (Int32.toNatClampNeg li)) ||| ((1 : Int32) <<< (officer &&& 31)))) 9 li officer 0)) ⟨hx, hb, hml, hown, hts⟩ (c_X8_write l D b0 Pc cA ad (mq_i (mq_i q 0 0 0) 29 (Int32.toNatClampNeg li) ((q.1 29 (Int32.toNatClampNeg li)) ||| ((1 : Int32) <<< (officer &&& 31)))) 9 li officer 0 h_14 h_15) gX8_approve_X8_write rfl (by decide +kernel) rfl ⟨Nat.le_of_ble_eq_true rfl, Nat.le_of_ble_eq_true rfl⟩ ⟨Nat.le_of_ble_eq_true rfl, Nat.le_of_ble_eq_true rfl⟩ hK hW hS hl.1 rfl (Nat.le_of_ble_eq_true rfl) dX8_approve_110 (fun H locs hW hS => ?_)
                refine lv_aload_n hx hb dX8_approve_113 rfl (lv_at hl 0 rfl) ?_
                refine mm_get (v := .ref (ad 21 29)) hx hb hts hin hown hK hW 29 (by decide) (List.mem_of_getElem? (i := 3) rfl) rfl rfl dX8_approve_114 ?_
                refine lv_iload_n hx hb dX8_approve_117 rfl (lv_at hl 1 rfl) ?_
                have b_16 : vp_in li 16 := by
                  have u_1 := rg_e li
                  have u_2 := rg_e (m_X8_noList q li)
                  have k_3 : (0 : Int32).toInt = 0 := rfl
                  have v_4 := cv_eq c_1
                  have v_5 := nl_t hL c_1
                  have u_6 := rg_e (m_X8_noOfficer officer)
                  have v_7 := cv_eq c_2
                  have u_8 := rg_e officer
                  have v_9 := no_t c_2
                  have u_10 := rg_e (q.1 30 (Int32.toNatClampNeg li))
                  have v_11 := cv_eq c_4
                  have u_12 := rg_e (m_X8_hasRight q officer 2)
                  have v_13 := cv_ne c_6
                  have u_14 := rg_e (q.1 28 (Int32.toNatClampNeg li))
                  have v_15 := cv_ne c_8
                  have u_16 := rg_e (q.1 29 (Int32.toNatClampNeg li))
                  have u_17 := rg_e ((q.1 29 (Int32.toNatClampNeg li)) >>> (officer &&& 31))
                  have k_18 : (1 : Int32).toInt = 1 := rfl
                  have u_19 := rg_e (((q.1 29 (Int32.toNatClampNeg li)) >>> (officer &&& 31)) &&& 1)
                  have v_20 := cv_ne c_10
                  have u_21 := rg_e (m_X8_hasRoom q 1)
                  have v_22 := cv_ne c_11
                  have v_23 := hr_t c_11
                  have w_24 := hL.2.2.2.2.2
                  exact vp_in_iff.mpr (by omega)
                refine mm_iald (v := ((m_X8_write (mq_i (mq_i q 0 0 0) 29 (Int32.toNatClampNeg li) ((q.1 29 (Int32.toNatClampNeg li)) ||| ((1 : Int32) <<< (officer &&& 31)))) 9 li officer 0).1 29 (Int32.toNatClampNeg li))) hx hb hK hW 29 16 rfl b_16 ((rfl)) dX8_approve_118 ?_
                refine mm_callSi (n := 1) (As := [.int ((m_X8_write (mq_i (mq_i q 0 0 0) 29 (Int32.toNatClampNeg li) ((q.1 29 (Int32.toNatClampNeg li)) ||| ((1 : Int32) <<< (officer &&& 31)))) 9 li officer 0).1 29 (Int32.toNatClampNeg li))]) (rest := []) (r := (m_X8_bits ((m_X8_write (mq_i (mq_i q 0 0 0) 29 (Int32.toNatClampNeg li) ((q.1 29 (Int32.toNatClampNeg li)) ||| ((1 : Int32) <<< (officer &&& 31)))) 9 li officer 0).1 29 (Int32.toNatClampNeg li)))) (q2 := (m_X8_write (mq_i (mq_i q 0 0 0) 29 (Int32.toNatClampNeg li) ((q.1 29 (Int32.toNatClampNeg li)) ||| ((1 : Int32) <<< (officer &&& 31)))) 9 li officer 0)) ⟨hx, hb, hml, hown, hts⟩ (c_X8_bits l D b0 Pc cA ad (m_X8_write (mq_i (mq_i q 0 0 0) 29 (Int32.toNatClampNeg li) ((q.1 29 (Int32.toNatClampNeg li)) ||| ((1 : Int32) <<< (officer &&& 31)))) 9 li officer 0) ((m_X8_write (mq_i (mq_i q 0 0 0) 29 (Int32.toNatClampNeg li) ((q.1 29 (Int32.toNatClampNeg li)) ||| ((1 : Int32) <<< (officer &&& 31)))) 9 li officer 0).1 29 (Int32.toNatClampNeg li))) gX8_approve_X8_bits rfl (by decide +kernel) rfl ⟨Nat.le_of_ble_eq_true rfl, Nat.le_of_ble_eq_true rfl⟩ ⟨Nat.le_of_ble_eq_true rfl, Nat.le_of_ble_eq_true rfl⟩ hK hW hS hl.1 rfl (Nat.le_of_ble_eq_true rfl) dX8_approve_119 (fun H locs hW hS => ?_)
                exact mm_iret hx hb hr hlk hK hW hS (by rw [m_X8_approve, if_pos c_1, if_pos c_2, if_pos c_4, if_neg c_6, if_neg c_8, if_neg c_10, if_neg c_11]) dX8_approve_122
              · refine lv_iconst (v := 2) hx hb dX8_approve_71 (by decide) ?_
                refine lv_goto (tgt := 76) hx hb dX8_approve_72 (by decide) ?_
                refine mm_put hx hb hts hin hown hK hW hS 0 (by decide) (List.mem_of_getElem? (i := 4) rfl) rfl rfl (by decide +kernel) rfl (ws_0 ad _ _) dX8_approve_76 (fun H locs hW hS => ?_)
                refine lv_aload_n hx hb dX8_approve_79 rfl (lv_at hl 0 rfl) ?_
                refine mm_gets (v := 2) hx hb hts hin hown hK hW 0 (by decide) (List.mem_of_getElem? (i := 4) rfl) rfl rfl (mq_same q 0 0 2) dX8_approve_80 ?_
                refine lv_if_le (tgt := 88) hx hb dX8_approve_83 (by decide) (fun h => absurd h (by decide)) (fun _ => ?_)
                refine lv_iconst (v := 0) hx hb dX8_approve_86 (by decide) ?_
                exact mm_iret hx hb hr hlk hK hW hS (by rw [m_X8_approve, if_pos c_1, if_pos c_2, if_pos c_4, if_neg c_6, if_neg c_8, if_neg c_10, if_pos c_11]) dX8_approve_87
    · refine lv_iconst (v := 1) hx hb dX8_approve_17 (by decide) ?_
      refine lv_goto (tgt := 76) hx hb dX8_approve_18 (by decide) ?_
      refine mm_put hx hb hts hin hown hK hW hS 0 (by decide) (List.mem_of_getElem? (i := 4) rfl) rfl rfl (by decide +kernel) rfl (ws_0 ad _ _) dX8_approve_76 (fun H locs hW hS => ?_)
      refine lv_aload_n hx hb dX8_approve_79 rfl (lv_at hl 0 rfl) ?_
      refine mm_gets (v := 1) hx hb hts hin hown hK hW 0 (by decide) (List.mem_of_getElem? (i := 4) rfl) rfl rfl (mq_same q 0 0 1) dX8_approve_80 ?_
      refine lv_if_le (tgt := 88) hx hb dX8_approve_83 (by decide) (fun h => absurd h (by decide)) (fun _ => ?_)
      refine lv_iconst (v := 0) hx hb dX8_approve_86 (by decide) ?_
      exact mm_iret hx hb hr hlk hK hW hS (by rw [m_X8_approve, if_pos c_1, if_neg c_2]) dX8_approve_87

def m_X8_placeOn_lp (q : qM) (li : Int32) (r : Int32) : Nat → Int32 → Int32 → Int32
  | 0, _, _ => 0
  | n + 1, found, k => (if (q.1 27 (Int32.toNatClampNeg li)) ≤ k then found else (m_X8_placeOn_lp q li r n ((if (q.1 26 (Int32.toNatClampNeg ((64 * li) + k))) = r then k else found) : Int32) (k + 1)))
def m_X8_placeOn (q : qM) (li : Int32) (r : Int32) : Int32 := (m_X8_placeOn_lp q li r 66 (-1) 0)
set_option maxHeartbeats 4000000 in
set_option maxRecDepth 100000 in
theorem c_X8_placeOn (l : Launch) (D : va_G) (b0 : Nat) (Pc : Nat → Nat → Option va_E) (cA : Nat → ClassId) (ad : Nat → Nat → Nat) (q : qM) (li : Int32) (r : Int32) (hl9 : 0 ≤ (li : Int32).toInt ∧ (li : Int32).toInt ≤ 15) (hL : lI q) : mc_i l yX8_placeOn wsX8_placeOn 0 0 D b0 Pc cA ad q [.ref (ad 20 0), .int li, .int r] (m_X8_placeOn q li r, q) := by
  refine mc_of (by decide) rfl (Nat.le_of_ble_eq_true rfl) ?_
  intro p e s m below meth c hx hb hml hr hlk hown hts hK hW ls hl
  have hown : s.vm.findClass RX8 = some m.cls := hown
  have hS : va_S (wA b0) s.heap s.heap [] := va_S.rf
  have hl : lv_has ls 5 [(0, .ref (ad 20 0)), (1, .int li), (2, .int r)] := hl
  have hin : ∀ w ∈ wsX80, w ∈ wsX8_placeOn := fun w h => List.mem_cons_of_mem _ (List.mem_append_right _ h)
  refine lv_iconst (v := (-1)) hx hb dX8_placeOn_0 (by decide) ?_
  refine lv_istore_n (lv' := [(3, .int (-1)), (0, .ref (ad 20 0)), (1, .int li), (2, .int r)]) hx hb dX8_placeOn_1 rfl hl (by decide) rfl (fun ls hl => ?_)
  refine lv_iconst (v := 0) hx hb dX8_placeOn_2 (by decide) ?_
  refine lv_istore (lv' := [(4, .int 0), (3, .int (-1)), (0, .ref (ad 20 0)), (1, .int li), (2, .int r)]) hx hb dX8_placeOn_3 hl (by decide) rfl (fun ls hl => ?_)
  have lp_11 : ∀ (Q : State → Prop) (n : Nat) (found : Int32) (k : Int32), (0 ≤ k.toInt ∧ k.toInt ≤ 64) → 64 - k.toInt < (n : Int) → (∀ o_1 : Int32, o_1 = (m_X8_placeOn_lp q li r n found k) → ∀ (H : Heap) (locs : List Loc), wd D (wA b0) (PW Pc cA ad q) ad H → va_S (wA b0) s.heap H locs → ∀ ls : Array Slot, lv_has ls 5 [(3, .int o_1), (0, .ref (ad 20 0)), (1, .int li), (2, .int r)] → W p l e { frames := 0, cells := 0, slots := 0, locals := 0 } s m [.ref (ad 20 0), .int li, .int r].toArray below meth c H locs 0 0 Q (F0 m 45 ls [])) → ∀ (H : Heap) (locs : List Loc), wd D (wA b0) (PW Pc cA ad q) ad H → va_S (wA b0) s.heap H locs → ∀ ls : Array Slot, lv_has ls 5 [(3, .int found), (4, .int k), (0, .ref (ad 20 0)), (1, .int li), (2, .int r)] → W p l e { frames := 0, cells := 0, slots := 0, locals := 0 } s m [.ref (ad 20 0), .int li, .int r].toArray below meth c H locs 0 0 Q (F0 m 5 ls []) := by
    intro Q n
    induction n with
    | zero =>
      intro found k i1 hm
      have hz : 0 ≤ 64 - k.toInt := by
        have w_1 := hl9
        have w_2 := hL.2.1 (Int32.toNatClampNeg li)
        have w_3 := i1
        omega
      exact absurd hm (by omega)
    | succ n ih =>
      intro found k i1 hm kk H locs hW hS ls hl
      refine lv_iload hx hb dX8_placeOn_5 (lv_at hl 1 rfl) ?_
      refine lv_aload_n hx hb dX8_placeOn_7 rfl (lv_at hl 2 rfl) ?_
      refine mm_get (v := .ref (ad 21 27)) hx hb hts hin hown hK hW 27 (by decide) (List.mem_of_getElem? (i := 1) rfl) rfl rfl dX8_placeOn_8 ?_
      refine lv_iload_n hx hb dX8_placeOn_11 rfl (lv_at hl 3 rfl) ?_
      have b_2 : vp_in li 16 := by
        have u_1 := rg_e li
        have w_2 := hl9
        have w_3 := hL.2.1 (Int32.toNatClampNeg li)
        have w_4 := i1
        exact vp_in_iff.mpr (by omega)
      refine mm_iald (v := (q.1 27 (Int32.toNatClampNeg li))) hx hb hK hW 27 16 rfl b_2 ((rfl)) dX8_placeOn_12 ?_
      refine lv_icmp_ge (tgt := 45) hx hb dX8_placeOn_13 (by decide) (fun c_3 => ?_) (fun c_3 => ?_)
      · exact kk found (by rw [m_X8_placeOn_lp, if_pos c_3])  H locs hW hS ls (lv_sub hl [0, 2, 3, 4] rfl)
      · refine jn_w (J := 38) (rest := []) (Wd := fun H locs => wd D (wA b0) (PW Pc cA ad q) ad H ∧ va_S (wA b0) s.heap H locs) ((if (q.1 26 (Int32.toNatClampNeg ((64 * li) + k))) = r then k else found) : Int32) ⟨hW, hS⟩ (fun H locs hWS => ?_) (fun hj => ?_)
        · obtain ⟨hW, hS⟩ := hWS
          obtain ⟨j_8, ej_8⟩ : ∃ z : Int32, z = ((if (q.1 26 (Int32.toNatClampNeg ((64 * li) + k))) = r then k else found) : Int32) := ⟨_, rfl⟩
          rw [← ej_8]
          refine lv_istore_n (lv' := [(3, .int j_8), (4, .int k), (0, .ref (ad 20 0)), (1, .int li), (2, .int r)]) hx hb dX8_placeOn_38 rfl hl (by decide) rfl (fun ls hl => ?_)
          refine lv_iinc (v := (k + 1)) (lv' := [(4, .int (k + 1)), (3, .int j_8), (0, .ref (ad 20 0)), (1, .int li), (2, .int r)]) hx hb dX8_placeOn_39 hl (k := 1) rfl (by first | rfl | decide) (by decide) rfl (fun ls hl => ?_)
          refine lv_goto (tgt := 5) hx hb dX8_placeOn_42 (by decide) ?_
          have h_9 : 0 ≤ (k + 1).toInt ∧ (k + 1).toInt ≤ 64 := by
            have u_1 := rg_e j_8
            have u_2 := rg_e k
            have k_3 : (1 : Int32).toInt = 1 := rfl
            have u_5 := rg_e li
            have u_6 := rg_e (q.1 27 (Int32.toNatClampNeg li))
            have v_7 := cv_nle c_3
            have w_8 := hl9
            have w_9 := hL.2.1 (Int32.toNatClampNeg li)
            have w_10 := i1
            have u_4 := ad_o k 1
            omega
          have h_10 : 64 - (k + 1).toInt < (n : Int) := by
            have u_1 := rg_e j_8
            have u_2 := rg_e k
            have k_3 : (1 : Int32).toInt = 1 := rfl
            have u_5 := rg_e li
            have u_6 := rg_e (q.1 27 (Int32.toNatClampNeg li))
            have v_7 := cv_nle c_3
            have w_8 := hl9
            have w_9 := hL.2.1 (Int32.toNatClampNeg li)
            have w_10 := i1
            have w_11 := hm
            have u_4 := ad_o k 1
            omega
          exact ih j_8 (k + 1) h_9 h_10 (fun o_1 eo_1 => kk o_1 (eo_1.trans (by rw [m_X8_placeOn_lp, if_neg c_3, ← ej_8]))) _ _ hW hS ls (lv_sub hl [1, 0, 2, 3, 4] rfl)
        · refine lv_aload_n hx hb dX8_placeOn_16 rfl (lv_at hl 2 rfl) ?_
          refine mm_get (v := .ref (ad 21 26)) hx hb hts hin hown hK hW 26 (by decide) (List.mem_of_getElem? (i := 2) rfl) rfl rfl dX8_placeOn_17 ?_
          refine lv_bipush (v := 64) hx hb dX8_placeOn_20 (by decide) ?_
          refine lv_iload_n hx hb dX8_placeOn_22 rfl (lv_at hl 3 rfl) ?_
          refine lv_imul hx hb dX8_placeOn_23 ?_
          refine lv_iload hx hb dX8_placeOn_24 (lv_at hl 1 rfl) ?_
          refine lv_iadd hx hb dX8_placeOn_26 ?_
          have b_4 : vp_in ((64 * li) + k) 1024 := by
            have k_1 : (64 : Int32).toInt = 64 := rfl
            have u_2 := rg_e li
            have u_4 := rg_e k
            have u_6 := rg_e (q.1 27 (Int32.toNatClampNeg li))
            have v_7 := cv_nle c_3
            have w_8 := hl9
            have w_9 := hL.2.1 (Int32.toNatClampNeg li)
            have w_10 := i1
            have u_3 := mu_o 64 64 li rfl
            have u_5 := ad_o (64 * li) k
            exact vp_in_iff.mpr (by omega)
          refine mm_iald (v := (q.1 26 (Int32.toNatClampNeg ((64 * li) + k)))) hx hb hK hW 26 1024 rfl b_4 ((rfl)) dX8_placeOn_27 ?_
          refine lv_iload_n hx hb dX8_placeOn_28 rfl (lv_at hl 4 rfl) ?_
          refine lv_icmp_ne (tgt := 37) hx hb dX8_placeOn_29 (by decide) (fun c_5 => ?_) (fun c_5 => ?_)
          · refine lv_iload_n hx hb dX8_placeOn_37 rfl (lv_at hl 0 rfl) ?_
            have e_6 : ((if (q.1 26 (Int32.toNatClampNeg ((64 * li) + k))) = r then k else found) : Int32) = found := by rw [if_neg c_5]
            exact hj _ _ _ e_6 ⟨hW, hS⟩
          · refine lv_iload hx hb dX8_placeOn_32 (lv_at hl 1 rfl) ?_
            refine lv_goto (tgt := 38) hx hb dX8_placeOn_34 (by decide) ?_
            have e_7 : ((if (q.1 26 (Int32.toNatClampNeg ((64 * li) + k))) = r then k else found) : Int32) = k := by rw [if_pos c_5]
            exact hj _ _ _ e_7 ⟨hW, hS⟩
  have h_12 : 0 ≤ (0 : Int32).toInt ∧ (0 : Int32).toInt ≤ 64 := by
    have k_1 : ((-1) : Int32).toInt = -1 := rfl
    have k_2 : (0 : Int32).toInt = 0 := rfl
    have w_3 := hl9
    have w_4 := hL.2.1 (Int32.toNatClampNeg li)
    omega
  have h_13 : 64 - (0 : Int32).toInt < ((66 : Nat) : Int) := by
    have k_1 : ((-1) : Int32).toInt = -1 := rfl
    have k_2 : (0 : Int32).toInt = 0 := rfl
    have w_3 := hl9
    have w_4 := hL.2.1 (Int32.toNatClampNeg li)
    omega
  refine lp_11 _ 66 (-1) 0 h_12 h_13 (fun o_1 eo_1 H locs hW hS ls hl => ?_) _ _ hW hS ls (lv_sub hl [1, 0, 2, 3, 4] rfl)
  refine lv_iload_n hx hb dX8_placeOn_45 rfl (lv_at hl 0 rfl) ?_
  exact mm_iret hx hb hr hlk hK hW hS (by rw [m_X8_placeOn, ← eo_1]) dX8_placeOn_46

def m_X8_act (q : qM) (i : Int32) (what : Int32) : Int32 × qM := (if (m_X8_noAct q i) = 0 then (if (m_X8_isIn what 0 3) = 0 then (0, (mq_i q 0 0 2)) else ((q.1 32 (Int32.toNatClampNeg ((4 * i) + what))), (mq_i q 0 0 0))) else (0, (mq_i q 0 0 1)))
set_option maxHeartbeats 4000000 in
set_option maxRecDepth 100000 in
theorem c_X8_act (l : Launch) (D : va_G) (b0 : Nat) (Pc : Nat → Nat → Option va_E) (cA : Nat → ClassId) (ad : Nat → Nat → Nat) (q : qM) (i : Int32) (what : Int32) (hL : lI q) : mc_i l yX8_act wsX8_act 2 43 D b0 Pc cA ad q [.ref (ad 20 0), .int i, .int what] (m_X8_act q i what) := by
  refine mc_of (by decide) rfl (Nat.le_of_ble_eq_true rfl) ?_
  intro p e s m below meth c hx hb hml hr hlk hown hts hK hW ls hl
  have hown : s.vm.findClass RX8 = some m.cls := hown
  have hS : va_S (wA b0) s.heap s.heap [] := va_S.rf
  have hl : lv_has ls 3 [(0, .ref (ad 20 0)), (1, .int i), (2, .int what)] := hl
  have hin : ∀ w ∈ wsX80, w ∈ wsX8_act := fun w h => List.mem_cons_of_mem _ (List.mem_append_right _ h)
  refine lv_aload_n hx hb dX8_act_0 rfl (lv_at hl 0 rfl) ?_
  refine lv_aload_n hx hb dX8_act_1 rfl (lv_at hl 0 rfl) ?_
  refine lv_iload_n hx hb dX8_act_2 rfl (lv_at hl 1 rfl) ?_
  refine mm_callVi (n := 1) (As := [.int i]) (rest := [.ref (ad 20 0)]) (r := (m_X8_noAct q i)) (q2 := q) ⟨hx, hb, hml, hown, hts⟩ (c_X8_noAct l D b0 Pc cA ad q i) gX8_act_X8_noAct rfl (by decide +kernel) rfl ⟨Nat.le_of_ble_eq_true rfl, Nat.le_of_ble_eq_true rfl⟩ ⟨Nat.le_of_ble_eq_true rfl, Nat.le_of_ble_eq_true rfl⟩ hK hW hS hl.1 rfl (Nat.le_of_ble_eq_true rfl) dX8_act_3 (fun H locs hW hS => ?_)
  refine lv_if_eq (tgt := 13) hx hb dX8_act_6 (by decide) (fun c_1 => ?_) (fun c_1 => ?_)
  · refine lv_iload_n hx hb dX8_act_13 rfl (lv_at hl 2 rfl) ?_
    refine lv_iconst (v := 0) hx hb dX8_act_14 (by decide) ?_
    refine lv_iconst (v := 3) hx hb dX8_act_15 (by decide) ?_
    refine mm_callSi (n := 3) (As := [.int what, .int 0, .int 3]) (rest := [.ref (ad 20 0)]) (r := (m_X8_isIn what 0 3)) (q2 := q) ⟨hx, hb, hml, hown, hts⟩ (c_X8_isIn l D b0 Pc cA ad q what 0 3) gX8_act_X8_isIn rfl (by decide +kernel) rfl ⟨Nat.le_of_ble_eq_true rfl, Nat.le_of_ble_eq_true rfl⟩ ⟨Nat.le_of_ble_eq_true rfl, Nat.le_of_ble_eq_true rfl⟩ hK hW hS hl.1 rfl (Nat.le_of_ble_eq_true rfl) dX8_act_16 (fun H locs hW hS => ?_)
    refine lv_if_ne (tgt := 26) hx hb dX8_act_19 (by decide) (fun c_2 => ?_) (fun c_2 => ?_)
    · refine lv_iconst (v := 0) hx hb dX8_act_26 (by decide) ?_
      refine mm_put hx hb hts hin hown hK hW hS 0 (by decide) (List.mem_of_getElem? (i := 1) rfl) rfl rfl (by decide +kernel) rfl (ws_0 ad _ _) dX8_act_27 (fun H locs hW hS => ?_)
      refine lv_aload_n hx hb dX8_act_30 rfl (lv_at hl 0 rfl) ?_
      refine mm_gets (v := 0) hx hb hts hin hown hK hW 0 (by decide) (List.mem_of_getElem? (i := 1) rfl) rfl rfl (mq_same q 0 0 0) dX8_act_31 ?_
      refine lv_if_le (tgt := 41) hx hb dX8_act_34 (by decide) (fun _ => ?_) (fun h => absurd h (by decide))
      refine lv_aload_n hx hb dX8_act_41 rfl (lv_at hl 0 rfl) ?_
      refine mm_get (v := .ref (ad 21 32)) hx hb hts hin hown hK hW 32 (by decide) (List.mem_of_getElem? (i := 2) rfl) rfl rfl dX8_act_42 ?_
      refine lv_iconst (v := 4) hx hb dX8_act_45 (by decide) ?_
      refine lv_iload_n hx hb dX8_act_46 rfl (lv_at hl 1 rfl) ?_
      refine lv_imul hx hb dX8_act_47 ?_
      refine lv_iload_n hx hb dX8_act_48 rfl (lv_at hl 2 rfl) ?_
      refine lv_iadd hx hb dX8_act_49 ?_
      have b_3 : vp_in ((4 * i) + what) 1600 := by
        have k_1 : (4 : Int32).toInt = 4 := rfl
        have u_2 := rg_e i
        have u_4 := rg_e what
        have u_6 := rg_e (m_X8_noAct q i)
        have k_7 : (0 : Int32).toInt = 0 := rfl
        have v_8 := cv_eq c_1
        have v_9 := na_t hL c_1
        have u_10 := rg_e (m_X8_isIn what 0 3)
        have v_11 := cv_ne c_2
        have k_12 : (3 : Int32).toInt = 3 := rfl
        have v_13 := is_t c_2
        have w_14 := hL.2.2.2.2.2
        have u_3 := mu_o 4 4 i rfl
        have u_5 := ad_o (4 * i) what
        exact vp_in_iff.mpr (by omega)
      refine mm_iald (v := (q.1 32 (Int32.toNatClampNeg ((4 * i) + what)))) hx hb hK hW 32 1600 rfl b_3 ((mq_ne (by decide))) dX8_act_50 ?_
      exact mm_iret hx hb hr hlk hK hW hS (by rw [m_X8_act, if_pos c_1, if_neg c_2]) dX8_act_51
    · refine lv_iconst (v := 2) hx hb dX8_act_22 (by decide) ?_
      refine lv_goto (tgt := 27) hx hb dX8_act_23 (by decide) ?_
      refine mm_put hx hb hts hin hown hK hW hS 0 (by decide) (List.mem_of_getElem? (i := 1) rfl) rfl rfl (by decide +kernel) rfl (ws_0 ad _ _) dX8_act_27 (fun H locs hW hS => ?_)
      refine lv_aload_n hx hb dX8_act_30 rfl (lv_at hl 0 rfl) ?_
      refine mm_gets (v := 2) hx hb hts hin hown hK hW 0 (by decide) (List.mem_of_getElem? (i := 1) rfl) rfl rfl (mq_same q 0 0 2) dX8_act_31 ?_
      refine lv_if_le (tgt := 41) hx hb dX8_act_34 (by decide) (fun h => absurd h (by decide)) (fun _ => ?_)
      refine lv_iconst (v := 0) hx hb dX8_act_37 (by decide) ?_
      refine lv_goto (tgt := 51) hx hb dX8_act_38 (by decide) ?_
      exact mm_iret hx hb hr hlk hK hW hS (by rw [m_X8_act, if_pos c_1, if_pos c_2]) dX8_act_51
  · refine lv_iconst (v := 1) hx hb dX8_act_9 (by decide) ?_
    refine lv_goto (tgt := 27) hx hb dX8_act_10 (by decide) ?_
    refine mm_put hx hb hts hin hown hK hW hS 0 (by decide) (List.mem_of_getElem? (i := 1) rfl) rfl rfl (by decide +kernel) rfl (ws_0 ad _ _) dX8_act_27 (fun H locs hW hS => ?_)
    refine lv_aload_n hx hb dX8_act_30 rfl (lv_at hl 0 rfl) ?_
    refine mm_gets (v := 1) hx hb hts hin hown hK hW 0 (by decide) (List.mem_of_getElem? (i := 1) rfl) rfl rfl (mq_same q 0 0 1) dX8_act_31 ?_
    refine lv_if_le (tgt := 41) hx hb dX8_act_34 (by decide) (fun h => absurd h (by decide)) (fun _ => ?_)
    refine lv_iconst (v := 0) hx hb dX8_act_37 (by decide) ?_
    refine lv_goto (tgt := 51) hx hb dX8_act_38 (by decide) ?_
    exact mm_iret hx hb hr hlk hK hW hS (by rw [m_X8_act, if_neg c_1]) dX8_act_51

def m_X8_link (q : qM) (i : Int32) : Int64 × qM := (if (m_X8_noAct q i) = 0 then ((q.2 33 (Int32.toNatClampNeg i)), (mq_i q 0 0 0)) else (0, (mq_i q 0 0 1)))
set_option maxHeartbeats 4000000 in
set_option maxRecDepth 100000 in
theorem c_X8_link (l : Launch) (D : va_G) (b0 : Nat) (Pc : Nat → Nat → Option va_E) (cA : Nat → ClassId) (ad : Nat → Nat → Nat) (q : qM) (i : Int32) (hL : lI q) : mc_l l yX8_link wsX8_link 2 43 D b0 Pc cA ad q [.ref (ad 20 0), .int i] (m_X8_link q i) := by
  refine mc_of (by decide) rfl (Nat.le_of_ble_eq_true rfl) ?_
  intro p e s m below meth c hx hb hml hr hlk hown hts hK hW ls hl
  have hown : s.vm.findClass RX8 = some m.cls := hown
  have hS : va_S (wA b0) s.heap s.heap [] := va_S.rf
  have hl : lv_has ls 2 [(0, .ref (ad 20 0)), (1, .int i)] := hl
  have hin : ∀ w ∈ wsX80, w ∈ wsX8_link := fun w h => List.mem_cons_of_mem _ (List.mem_append_right _ h)
  refine lv_aload_n hx hb dX8_link_0 rfl (lv_at hl 0 rfl) ?_
  refine lv_aload_n hx hb dX8_link_1 rfl (lv_at hl 0 rfl) ?_
  refine lv_iload_n hx hb dX8_link_2 rfl (lv_at hl 1 rfl) ?_
  refine mm_callVi (n := 1) (As := [.int i]) (rest := [.ref (ad 20 0)]) (r := (m_X8_noAct q i)) (q2 := q) ⟨hx, hb, hml, hown, hts⟩ (c_X8_noAct l D b0 Pc cA ad q i) gX8_link_X8_noAct rfl (by decide +kernel) rfl ⟨Nat.le_of_ble_eq_true rfl, Nat.le_of_ble_eq_true rfl⟩ ⟨Nat.le_of_ble_eq_true rfl, Nat.le_of_ble_eq_true rfl⟩ hK hW hS hl.1 rfl (Nat.le_of_ble_eq_true rfl) dX8_link_3 (fun H locs hW hS => ?_)
  refine lv_if_eq (tgt := 13) hx hb dX8_link_6 (by decide) (fun c_1 => ?_) (fun c_1 => ?_)
  · refine lv_iconst (v := 0) hx hb dX8_link_13 (by decide) ?_
    refine mm_put hx hb hts hin hown hK hW hS 0 (by decide) (List.mem_of_getElem? (i := 1) rfl) rfl rfl (by decide +kernel) rfl (ws_0 ad _ _) dX8_link_14 (fun H locs hW hS => ?_)
    refine lv_aload_n hx hb dX8_link_17 rfl (lv_at hl 0 rfl) ?_
    refine mm_gets (v := 0) hx hb hts hin hown hK hW 0 (by decide) (List.mem_of_getElem? (i := 1) rfl) rfl rfl (mq_same q 0 0 0) dX8_link_18 ?_
    refine lv_if_le (tgt := 28) hx hb dX8_link_21 (by decide) (fun _ => ?_) (fun h => absurd h (by decide))
    refine lv_aload_n hx hb dX8_link_28 rfl (lv_at hl 0 rfl) ?_
    refine mm_get (v := .ref (ad 21 33)) hx hb hts hin hown hK hW 33 (by decide) (List.mem_of_getElem? (i := 2) rfl) rfl rfl dX8_link_29 ?_
    refine lv_iload_n hx hb dX8_link_32 rfl (lv_at hl 1 rfl) ?_
    have b_2 : vp_in i 400 := by
      have u_1 := rg_e i
      have u_2 := rg_e (m_X8_noAct q i)
      have k_3 : (0 : Int32).toInt = 0 := rfl
      have v_4 := cv_eq c_1
      have v_5 := na_t hL c_1
      have w_6 := hL.2.2.2.2.2
      exact vp_in_iff.mpr (by omega)
    refine mm_lald (v := (q.2 33 (Int32.toNatClampNeg i))) hx hb hK hW 33 400 rfl b_2 ((ml_nei)) dX8_link_33 ?_
    exact mm_lret hx hb hr hlk hK hW hS (by rw [m_X8_link, if_pos c_1]) dX8_link_34
  · refine lv_iconst (v := 1) hx hb dX8_link_9 (by decide) ?_
    refine lv_goto (tgt := 14) hx hb dX8_link_10 (by decide) ?_
    refine mm_put hx hb hts hin hown hK hW hS 0 (by decide) (List.mem_of_getElem? (i := 1) rfl) rfl rfl (by decide +kernel) rfl (ws_0 ad _ _) dX8_link_14 (fun H locs hW hS => ?_)
    refine lv_aload_n hx hb dX8_link_17 rfl (lv_at hl 0 rfl) ?_
    refine mm_gets (v := 1) hx hb hts hin hown hK hW 0 (by decide) (List.mem_of_getElem? (i := 1) rfl) rfl rfl (mq_same q 0 0 1) dX8_link_18 ?_
    refine lv_if_le (tgt := 28) hx hb dX8_link_21 (by decide) (fun h => absurd h (by decide)) (fun _ => ?_)
    refine lv_lconst (v := 0) hx hb dX8_link_24 (by decide) ?_
    refine lv_goto (tgt := 34) hx hb dX8_link_25 (by decide) ?_
    exact mm_lret hx hb hr hlk hK hW hS (by rw [m_X8_link, if_neg c_1]) dX8_link_34

def m_X8_spoil (q : qM) (i : Int32) (what : Int32) (v : Int32) : qM := (if (m_X8_noAct q i) = 0 then (if (m_X8_isIn what 0 3) = 0 then (mq_i q 0 0 2) else (mq_i (mq_i q 0 0 0) 32 (Int32.toNatClampNeg ((4 * i) + what)) v)) else (mq_i q 0 0 1))
set_option maxHeartbeats 4000000 in
set_option maxRecDepth 100000 in
theorem c_X8_spoil (l : Launch) (D : va_G) (b0 : Nat) (Pc : Nat → Nat → Option va_E) (cA : Nat → ClassId) (ad : Nat → Nat → Nat) (q : qM) (i : Int32) (what : Int32) (v : Int32) (hL : lI q) : mc_v l yX8_spoil wsX8_spoil 2 43 D b0 Pc cA ad q [.ref (ad 20 0), .int i, .int what, .int v] (m_X8_spoil q i what v) := by
  refine mc_of (by decide) rfl (Nat.le_of_ble_eq_true rfl) ?_
  intro p e s m below meth c hx hb hml hr hlk hown hts hK hW ls hl
  have hown : s.vm.findClass RX8 = some m.cls := hown
  have hS : va_S (wA b0) s.heap s.heap [] := va_S.rf
  have hl : lv_has ls 4 [(0, .ref (ad 20 0)), (1, .int i), (2, .int what), (3, .int v)] := hl
  have hin : ∀ w ∈ wsX80, w ∈ wsX8_spoil := fun w h => List.mem_cons_of_mem _ (List.mem_append_right _ h)
  refine lv_aload_n hx hb dX8_spoil_0 rfl (lv_at hl 0 rfl) ?_
  refine lv_aload_n hx hb dX8_spoil_1 rfl (lv_at hl 0 rfl) ?_
  refine lv_iload_n hx hb dX8_spoil_2 rfl (lv_at hl 1 rfl) ?_
  refine mm_callVi (n := 1) (As := [.int i]) (rest := [.ref (ad 20 0)]) (r := (m_X8_noAct q i)) (q2 := q) ⟨hx, hb, hml, hown, hts⟩ (c_X8_noAct l D b0 Pc cA ad q i) gX8_spoil_X8_noAct rfl (by decide +kernel) rfl ⟨Nat.le_of_ble_eq_true rfl, Nat.le_of_ble_eq_true rfl⟩ ⟨Nat.le_of_ble_eq_true rfl, Nat.le_of_ble_eq_true rfl⟩ hK hW hS hl.1 rfl (Nat.le_of_ble_eq_true rfl) dX8_spoil_3 (fun H locs hW hS => ?_)
  refine lv_if_eq (tgt := 13) hx hb dX8_spoil_6 (by decide) (fun c_1 => ?_) (fun c_1 => ?_)
  · refine lv_iload_n hx hb dX8_spoil_13 rfl (lv_at hl 2 rfl) ?_
    refine lv_iconst (v := 0) hx hb dX8_spoil_14 (by decide) ?_
    refine lv_iconst (v := 3) hx hb dX8_spoil_15 (by decide) ?_
    refine mm_callSi (n := 3) (As := [.int what, .int 0, .int 3]) (rest := [.ref (ad 20 0)]) (r := (m_X8_isIn what 0 3)) (q2 := q) ⟨hx, hb, hml, hown, hts⟩ (c_X8_isIn l D b0 Pc cA ad q what 0 3) gX8_spoil_X8_isIn rfl (by decide +kernel) rfl ⟨Nat.le_of_ble_eq_true rfl, Nat.le_of_ble_eq_true rfl⟩ ⟨Nat.le_of_ble_eq_true rfl, Nat.le_of_ble_eq_true rfl⟩ hK hW hS hl.1 rfl (Nat.le_of_ble_eq_true rfl) dX8_spoil_16 (fun H locs hW hS => ?_)
    refine lv_if_ne (tgt := 26) hx hb dX8_spoil_19 (by decide) (fun c_2 => ?_) (fun c_2 => ?_)
    · refine lv_iconst (v := 0) hx hb dX8_spoil_26 (by decide) ?_
      refine mm_put hx hb hts hin hown hK hW hS 0 (by decide) (List.mem_of_getElem? (i := 1) rfl) rfl rfl (by decide +kernel) rfl (ws_0 ad _ _) dX8_spoil_27 (fun H locs hW hS => ?_)
      refine lv_aload_n hx hb dX8_spoil_30 rfl (lv_at hl 0 rfl) ?_
      refine mm_gets (v := 0) hx hb hts hin hown hK hW 0 (by decide) (List.mem_of_getElem? (i := 1) rfl) rfl rfl (mq_same q 0 0 0) dX8_spoil_31 ?_
      refine lv_if_ne (tgt := 48) hx hb dX8_spoil_34 (by decide) (fun h => absurd h (by decide)) (fun _ => ?_)
      refine lv_aload_n hx hb dX8_spoil_37 rfl (lv_at hl 0 rfl) ?_
      refine mm_get (v := .ref (ad 21 32)) hx hb hts hin hown hK hW 32 (by decide) (List.mem_of_getElem? (i := 2) rfl) rfl rfl dX8_spoil_38 ?_
      refine lv_iconst (v := 4) hx hb dX8_spoil_41 (by decide) ?_
      refine lv_iload_n hx hb dX8_spoil_42 rfl (lv_at hl 1 rfl) ?_
      refine lv_imul hx hb dX8_spoil_43 ?_
      refine lv_iload_n hx hb dX8_spoil_44 rfl (lv_at hl 2 rfl) ?_
      refine lv_iadd hx hb dX8_spoil_45 ?_
      refine lv_iload_n hx hb dX8_spoil_46 rfl (lv_at hl 3 rfl) ?_
      have b_3 : vp_in ((4 * i) + what) 1600 := by
        have k_1 : (4 : Int32).toInt = 4 := rfl
        have u_2 := rg_e i
        have u_4 := rg_e what
        have u_6 := rg_e (m_X8_noAct q i)
        have k_7 : (0 : Int32).toInt = 0 := rfl
        have v_8 := cv_eq c_1
        have v_9 := na_t hL c_1
        have u_10 := rg_e (m_X8_isIn what 0 3)
        have v_11 := cv_ne c_2
        have k_12 : (3 : Int32).toInt = 3 := rfl
        have v_13 := is_t c_2
        have w_14 := hL.2.2.2.2.2
        have u_3 := mu_o 4 4 i rfl
        have u_5 := ad_o (4 * i) what
        exact vp_in_iff.mpr (by omega)
      refine mm_iast hx hb hK hW hS 32 1600 rfl b_3 dX8_spoil_47 (fun H locs hW hS => ?_)
      exact mm_vret hx hb hr hlk hK hW hS (by rw [m_X8_spoil, if_pos c_1, if_neg c_2]) dX8_spoil_48
    · refine lv_iconst (v := 2) hx hb dX8_spoil_22 (by decide) ?_
      refine lv_goto (tgt := 27) hx hb dX8_spoil_23 (by decide) ?_
      refine mm_put hx hb hts hin hown hK hW hS 0 (by decide) (List.mem_of_getElem? (i := 1) rfl) rfl rfl (by decide +kernel) rfl (ws_0 ad _ _) dX8_spoil_27 (fun H locs hW hS => ?_)
      refine lv_aload_n hx hb dX8_spoil_30 rfl (lv_at hl 0 rfl) ?_
      refine mm_gets (v := 2) hx hb hts hin hown hK hW 0 (by decide) (List.mem_of_getElem? (i := 1) rfl) rfl rfl (mq_same q 0 0 2) dX8_spoil_31 ?_
      refine lv_if_ne (tgt := 48) hx hb dX8_spoil_34 (by decide) (fun _ => ?_) (fun h => absurd h (by decide))
      exact mm_vret hx hb hr hlk hK hW hS (by rw [m_X8_spoil, if_pos c_1, if_pos c_2]) dX8_spoil_48
  · refine lv_iconst (v := 1) hx hb dX8_spoil_9 (by decide) ?_
    refine lv_goto (tgt := 27) hx hb dX8_spoil_10 (by decide) ?_
    refine mm_put hx hb hts hin hown hK hW hS 0 (by decide) (List.mem_of_getElem? (i := 1) rfl) rfl rfl (by decide +kernel) rfl (ws_0 ad _ _) dX8_spoil_27 (fun H locs hW hS => ?_)
    refine lv_aload_n hx hb dX8_spoil_30 rfl (lv_at hl 0 rfl) ?_
    refine mm_gets (v := 1) hx hb hts hin hown hK hW 0 (by decide) (List.mem_of_getElem? (i := 1) rfl) rfl rfl (mq_same q 0 0 1) dX8_spoil_31 ?_
    refine lv_if_ne (tgt := 48) hx hb dX8_spoil_34 (by decide) (fun _ => ?_) (fun h => absurd h (by decide))
    exact mm_vret hx hb hr hlk hK hW hS (by rw [m_X8_spoil, if_neg c_1]) dX8_spoil_48

def m_X8_broken_lp (q : qM) : Nat → Int32 → Int32
  | 0, _ => 0
  | n + 1, i => (if (q.1 31 0) ≤ i then (-1) else (if (lg_cmp (q.2 33 (Int32.toNatClampNeg i)) (m_X8_linkOf q i)) = 0 then (m_X8_broken_lp q n (i + 1)) else i))
def m_X8_broken (q : qM) : Int32 × qM := ((m_X8_broken_lp (mq_i q 0 0 0) 402 0), (mq_i q 0 0 0))
set_option maxHeartbeats 4000000 in
set_option maxRecDepth 100000 in
theorem c_X8_broken (l : Launch) (D : va_G) (b0 : Nat) (Pc : Nat → Nat → Option va_E) (cA : Nat → ClassId) (ad : Nat → Nat → Nat) (q : qM) (hI : gI q) (hL : lI q) : mc_i l yX8_broken wsX8_broken 2 50 D b0 Pc cA ad q [.ref (ad 20 0)] (m_X8_broken q) := by
  refine mc_of (by decide) rfl (Nat.le_of_ble_eq_true rfl) ?_
  intro p e s m below meth c hx hb hml hr hlk hown hts hK hW ls hl
  have hown : s.vm.findClass RX8 = some m.cls := hown
  have hS : va_S (wA b0) s.heap s.heap [] := va_S.rf
  have hl : lv_has ls 2 [(0, .ref (ad 20 0))] := hl
  have hin : ∀ w ∈ wsX80, w ∈ wsX8_broken := fun w h => List.mem_cons_of_mem _ (List.mem_append_right _ h)
  refine lv_aload_n hx hb dX8_broken_0 rfl (lv_at hl 0 rfl) ?_
  refine lv_iconst (v := 0) hx hb dX8_broken_1 (by decide) ?_
  refine mm_put hx hb hts hin hown hK hW hS 0 (by decide) (List.mem_of_getElem? (i := 1) rfl) rfl rfl (by decide +kernel) rfl (ws_0 ad _ _) dX8_broken_2 (fun H locs hW hS => ?_)
  refine lv_iconst (v := 0) hx hb dX8_broken_5 (by decide) ?_
  refine lv_istore_n (lv' := [(1, .int 0), (0, .ref (ad 20 0))]) hx hb dX8_broken_6 rfl hl (by decide) rfl (fun ls hl => ?_)
  obtain ⟨qz_1, eqz_1⟩ : ∃ z : qM, z = (mq_i q 0 0 0) := ⟨_, rfl⟩
  rw [← eqz_1] at hW
  have hI : gI qz_1 := by rw [eqz_1]; exact (gI_i (by decide) hI)
  have hL : lI qz_1 := by rw [eqz_1]; exact (lI_i (by decide) hL)
  have lp_8 : ∀ (n : Nat) (i : Int32), (0 ≤ i.toInt ∧ i.toInt ≤ 400) → 400 - i.toInt < (n : Int) → ∀ (H : Heap) (locs : List Loc), wd D (wA b0) (PW Pc cA ad qz_1) ad H → va_S (wA b0) s.heap H locs → ∀ ls : Array Slot, lv_has ls 2 [(1, .int i), (0, .ref (ad 20 0))] → W p l e { frames := 2, cells := 0, slots := 0, locals := 50 } s m [.ref (ad 20 0)].toArray below meth c H locs 0 0 (MQ below (va_Qi (fun zz (_ : Unit) => zz = (((m_X8_broken_lp qz_1 n i), qz_1) : Int32 × qM).1) (fun _ U => WP D b0 Pc cA ad (((m_X8_broken_lp qz_1 n i), qz_1) : Int32 × qM).2 U) (wA b0)) [.ref (ad 20 0)].toArray s 0 0 (wA b0)) (F0 m 7 ls []) := by
    intro n
    induction n with
    | zero =>
      intro i i1 hm
      have hz : 0 ≤ 400 - i.toInt := by
        have w_1 := hL.2.2.2.2.2
        have w_2 := i1
        omega
      exact absurd hm (by omega)
    | succ n ih =>
      intro i i1 hm H locs hW hS ls hl
      rw [m_X8_broken_lp]
      refine lv_iload_n hx hb dX8_broken_7 rfl (lv_at hl 0 rfl) ?_
      refine lv_aload_n hx hb dX8_broken_8 rfl (lv_at hl 1 rfl) ?_
      refine mm_gets (v := (qz_1.1 31 0)) hx hb hts hin hown hK hW 31 (by decide) (List.mem_of_getElem? (i := 2) rfl) rfl rfl (rfl) dX8_broken_9 ?_
      refine lv_icmp_ge (tgt := 38) hx hb dX8_broken_12 (by decide) (fun c_2 => ?_) (fun c_2 => ?_)
      · rw [if_pos c_2]
        refine lv_iconst (v := (-1)) hx hb dX8_broken_38 (by decide) ?_
        exact mm_iret hx hb hr hlk hK hW hS rfl dX8_broken_39
      · rw [if_neg c_2]
        refine lv_aload_n hx hb dX8_broken_15 rfl (lv_at hl 1 rfl) ?_
        refine mm_get (v := .ref (ad 21 33)) hx hb hts hin hown hK hW 33 (by decide) (List.mem_of_getElem? (i := 3) rfl) rfl rfl dX8_broken_16 ?_
        refine lv_iload_n hx hb dX8_broken_19 rfl (lv_at hl 0 rfl) ?_
        have b_3 : vp_in i 400 := by
          have u_1 := rg_e i
          have u_2 := rg_e (qz_1.1 31 0)
          have v_3 := cv_nle c_2
          have w_4 := hL.2.2.2.2.2
          have w_5 := i1
          exact vp_in_iff.mpr (by omega)
        refine mm_lald (v := (qz_1.2 33 (Int32.toNatClampNeg i))) hx hb hK hW 33 400 rfl b_3 ((rfl)) dX8_broken_20 ?_
        refine lv_aload_n hx hb dX8_broken_21 rfl (lv_at hl 1 rfl) ?_
        refine lv_iload_n hx hb dX8_broken_22 rfl (lv_at hl 0 rfl) ?_
        have h_4 : 0 ≤ (i : Int32).toInt ∧ (i : Int32).toInt ≤ 399 := by
          have u_1 := rg_e i
          have u_2 := rg_e (qz_1.1 31 0)
          have v_3 := cv_nle c_2
          have w_4 := hL.2.2.2.2.2
          have w_5 := i1
          exact by omega
        refine mm_callVl (n := 1) (As := [.int i]) (rest := [.long (qz_1.2 33 (Int32.toNatClampNeg i))]) (r := (m_X8_linkOf qz_1 i)) (q2 := qz_1) ⟨hx, hb, hml, hown, hts⟩ (c_X8_linkOf l D b0 Pc cA ad qz_1 i h_4 hI.2.2.2.1) gX8_broken_X8_linkOf rfl (by decide +kernel) rfl ⟨Nat.le_of_ble_eq_true rfl, Nat.le_of_ble_eq_true rfl⟩ ⟨Nat.le_of_ble_eq_true rfl, Nat.le_of_ble_eq_true rfl⟩ hK hW hS hl.1 rfl (Nat.le_of_ble_eq_true rfl) dX8_broken_23 (fun H locs hW hS => ?_)
        refine W.lcmp hx hb dX8_broken_26 ?_
        refine lv_if_eq (tgt := 32) hx hb dX8_broken_27 (by decide) (fun c_5 => ?_) (fun c_5 => ?_)
        · rw [if_pos c_5]
          refine lv_iinc (v := (i + 1)) (lv' := [(1, .int (i + 1)), (0, .ref (ad 20 0))]) hx hb dX8_broken_32 hl (k := 0) rfl (by first | rfl | decide) (by decide) rfl (fun ls hl => ?_)
          refine lv_goto (tgt := 7) hx hb dX8_broken_35 (by decide) ?_
          have h_6 : 0 ≤ (i + 1).toInt ∧ (i + 1).toInt ≤ 400 := by
            have u_1 := rg_e i
            have k_2 : (1 : Int32).toInt = 1 := rfl
            have u_4 := rg_e (qz_1.1 31 0)
            have v_5 := cv_nle c_2
            have u_6 := rg_e (lg_cmp (qz_1.2 33 (Int32.toNatClampNeg i)) (m_X8_linkOf qz_1 i))
            have k_7 : (0 : Int32).toInt = 0 := rfl
            have v_8 := cv_eq c_5
            have w_9 := hL.2.2.2.2.2
            have w_10 := i1
            have u_3 := ad_o i 1
            omega
          have h_7 : 400 - (i + 1).toInt < (n : Int) := by
            have u_1 := rg_e i
            have k_2 : (1 : Int32).toInt = 1 := rfl
            have u_4 := rg_e (qz_1.1 31 0)
            have v_5 := cv_nle c_2
            have u_6 := rg_e (lg_cmp (qz_1.2 33 (Int32.toNatClampNeg i)) (m_X8_linkOf qz_1 i))
            have k_7 : (0 : Int32).toInt = 0 := rfl
            have v_8 := cv_eq c_5
            have w_9 := hL.2.2.2.2.2
            have w_10 := i1
            have w_11 := hm
            have u_3 := ad_o i 1
            omega
          exact ih (i + 1) h_6 h_7 _ _ hW hS ls (lv_sub hl [0, 1] rfl)
        · rw [if_neg c_5]
          refine lv_iload_n hx hb dX8_broken_30 rfl (lv_at hl 0 rfl) ?_
          exact mm_iret hx hb hr hlk hK hW hS rfl dX8_broken_31
  have h_9 : 0 ≤ (0 : Int32).toInt ∧ (0 : Int32).toInt ≤ 400 := by
    have k_1 : (0 : Int32).toInt = 0 := rfl
    have w_2 := hL.2.2.2.2.2
    omega
  have h_10 : 400 - (0 : Int32).toInt < ((402 : Nat) : Int) := by
    have k_1 : (0 : Int32).toInt = 0 := rfl
    have w_2 := hL.2.2.2.2.2
    omega
  rw [show m_X8_broken q = ((m_X8_broken_lp qz_1 402 0), qz_1) from by rw [m_X8_broken, ← eqz_1]]
  exact lp_8 402 0 h_9 h_10 _ _ hW hS ls (lv_sub hl [0, 1] rfl)

def m_X8_count_lp (q : qM) : Nat → Int32 → Int32 → Int32
  | 0, _, _ => 0
  | n + 1, sum, r => (if (q.1 12 0) ≤ r then sum else (m_X8_count_lp q n ((if (q.1 18 (Int32.toNatClampNeg r)) = 0 then (sum + (q.1 15 (Int32.toNatClampNeg r))) else sum) : Int32) (r + 1)))
def m_X8_count (q : qM) (what : Int32) : Int32 × qM := (if (m_X8_isIn what 0 4) = 0 then (0, (mq_i q 0 0 1)) else (if 4 ≤ what then ((m_X8_count_lp (mq_i q 0 0 0) 66 0 0), (mq_i q 0 0 0)) else (if what = 0 then ((q.1 12 0), (mq_i q 0 0 0)) else (if what = 1 then ((q.1 25 0), (mq_i q 0 0 0)) else (if what = 2 then ((q.1 31 0), (mq_i q 0 0 0)) else ((q.1 3 0), (mq_i q 0 0 0)))))))
set_option maxHeartbeats 4000000 in
set_option maxRecDepth 100000 in
theorem c_X8_count (l : Launch) (D : va_G) (b0 : Nat) (Pc : Nat → Nat → Option va_E) (cA : Nat → ClassId) (ad : Nat → Nat → Nat) (q : qM) (what : Int32) (hI : gI q) : mc_i l yX8_count wsX8_count 1 22 D b0 Pc cA ad q [.ref (ad 20 0), .int what] (m_X8_count q what) := by
  refine mc_of (by decide) rfl (Nat.le_of_ble_eq_true rfl) ?_
  intro p e s m below meth c hx hb hml hr hlk hown hts hK hW ls hl
  have hown : s.vm.findClass RX8 = some m.cls := hown
  have hS : va_S (wA b0) s.heap s.heap [] := va_S.rf
  have hl : lv_has ls 4 [(0, .ref (ad 20 0)), (1, .int what)] := hl
  have hin : ∀ w ∈ wsX80, w ∈ wsX8_count := fun w h => List.mem_cons_of_mem _ (List.mem_append_right _ h)
  refine lv_aload_n hx hb dX8_count_0 rfl (lv_at hl 0 rfl) ?_
  refine lv_iload_n hx hb dX8_count_1 rfl (lv_at hl 1 rfl) ?_
  refine lv_iconst (v := 0) hx hb dX8_count_2 (by decide) ?_
  refine lv_iconst (v := 4) hx hb dX8_count_3 (by decide) ?_
  refine mm_callSi (n := 3) (As := [.int what, .int 0, .int 4]) (rest := [.ref (ad 20 0)]) (r := (m_X8_isIn what 0 4)) (q2 := q) ⟨hx, hb, hml, hown, hts⟩ (c_X8_isIn l D b0 Pc cA ad q what 0 4) gX8_count_X8_isIn rfl (by decide +kernel) rfl ⟨Nat.le_of_ble_eq_true rfl, Nat.le_of_ble_eq_true rfl⟩ ⟨Nat.le_of_ble_eq_true rfl, Nat.le_of_ble_eq_true rfl⟩ hK hW hS hl.1 rfl (Nat.le_of_ble_eq_true rfl) dX8_count_4 (fun H locs hW hS => ?_)
  refine lv_if_eq (tgt := 14) hx hb dX8_count_7 (by decide) (fun c_1 => ?_) (fun c_1 => ?_)
  · refine lv_iconst (v := 1) hx hb dX8_count_14 (by decide) ?_
    refine mm_put hx hb hts hin hown hK hW hS 0 (by decide) (List.mem_of_getElem? (i := 1) rfl) rfl rfl (by decide +kernel) rfl (ws_0 ad _ _) dX8_count_15 (fun H locs hW hS => ?_)
    refine lv_aload_n hx hb dX8_count_18 rfl (lv_at hl 0 rfl) ?_
    refine mm_gets (v := 1) hx hb hts hin hown hK hW 0 (by decide) (List.mem_of_getElem? (i := 1) rfl) rfl rfl (mq_same q 0 0 1) dX8_count_19 ?_
    refine lv_if_le (tgt := 27) hx hb dX8_count_22 (by decide) (fun h => absurd h (by decide)) (fun _ => ?_)
    refine lv_iconst (v := 0) hx hb dX8_count_25 (by decide) ?_
    exact mm_iret hx hb hr hlk hK hW hS (by rw [m_X8_count, if_pos c_1]) dX8_count_26
  · refine lv_iconst (v := 0) hx hb dX8_count_10 (by decide) ?_
    refine lv_goto (tgt := 15) hx hb dX8_count_11 (by decide) ?_
    refine mm_put hx hb hts hin hown hK hW hS 0 (by decide) (List.mem_of_getElem? (i := 1) rfl) rfl rfl (by decide +kernel) rfl (ws_0 ad _ _) dX8_count_15 (fun H locs hW hS => ?_)
    refine lv_aload_n hx hb dX8_count_18 rfl (lv_at hl 0 rfl) ?_
    refine mm_gets (v := 0) hx hb hts hin hown hK hW 0 (by decide) (List.mem_of_getElem? (i := 1) rfl) rfl rfl (mq_same q 0 0 0) dX8_count_19 ?_
    refine lv_if_le (tgt := 27) hx hb dX8_count_22 (by decide) (fun _ => ?_) (fun h => absurd h (by decide))
    refine lv_iload_n hx hb dX8_count_27 rfl (lv_at hl 1 rfl) ?_
    refine lv_iconst (v := 4) hx hb dX8_count_28 (by decide) ?_
    refine lv_icmp_ge (tgt := 72) hx hb dX8_count_29 (by decide) (fun c_2 => ?_) (fun c_2 => ?_)
    · refine lv_iconst (v := 0) hx hb dX8_count_72 (by decide) ?_
      refine lv_istore_n (lv' := [(2, .int 0), (0, .ref (ad 20 0)), (1, .int what)]) hx hb dX8_count_73 rfl hl (by decide) rfl (fun ls hl => ?_)
      refine lv_iconst (v := 0) hx hb dX8_count_74 (by decide) ?_
      refine lv_istore_n (lv' := [(3, .int 0), (2, .int 0), (0, .ref (ad 20 0)), (1, .int what)]) hx hb dX8_count_75 rfl hl (by decide) rfl (fun ls hl => ?_)
      obtain ⟨qz_3, eqz_3⟩ : ∃ z : qM, z = (mq_i q 0 0 0) := ⟨_, rfl⟩
      rw [← eqz_3] at hW
      have hI : gI qz_3 := by rw [eqz_3]; exact (gI_i (by decide) hI)
      have lp_14 : ∀ (Q : State → Prop) (n : Nat) (sum : Int32) (r : Int32), (0 ≤ r.toInt ∧ r.toInt ≤ 64) → 64 - r.toInt < (n : Int) → (∀ o_4 : Int32, o_4 = (m_X8_count_lp qz_3 n sum r) → ∀ (H : Heap) (locs : List Loc), wd D (wA b0) (PW Pc cA ad qz_3) ad H → va_S (wA b0) s.heap H locs → ∀ ls : Array Slot, lv_has ls 4 [(2, .int o_4), (0, .ref (ad 20 0)), (1, .int what)] → W p l e { frames := 1, cells := 0, slots := 0, locals := 22 } s m [.ref (ad 20 0), .int what].toArray below meth c H locs 0 0 Q (F0 m 112 ls [])) → ∀ (H : Heap) (locs : List Loc), wd D (wA b0) (PW Pc cA ad qz_3) ad H → va_S (wA b0) s.heap H locs → ∀ ls : Array Slot, lv_has ls 4 [(2, .int sum), (3, .int r), (0, .ref (ad 20 0)), (1, .int what)] → W p l e { frames := 1, cells := 0, slots := 0, locals := 22 } s m [.ref (ad 20 0), .int what].toArray below meth c H locs 0 0 Q (F0 m 76 ls []) := by
        intro Q n
        induction n with
        | zero =>
          intro sum r i1 hm
          have hz : 0 ≤ 64 - r.toInt := by
            have w_1 := hI.2.2.2.1
            have w_2 := i1
            omega
          exact absurd hm (by omega)
        | succ n ih =>
          intro sum r i1 hm kk H locs hW hS ls hl
          refine lv_iload_n hx hb dX8_count_76 rfl (lv_at hl 1 rfl) ?_
          refine lv_aload_n hx hb dX8_count_77 rfl (lv_at hl 2 rfl) ?_
          refine mm_gets (v := (qz_3.1 12 0)) hx hb hts hin hown hK hW 12 (by decide) (List.mem_of_getElem? (i := 2) rfl) rfl rfl (rfl) dX8_count_78 ?_
          refine lv_icmp_ge (tgt := 112) hx hb dX8_count_81 (by decide) (fun c_5 => ?_) (fun c_5 => ?_)
          · exact kk sum (by rw [m_X8_count_lp, if_pos c_5])  H locs hW hS ls (lv_sub hl [0, 2, 3] rfl)
          · refine jn_w (J := 105) (rest := []) (Wd := fun H locs => wd D (wA b0) (PW Pc cA ad qz_3) ad H ∧ va_S (wA b0) s.heap H locs) ((if (qz_3.1 18 (Int32.toNatClampNeg r)) = 0 then (sum + (qz_3.1 15 (Int32.toNatClampNeg r))) else sum) : Int32) ⟨hW, hS⟩ (fun H locs hWS => ?_) (fun hj => ?_)
            · obtain ⟨hW, hS⟩ := hWS
              obtain ⟨j_11, ej_11⟩ : ∃ z : Int32, z = ((if (qz_3.1 18 (Int32.toNatClampNeg r)) = 0 then (sum + (qz_3.1 15 (Int32.toNatClampNeg r))) else sum) : Int32) := ⟨_, rfl⟩
              rw [← ej_11]
              refine lv_istore_n (lv' := [(2, .int j_11), (3, .int r), (0, .ref (ad 20 0)), (1, .int what)]) hx hb dX8_count_105 rfl hl (by decide) rfl (fun ls hl => ?_)
              refine lv_iinc (v := (r + 1)) (lv' := [(3, .int (r + 1)), (2, .int j_11), (0, .ref (ad 20 0)), (1, .int what)]) hx hb dX8_count_106 hl (k := 1) rfl (by first | rfl | decide) (by decide) rfl (fun ls hl => ?_)
              refine lv_goto (tgt := 76) hx hb dX8_count_109 (by decide) ?_
              have h_12 : 0 ≤ (r + 1).toInt ∧ (r + 1).toInt ≤ 64 := by
                have u_1 := rg_e j_11
                have u_2 := rg_e r
                have k_3 : (1 : Int32).toInt = 1 := rfl
                have u_5 := rg_e (m_X8_isIn what 0 4)
                have k_6 : (0 : Int32).toInt = 0 := rfl
                have v_7 := cv_ne c_1
                have u_8 := rg_e what
                have k_9 : (4 : Int32).toInt = 4 := rfl
                have v_10 := is_t c_1
                have v_11 := cv_le c_2
                have u_12 := rg_e (qz_3.1 12 0)
                have v_13 := cv_nle c_5
                have w_14 := hI.2.2.2.1
                have w_15 := i1
                have u_4 := ad_o r 1
                omega
              have h_13 : 64 - (r + 1).toInt < (n : Int) := by
                have u_1 := rg_e j_11
                have u_2 := rg_e r
                have k_3 : (1 : Int32).toInt = 1 := rfl
                have u_5 := rg_e (m_X8_isIn what 0 4)
                have k_6 : (0 : Int32).toInt = 0 := rfl
                have v_7 := cv_ne c_1
                have u_8 := rg_e what
                have k_9 : (4 : Int32).toInt = 4 := rfl
                have v_10 := is_t c_1
                have v_11 := cv_le c_2
                have u_12 := rg_e (qz_3.1 12 0)
                have v_13 := cv_nle c_5
                have w_14 := hI.2.2.2.1
                have w_15 := i1
                have w_16 := hm
                have u_4 := ad_o r 1
                omega
              exact ih j_11 (r + 1) h_12 h_13 (fun o_4 eo_4 => kk o_4 (eo_4.trans (by rw [m_X8_count_lp, if_neg c_5, ← ej_11]))) _ _ hW hS ls (lv_sub hl [1, 0, 2, 3] rfl)
            · refine lv_aload_n hx hb dX8_count_84 rfl (lv_at hl 2 rfl) ?_
              refine mm_get (v := .ref (ad 21 18)) hx hb hts hin hown hK hW 18 (by decide) (List.mem_of_getElem? (i := 6) rfl) rfl rfl dX8_count_85 ?_
              refine lv_iload_n hx hb dX8_count_88 rfl (lv_at hl 1 rfl) ?_
              have b_6 : vp_in r 64 := by
                have u_1 := rg_e r
                have u_2 := rg_e (m_X8_isIn what 0 4)
                have k_3 : (0 : Int32).toInt = 0 := rfl
                have v_4 := cv_ne c_1
                have u_5 := rg_e what
                have k_6 : (4 : Int32).toInt = 4 := rfl
                have v_7 := is_t c_1
                have v_8 := cv_le c_2
                have u_9 := rg_e (qz_3.1 12 0)
                have v_10 := cv_nle c_5
                have w_11 := hI.2.2.2.1
                have w_12 := i1
                exact vp_in_iff.mpr (by omega)
              refine mm_zald (v := (qz_3.1 18 (Int32.toNatClampNeg r))) hx hb hK hW 18 64 rfl b_6 ((rfl)) dX8_count_89 ?_
              refine lv_if_eq (tgt := 97) hx hb dX8_count_90 (by decide) (fun c_7 => ?_) (fun c_7 => ?_)
              · refine lv_iload_n hx hb dX8_count_97 rfl (lv_at hl 0 rfl) ?_
                refine lv_aload_n hx hb dX8_count_98 rfl (lv_at hl 2 rfl) ?_
                refine mm_get (v := .ref (ad 21 15)) hx hb hts hin hown hK hW 15 (by decide) (List.mem_of_getElem? (i := 7) rfl) rfl rfl dX8_count_99 ?_
                refine lv_iload_n hx hb dX8_count_102 rfl (lv_at hl 1 rfl) ?_
                have b_8 : vp_in r 64 := by
                  have u_1 := rg_e r
                  have u_2 := rg_e (m_X8_isIn what 0 4)
                  have k_3 : (0 : Int32).toInt = 0 := rfl
                  have v_4 := cv_ne c_1
                  have u_5 := rg_e what
                  have k_6 : (4 : Int32).toInt = 4 := rfl
                  have v_7 := is_t c_1
                  have v_8 := cv_le c_2
                  have u_9 := rg_e (qz_3.1 12 0)
                  have v_10 := cv_nle c_5
                  have u_11 := rg_e (qz_3.1 18 (Int32.toNatClampNeg r))
                  have v_12 := cv_eq c_7
                  have w_13 := hI.2.2.2.1
                  have w_14 := i1
                  exact vp_in_iff.mpr (by omega)
                refine mm_iald (v := (qz_3.1 15 (Int32.toNatClampNeg r))) hx hb hK hW 15 64 rfl b_8 ((rfl)) dX8_count_103 ?_
                refine lv_iadd hx hb dX8_count_104 ?_
                have e_9 : ((if (qz_3.1 18 (Int32.toNatClampNeg r)) = 0 then (sum + (qz_3.1 15 (Int32.toNatClampNeg r))) else sum) : Int32) = (sum + (qz_3.1 15 (Int32.toNatClampNeg r))) := by rw [if_pos c_7]
                exact hj _ _ _ e_9 ⟨hW, hS⟩
              · refine lv_iload_n hx hb dX8_count_93 rfl (lv_at hl 0 rfl) ?_
                refine lv_goto (tgt := 105) hx hb dX8_count_94 (by decide) ?_
                have e_10 : ((if (qz_3.1 18 (Int32.toNatClampNeg r)) = 0 then (sum + (qz_3.1 15 (Int32.toNatClampNeg r))) else sum) : Int32) = sum := by rw [if_neg c_7]
                exact hj _ _ _ e_10 ⟨hW, hS⟩
      have h_15 : 0 ≤ (0 : Int32).toInt ∧ (0 : Int32).toInt ≤ 64 := by
        have k_1 : (0 : Int32).toInt = 0 := rfl
        have u_2 := rg_e (m_X8_isIn what 0 4)
        have v_3 := cv_ne c_1
        have u_4 := rg_e what
        have k_5 : (4 : Int32).toInt = 4 := rfl
        have v_6 := is_t c_1
        have v_7 := cv_le c_2
        have w_8 := hI.2.2.2.1
        omega
      have h_16 : 64 - (0 : Int32).toInt < ((66 : Nat) : Int) := by
        have k_1 : (0 : Int32).toInt = 0 := rfl
        have u_2 := rg_e (m_X8_isIn what 0 4)
        have v_3 := cv_ne c_1
        have u_4 := rg_e what
        have k_5 : (4 : Int32).toInt = 4 := rfl
        have v_6 := is_t c_1
        have v_7 := cv_le c_2
        have w_8 := hI.2.2.2.1
        omega
      refine lp_14 _ 66 0 0 h_15 h_16 (fun o_4 eo_4 H locs hW hS ls hl => ?_) _ _ hW hS ls (lv_sub hl [1, 0, 2, 3] rfl)
      refine lv_iload_n hx hb dX8_count_112 rfl (lv_at hl 0 rfl) ?_
      exact mm_iret hx hb hr hlk hK hW hS (by rw [m_X8_count, if_neg c_1, if_pos c_2, ← eqz_3, ← eo_4]) dX8_count_113
    · refine lv_iload_n hx hb dX8_count_32 rfl (lv_at hl 1 rfl) ?_
      refine lv_if_ne (tgt := 43) hx hb dX8_count_33 (by decide) (fun c_17 => ?_) (fun c_17 => ?_)
      · refine lv_iload_n hx hb dX8_count_43 rfl (lv_at hl 1 rfl) ?_
        refine lv_iconst (v := 1) hx hb dX8_count_44 (by decide) ?_
        refine lv_icmp_ne (tgt := 55) hx hb dX8_count_45 (by decide) (fun c_18 => ?_) (fun c_18 => ?_)
        · refine lv_iload_n hx hb dX8_count_55 rfl (lv_at hl 1 rfl) ?_
          refine lv_iconst (v := 2) hx hb dX8_count_56 (by decide) ?_
          refine lv_icmp_ne (tgt := 67) hx hb dX8_count_57 (by decide) (fun c_19 => ?_) (fun c_19 => ?_)
          · refine lv_aload_n hx hb dX8_count_67 rfl (lv_at hl 0 rfl) ?_
            refine mm_gets (v := (q.1 3 0)) hx hb hts hin hown hK hW 3 (by decide) (List.mem_of_getElem? (i := 5) rfl) rfl rfl (mq_ne (by decide)) dX8_count_68 ?_
            exact mm_iret hx hb hr hlk hK hW hS (by rw [m_X8_count, if_neg c_1, if_neg c_2, if_neg c_17, if_neg c_18, if_neg c_19]) dX8_count_71
          · refine lv_aload_n hx hb dX8_count_60 rfl (lv_at hl 0 rfl) ?_
            refine mm_gets (v := (q.1 31 0)) hx hb hts hin hown hK hW 31 (by decide) (List.mem_of_getElem? (i := 4) rfl) rfl rfl (mq_ne (by decide)) dX8_count_61 ?_
            refine lv_goto (tgt := 71) hx hb dX8_count_64 (by decide) ?_
            exact mm_iret hx hb hr hlk hK hW hS (by rw [m_X8_count, if_neg c_1, if_neg c_2, if_neg c_17, if_neg c_18, if_pos c_19]) dX8_count_71
        · refine lv_aload_n hx hb dX8_count_48 rfl (lv_at hl 0 rfl) ?_
          refine mm_gets (v := (q.1 25 0)) hx hb hts hin hown hK hW 25 (by decide) (List.mem_of_getElem? (i := 3) rfl) rfl rfl (mq_ne (by decide)) dX8_count_49 ?_
          refine lv_goto (tgt := 71) hx hb dX8_count_52 (by decide) ?_
          exact mm_iret hx hb hr hlk hK hW hS (by rw [m_X8_count, if_neg c_1, if_neg c_2, if_neg c_17, if_pos c_18]) dX8_count_71
      · refine lv_aload_n hx hb dX8_count_36 rfl (lv_at hl 0 rfl) ?_
        refine mm_gets (v := (q.1 12 0)) hx hb hts hin hown hK hW 12 (by decide) (List.mem_of_getElem? (i := 2) rfl) rfl rfl (mq_ne (by decide)) dX8_count_37 ?_
        refine lv_goto (tgt := 71) hx hb dX8_count_40 (by decide) ?_
        exact mm_iret hx hb hr hlk hK hW hS (by rw [m_X8_count, if_neg c_1, if_neg c_2, if_pos c_17]) dX8_count_71
