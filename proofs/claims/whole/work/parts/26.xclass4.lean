/-! laid by wip/whole/tools/xclass4.py -/
theorem dc_z (gg : Int64) (rc : Int32) : ∀ k : Nat, k ≤ 64 → rc.toInt ≤ 64 - (k : Int) → dc gg rc k = 0 := by
  intro k
  induction k with
  | zero => intro _ _; rfl
  | succ k ih =>
    intro h1 h2
    have e : (nI (63 - k)).toInt = ((63 - k : Nat) : Int) := nI_toInt (by omega)
    rw [dc, if_pos (Int32.le_iff_toInt_le.mpr (by omega)), ih (by omega) (by omega)]
    rfl
theorem dc_n (n : Nat) (hn : n < 2 ^ 64) (rc : Int32) : ∀ k : Nat, k ≤ 64 → dc (lN n) rc k + (pN n (64 - k) : Int) ≤ (pN n 64 : Int) := by
  intro k
  induction k with
  | zero => intro _; rw [dc]; simp
  | succ k ih =>
    intro h1
    have g := ih (by omega)
    have e : pN n (64 - k) = pN n (63 - k) + n / 2 ^ (63 - k) % 2 := by rw [show 64 - k = (63 - k) + 1 by omega, pN]
    have b : n / 2 ^ (63 - k) % 2 = 0 ∨ n / 2 ^ (63 - k) % 2 = 1 := by omega
    rw [dc, show 64 - (k + 1) = 63 - k by omega]
    rcases b with b | b
    · have hd : db (lN n) (nI (63 - k)) = 0 := by
        unfold db
        rw [show ((Int64.toUInt64 (lN n) >>> ((Int32.toInt64 (nI (63 - k))).toUInt64 &&& Int64.toUInt64 63)).toInt64 &&& 1) = _ from wb_bit hn (by omega), b]
        decide
      rw [hd]
      have : (if rc ≤ nI (63 - k) then (0 : Int) else (if (0 : Int32) = 0 then 0 else 1)) = 0 := by split <;> simp
      omega
    · have : (if rc ≤ nI (63 - k) then (0 : Int) else (if db (lN n) (nI (63 - k)) = 0 then 0 else 1)) ≤ 1 := by split <;> (try split) <;> omega
      omega
theorem dc_le (gg : Int64) (rc : Int32) : dc gg rc 64 ≤ (m_J13_bitCount_95d88 gg).toInt ∧ (m_J13_bitCount_95d88 gg).toInt ≤ 64 ∧ 0 ≤ (m_J13_bitCount_95d88 gg).toInt := by
  obtain ⟨n, hn, rfl⟩ := wb_of gg
  have h := bc_e n hn
  have h2 := dc_n n hn rc 64 (by omega)
  rw [h.1, nI_toInt (by omega)]
  have h3 : pN n (64 - 64) = 0 := rfl
  omega
/-- what destroyAll leaves as it is -/
theorem da_e {gg : Int64} {li day : Int32} {k j x : Nat} (h1 : k ≠ 8) (h2 : ¬ (k = 7 ∧ x = 2)) (h3 : ¬ (k = 16 ∧ x = 7)) : ∀ (n : Nat) (i : Int32) (q1 : qC), (m_X7_destroyAll_lp gg li day n i q1).1 k j x = q1.1 k j x := by
  intro n
  induction n with
  | zero => intro i q1; rfl
  | succ n ih =>
    intro i q1
    rw [m_X7_destroyAll_lp]
    split
    · rfl
    · split
      · exact ih _ _
      · rw [ih, wc_e h1 h2, cq_nx h3]
theorem da_l {gg : Int64} {li day : Int32} {k j x : Nat} (h1 : k ≠ 9) : ∀ (n : Nat) (i : Int32) (q1 : qC), (m_X7_destroyAll_lp gg li day n i q1).2 k j x = q1.2 k j x := by
  intro n
  induction n with
  | zero => intro i q1; rfl
  | succ n ih =>
    intro i q1
    rw [m_X7_destroyAll_lp]
    split
    · rfl
    · split
      · exact ih _ _
      · rw [ih, wc_l h1]
        exact cl_nei
theorem dA_e {q : qC} {gg : Int64} {li day : Int32} {k j x : Nat} (h1 : k ≠ 8) (h2 : ¬ (k = 7 ∧ x = 2)) (h3 : ¬ (k = 16 ∧ x = 7)) : (m_X7_destroyAll q gg li day).1 k j x = q.1 k j x := da_e h1 h2 h3 _ _ _
theorem dA_l {q : qC} {gg : Int64} {li day : Int32} {k j x : Nat} (h1 : k ≠ 9) : (m_X7_destroyAll q gg li day).2 k j x = q.2 k j x := da_l h1 _ _ _
theorem da_s {gg : Int64} {li day : Int32} : ∀ (n : Nat) (i : Int32) (q1 : qC), 0 ≤ i.toInt → i.toInt ≤ 64 → 64 - i.toInt < (n : Int) → cI q1 → (q1.1 7 0 2).toInt + dc gg (q1.1 0 0 7) (64 - Int32.toNatClampNeg i) ≤ 400 →
    cI (m_X7_destroyAll_lp gg li day n i q1) ∧ ((m_X7_destroyAll_lp gg li day n i q1).1 7 0 2).toInt = (q1.1 7 0 2).toInt + dc gg (q1.1 0 0 7) (64 - Int32.toNatClampNeg i) := by
  intro n
  induction n with
  | zero => intro i q1 h1 h2 h3; exact absurd h3 (by omega)
  | succ n ih =>
    intro i q1 h1 h2 h3 hI h4
    have t1 := tn_e h1
    have r := hI.2.2.2.2.2.1
    have sz := hI.2.2.2.2.2.2.2.2.2.2.1
    have k1 : (1 : Int32).toInt = 1 := rfl
    have g := ad_o i 1
    rw [m_X7_destroyAll_lp]
    by_cases c1 : (q1.1 0 0 7) ≤ i
    · rw [if_pos c1]
      have c2 := cv_le c1
      rw [dc_z gg _ _ (by omega) (by omega)]
      exact ⟨hI, by omega⟩
    · rw [if_neg c1]
      have c2 := cv_nle c1
      by_cases c3 : (lg_cmp (((Int64.toUInt64 gg >>> ((Int32.toInt64 i).toUInt64 &&& Int64.toUInt64 63)).toInt64) &&& 1) 0) = 0
      · rw [if_pos c3]
        have m := dc_miss (gg := gg) h1 r.2 rfl c1 (show db gg i = 0 from c3)
        have := ih (i + 1) q1 (by omega) (by omega) (by omega) hI (by rw [← m]; exact h4)
        rw [← m] at this
        exact this
      · rw [if_neg c3]
        have m := dc_hit (gg := gg) h1 r.2 rfl c1 (show ¬ db gg i = 0 from c3)
        have nn := dc_nn gg (q1.1 0 0 7) (64 - Int32.toNatClampNeg (i + 1))
        have e1 : (cq_i q1 16 (Int32.toNatClampNeg i) 7 1).1 7 0 2 = q1.1 7 0 2 := cq_nx (by decide)
        have e2 : (m_X0_write (cq_i q1 16 (Int32.toNatClampNeg i) 7 1) 11 i li day (q1.2 16 (Int32.toNatClampNeg i) 2)).1 0 0 7 = q1.1 0 0 7 := (wc_e (by decide) (by decide)).trans (cq_nx (by decide))
        have e3 : (m_X0_write (cq_i q1 16 (Int32.toNatClampNeg i) 7 1) 11 i li day (q1.2 16 (Int32.toNatClampNeg i) 2)).1 7 0 2 = q1.1 7 0 2 + 1 := wc_s.trans (by rw [e1])
        have g9 := ad_o (q1.1 7 0 2) 1
        have := ih (i + 1) (m_X0_write (cq_i q1 16 (Int32.toNatClampNeg i) 7 1) 11 i li day (q1.2 16 (Int32.toNatClampNeg i) 2)) (by omega) (by omega) (by omega) (wc_I (cI_i (by decide) hI) (by rw [e1]; omega)) (by rw [e2, e3]; omega)
        rw [e2, e3] at this
        exact ⟨this.1, by rw [this.2]; omega⟩
theorem dA_s {q : qC} {gg : Int64} {li day : Int32} (hI : cI q) (h : (q.1 7 0 2).toInt + dc gg (q.1 0 0 7) 64 ≤ 400) : cI (m_X7_destroyAll q gg li day) ∧ ((m_X7_destroyAll q gg li day).1 7 0 2).toInt = (q.1 7 0 2).toInt + dc gg (q.1 0 0 7) 64 := da_s 66 0 q (by decide) (by decide) (by decide) hI h
theorem cr_cn {q : qC} (hI : cI q) {gg : Int64} (h : m_X7_needRoom q (m_J13_bitCount_95d88 gg + 1) = 0) : (q.1 7 0 2).toInt + dc gg (q.1 0 0 7) 64 ≤ 399 := by
  have g := nro_t hI h
  have g2 := dc_le gg (q.1 0 0 7)
  have k1 : (1 : Int32).toInt = 1 := rfl
  have g3 := ad_o (m_J13_bitCount_95d88 gg) 1
  omega
theorem cr_s {q : qC} (hI : cI q) {gg : Int64} {li day : Int32} (h : m_X7_needRoom q (m_J13_bitCount_95d88 gg + 1) = 0) : 0 ≤ ((m_X7_destroyAll q gg li day).1 7 0 2).toInt ∧ ((m_X7_destroyAll q gg li day).1 7 0 2).toInt ≤ 399 := by
  have g := cr_cn hI h
  have g2 := (dA_s (gg := gg) (li := li) (day := day) hI (by omega)).2
  have g3 := hI.2.2.2.2.2.2.2.2.2.2.1
  have g4 := dc_nn gg (q.1 0 0 7) 64
  omega

def m_X7_broken_lp (q : qC) : Nat → Int32 → Int32
  | 0, _ => 0
  | n + 1, i => (if (q.1 7 0 2) ≤ i then (-1) else (if (lg_cmp (q.2 9 0 (Int32.toNatClampNeg i)) (m_X0_linkFor q i (m_X7_digestOf q (m_X0_number q i 1)))) = 0 then (m_X7_broken_lp q n (i + 1)) else i))
def m_X7_broken (q : qC) : Int32 := (m_X7_broken_lp q 402 0)
set_option maxHeartbeats 4000000 in
set_option maxRecDepth 100000 in
theorem c_X7_broken (l : Launch) (D : va_G) (b0 : Nat) (cA : Nat → ClassId) (ad : Nat → Nat → Nat) (mq : qM) (q : qC) (hI : cI q) : cc_i l yX7_broken wsX7_broken 2 51 D b0 cA ad mq q [.ref (ad 0 0)] (m_X7_broken q, q) := by
  refine cc_of (by decide) rfl (Nat.le_of_ble_eq_true rfl) ?_
  intro p e s m below meth c hx hb hml hr hlk hown hts hK hW hKD ls hl
  have hown : s.vm.findClass RX7 = some m.cls := hown
  have hS : va_S (wA b0) s.heap s.heap [] := va_S.rf
  have hl : lv_has ls 2 [(0, .ref (ad 0 0))] := hl
  have hin_X7 : ∀ w ∈ wsX70, w ∈ wsX7_broken := fun w h => List.mem_cons_of_mem _ (List.mem_append_left _ (List.mem_append_left _ (List.mem_append_right _ h)))
  have hin_X0 : ∀ w ∈ wsX00, w ∈ wsX7_broken := fun w h => List.mem_cons_of_mem _ (List.mem_append_left _ (List.mem_append_right _ h))
  have hin_X3 : ∀ w ∈ wsX30, w ∈ wsX7_broken := fun w h => List.mem_cons_of_mem _ (List.mem_append_right _ h)
  refine lv_iconst (v := 0) hx hb dX7_broken_0 (by decide) ?_
  refine lv_istore_n (lv' := [(1, .int 0), (0, .ref (ad 0 0))]) hx hb dX7_broken_1 rfl hl (by decide) rfl (fun ls hl => ?_)
  have lp_9 : ∀ (n : Nat) (i : Int32), (0 ≤ i.toInt ∧ i.toInt ≤ 400) → 400 - i.toInt < (n : Int) → ∀ (H : Heap) (locs : List Loc), wd D (wA b0) (PO cA ad q mq) ad H → va_S (wA b0) s.heap H locs → ∀ ls : Array Slot, lv_has ls 2 [(1, .int i), (0, .ref (ad 0 0))] → W p l e { frames := 2, cells := 0, slots := 0, locals := 51 } s m [.ref (ad 0 0)].toArray below meth c H locs 0 0 (MQ below (va_Qi (fun zz (_ : Unit) => zz = (((m_X7_broken_lp q n i), q) : Int32 × qC).1) (fun _ U => WE D b0 cA ad mq (((m_X7_broken_lp q n i), q) : Int32 × qC).2 U) (wA b0)) [.ref (ad 0 0)].toArray s 0 0 (wA b0)) (F0 m 2 ls []) := by
    intro n
    induction n with
    | zero =>
      intro i i1 hm
      have hz : 0 ≤ 400 - i.toInt := by
        have w_1 := hI.2.2.2.2.2.2.2.2.2.2.1
        have w_2 := i1
        omega
      exact absurd hm (by omega)
    | succ n ih =>
      intro i i1 hm H locs hW hS ls hl
      rw [m_X7_broken_lp]
      refine lv_iload_n hx hb dX7_broken_2 rfl (lv_at hl 0 rfl) ?_
      refine lv_aload_n hx hb dX7_broken_3 rfl (lv_at hl 1 rfl) ?_
      refine ow_get (v2 := .ref (ad 7 0)) (ci := 6) (C := RX7) (T := TX7) (N := 11) hx hb hts hin_X7 hown hK hW 0 0 (PO_k0) rfl 6 (by decide) (List.mem_of_getElem? (i := 1) rfl) rfl rfl rfl dX7_broken_4 ?_
      refine ow_get (v2 := .int (q.1 7 0 2)) (ci := 0) (C := RX0) (T := TX0) (N := 3) hx hb hts hin_X0 hown hK hW 7 0 (PO_k7) rfl 2 (by decide) (List.mem_of_getElem? (i := 2) rfl) rfl rfl rfl dX7_broken_7 ?_
      refine lv_icmp_ge (tgt := 55) hx hb dX7_broken_10 (by decide) (fun c_1 => ?_) (fun c_1 => ?_)
      · rw [if_pos c_1]
        refine lv_iconst (v := (-1)) hx hb dX7_broken_55 (by decide) ?_
        exact ow_iret hx hb hr hlk hK hW hS rfl dX7_broken_56
      · rw [if_neg c_1]
        refine lv_aload_n hx hb dX7_broken_13 rfl (lv_at hl 1 rfl) ?_
        refine ow_get (v2 := .ref (ad 7 0)) (ci := 6) (C := RX7) (T := TX7) (N := 11) hx hb hts hin_X7 hown hK hW 0 0 (PO_k0) rfl 6 (by decide) (List.mem_of_getElem? (i := 1) rfl) rfl rfl rfl dX7_broken_14 ?_
        refine ow_get (v2 := .ref (ad 9 0)) (ci := 0) (C := RX0) (T := TX0) (N := 3) hx hb hts hin_X0 hown hK hW 7 0 (PO_k7) rfl 1 (by decide) (List.mem_of_getElem? (i := 3) rfl) rfl rfl rfl dX7_broken_17 ?_
        refine lv_iload_n hx hb dX7_broken_20 rfl (lv_at hl 0 rfl) ?_
        have b_2 : vp_in i 400 := by
          have u_1 := rg_e i
          have u_2 := rg_e (q.1 7 0 2)
          have v_3 := cv_nle c_1
          have w_4 := hI.2.2.2.2.2.2.2.2.2.2.1
          have w_5 := i1
          exact vp_in_iff.mpr (by omega)
        refine ow_lald (v := (q.2 9 0 (Int32.toNatClampNeg i))) hx hb hK hW 9 0 (PO_k9) b_2 (rfl) dX7_broken_21 ?_
        refine lv_aload_n hx hb dX7_broken_22 rfl (lv_at hl 1 rfl) ?_
        refine ow_get (v2 := .ref (ad 7 0)) (ci := 6) (C := RX7) (T := TX7) (N := 11) hx hb hts hin_X7 hown hK hW 0 0 (PO_k0) rfl 6 (by decide) (List.mem_of_getElem? (i := 1) rfl) rfl rfl rfl dX7_broken_23 ?_
        refine lv_iload_n hx hb dX7_broken_26 rfl (lv_at hl 0 rfl) ?_
        refine lv_aload_n hx hb dX7_broken_27 rfl (lv_at hl 1 rfl) ?_
        refine lv_aload_n hx hb dX7_broken_28 rfl (lv_at hl 1 rfl) ?_
        refine ow_get (v2 := .ref (ad 7 0)) (ci := 6) (C := RX7) (T := TX7) (N := 11) hx hb hts hin_X7 hown hK hW 0 0 (PO_k0) rfl 6 (by decide) (List.mem_of_getElem? (i := 1) rfl) rfl rfl rfl dX7_broken_29 ?_
        refine lv_iload_n hx hb dX7_broken_32 rfl (lv_at hl 0 rfl) ?_
        refine lv_iconst (v := 1) hx hb dX7_broken_33 (by decide) ?_
        have h_3 : 0 ≤ (i : Int32).toInt ∧ (i : Int32).toInt ≤ 399 := by
          have u_1 := rg_e i
          have k_2 : (1 : Int32).toInt = 1 := rfl
          have u_3 := rg_e (q.1 7 0 2)
          have v_4 := cv_nle c_1
          have w_5 := hI.2.2.2.2.2.2.2.2.2.2.1
          have w_6 := i1
          exact by omega
        have h_4 : 0 ≤ (1 : Int32).toInt ∧ (1 : Int32).toInt ≤ 3 := by
          have u_1 := rg_e i
          have k_2 : (1 : Int32).toInt = 1 := rfl
          have u_3 := rg_e (q.1 7 0 2)
          have v_4 := cv_nle c_1
          have w_5 := hI.2.2.2.2.2.2.2.2.2.2.1
          have w_6 := i1
          exact by omega
        refine ow_callVi (C := RX0) (T := TX0) (N := 3) (ci := 0) (k := 7) (j := 0) (n := 2) (As := [.int i, .int 1]) (rest := [.ref (ad 0 0), .int i, .ref (ad 7 0), .long (q.2 9 0 (Int32.toNatClampNeg i))]) (r := (m_X0_number q i 1)) (z2 := q) ⟨hx, hb, hml, hown, hts⟩ (c_X0_number l D b0 cA ad mq q i 1 h_3 h_4) (PO_k7) rfl gX7_broken_X0_number rfl (by decide +kernel) rfl ⟨Nat.le_of_ble_eq_true rfl, Nat.le_of_ble_eq_true rfl⟩ ⟨Nat.le_of_ble_eq_true rfl, Nat.le_of_ble_eq_true rfl⟩ hK hW hS hKD hl.1 rfl (Nat.le_of_ble_eq_true rfl) dX7_broken_34 (fun H locs hW hS => ?_)
        refine ow_callVl (C := RX7) (T := TX7) (N := 11) (ci := 6) (k := 0) (j := 0) (n := 1) (As := [.int (m_X0_number q i 1)]) (rest := [.int i, .ref (ad 7 0), .long (q.2 9 0 (Int32.toNatClampNeg i))]) (r := (m_X7_digestOf q (m_X0_number q i 1))) (z2 := q) ⟨hx, hb, hml, hown, hts⟩ (c_X7_digestOf l D b0 cA ad mq q (m_X0_number q i 1) hI) (PO_k0) rfl gX7_broken_X7_digestOf rfl (by decide +kernel) rfl ⟨Nat.le_of_ble_eq_true rfl, Nat.le_of_ble_eq_true rfl⟩ ⟨Nat.le_of_ble_eq_true rfl, Nat.le_of_ble_eq_true rfl⟩ hK hW hS hKD hl.1 rfl (Nat.le_of_ble_eq_true rfl) dX7_broken_37 (fun H locs hW hS => ?_)
        have h_5 : 0 ≤ (i : Int32).toInt ∧ (i : Int32).toInt ≤ 399 := by
          have u_1 := rg_e i
          have u_2 := rg_e (q.1 7 0 2)
          have v_3 := cv_nle c_1
          have w_4 := hI.2.2.2.2.2.2.2.2.2.2.1
          have w_5 := i1
          exact by omega
        refine ow_callVl (C := RX0) (T := TX0) (N := 3) (ci := 0) (k := 7) (j := 0) (n := 2) (As := [.int i, .long (m_X7_digestOf q (m_X0_number q i 1))]) (rest := [.long (q.2 9 0 (Int32.toNatClampNeg i))]) (r := (m_X0_linkFor q i (m_X7_digestOf q (m_X0_number q i 1)))) (z2 := q) ⟨hx, hb, hml, hown, hts⟩ (c_X0_linkFor l D b0 cA ad mq q i (m_X7_digestOf q (m_X0_number q i 1)) h_5) (PO_k7) rfl gX7_broken_X0_linkFor rfl (by decide +kernel) rfl ⟨Nat.le_of_ble_eq_true rfl, Nat.le_of_ble_eq_true rfl⟩ ⟨Nat.le_of_ble_eq_true rfl, Nat.le_of_ble_eq_true rfl⟩ hK hW hS hKD hl.1 rfl (Nat.le_of_ble_eq_true rfl) dX7_broken_40 (fun H locs hW hS => ?_)
        refine W.lcmp hx hb dX7_broken_43 ?_
        refine lv_if_eq (tgt := 49) hx hb dX7_broken_44 (by decide) (fun c_6 => ?_) (fun c_6 => ?_)
        · rw [if_pos c_6]
          refine lv_iinc (v := (i + 1)) (lv' := [(1, .int (i + 1)), (0, .ref (ad 0 0))]) hx hb dX7_broken_49 hl (k := 0) rfl (by first | rfl | decide) (by decide) rfl (fun ls hl => ?_)
          refine lv_goto (tgt := 2) hx hb dX7_broken_52 (by decide) ?_
          have h_7 : 0 ≤ (i + 1).toInt ∧ (i + 1).toInt ≤ 400 := by
            have u_1 := rg_e i
            have k_2 : (1 : Int32).toInt = 1 := rfl
            have u_4 := rg_e (q.1 7 0 2)
            have v_5 := cv_nle c_1
            have u_6 := rg_e (lg_cmp (q.2 9 0 (Int32.toNatClampNeg i)) (m_X0_linkFor q i (m_X7_digestOf q (m_X0_number q i 1))))
            have k_7 : (0 : Int32).toInt = 0 := rfl
            have v_8 := cv_eq c_6
            have w_9 := hI.2.2.2.2.2.2.2.2.2.2.1
            have w_10 := i1
            have u_3 := ad_o i 1
            omega
          have h_8 : 400 - (i + 1).toInt < (n : Int) := by
            have u_1 := rg_e i
            have k_2 : (1 : Int32).toInt = 1 := rfl
            have u_4 := rg_e (q.1 7 0 2)
            have v_5 := cv_nle c_1
            have u_6 := rg_e (lg_cmp (q.2 9 0 (Int32.toNatClampNeg i)) (m_X0_linkFor q i (m_X7_digestOf q (m_X0_number q i 1))))
            have k_7 : (0 : Int32).toInt = 0 := rfl
            have v_8 := cv_eq c_6
            have w_9 := hI.2.2.2.2.2.2.2.2.2.2.1
            have w_10 := i1
            have w_11 := hm
            have u_3 := ad_o i 1
            omega
          exact ih (i + 1) h_7 h_8 _ _ hW hS ls (lv_sub hl [0, 1] rfl)
        · rw [if_neg c_6]
          refine lv_iload_n hx hb dX7_broken_47 rfl (lv_at hl 0 rfl) ?_
          exact ow_iret hx hb hr hlk hK hW hS rfl dX7_broken_48
  have h_10 : 0 ≤ (0 : Int32).toInt ∧ (0 : Int32).toInt ≤ 400 := by
    have k_1 : (0 : Int32).toInt = 0 := rfl
    have w_2 := hI.2.2.2.2.2.2.2.2.2.2.1
    omega
  have h_11 : 400 - (0 : Int32).toInt < ((402 : Nat) : Int) := by
    have k_1 : (0 : Int32).toInt = 0 := rfl
    have w_2 := hI.2.2.2.2.2.2.2.2.2.2.1
    omega
  rw [show m_X7_broken q = (m_X7_broken_lp q 402 0) from by rw [m_X7_broken]]
  exact lp_9 402 0 h_10 h_11 _ _ hW hS ls (lv_sub hl [0, 1] rfl)

def m_X7_version (q : qC) (cl : Int32) (ev : Int32) (yr : Int32) (mo : Int32) (fa : Int32) (day : Int32) : Int32 × Int32 × qC := (if (m_X7_needClass cl) = 0 then (if (m_X7_needTerm yr mo) = 0 then (if (m_X7_needDay day) = 0 then (if ev < 0 then (2, 0, q) else (if 3 < ev then (2, 0, q) else (if (m_X6_goesOnWith q (Int32.toNatClampNeg cl) ev day) = 0 then (2, 0, q) else (if (m_X7_needRoom q 1) = 0 then (if (q.1 10 (Int32.toNatClampNeg cl) 4) < 6 then (0, ((q.1 10 (Int32.toNatClampNeg cl) 4) + 1), (m_X0_write (cq_i (cq_i (cq_i (cq_i (cq_i q 10 (Int32.toNatClampNeg cl) 3 ev) 11 (Int32.toNatClampNeg cl) (Int32.toNatClampNeg (q.1 10 (Int32.toNatClampNeg cl) 4)) day) 12 (Int32.toNatClampNeg cl) (Int32.toNatClampNeg (q.1 10 (Int32.toNatClampNeg cl) 4)) ((yr * 12) + mo)) 13 (Int32.toNatClampNeg cl) (Int32.toNatClampNeg (q.1 10 (Int32.toNatClampNeg cl) 4)) fa) 10 (Int32.toNatClampNeg cl) 4 ((q.1 10 (Int32.toNatClampNeg cl) 4) + 1)) 1 cl ((yr * 12) + mo) day 0)) else (3, 0, q)) else ((m_X7_needRoom q 1), 0, q))))) else ((m_X7_needDay day), 0, q)) else ((m_X7_needTerm yr mo), 0, q)) else ((m_X7_needClass cl), 0, q))
set_option maxHeartbeats 4000000 in
set_option maxRecDepth 100000 in
theorem c_X7_version (l : Launch) (hlt : l.stackTraces = false) (D : va_G) (b0 : Nat) (cA : Nat → ClassId) (ad : Nat → Nat → Nat) (mq : qM) (q : qC) (cl : Int32) (ev : Int32) (yr : Int32) (mo : Int32) (fa : Int32) (day : Int32) (hI : cI q) (hbo : vp_nar .boolean fa = fa) : xc_i l yX7_version wsX7_version 7 111 5 30 D b0 cA ad mq q [.ref (ad 0 0), .int cl, .int ev, .int yr, .int mo, .int fa, .int day] (m_X7_version q cl ev yr mo fa day) := by
  refine xc_of (by decide) rfl (Nat.le_of_ble_eq_true rfl) ?_
  intro p e s m below meth c hx hb hml hr hlk hown hts hK hW hKD hKX hz hxt ls hl
  have hown : s.vm.findClass RX7 = some m.cls := hown
  have hS : va_S (wA b0) s.heap s.heap [] := va_S.rf
  have hl : lv_has ls 9 [(0, .ref (ad 0 0)), (1, .int cl), (2, .int ev), (3, .int yr), (4, .int mo), (5, .int fa), (6, .int day)] := hl
  have hin_X7 : ∀ w ∈ wsX70, w ∈ wsX7_version := fun w h => List.mem_cons_of_mem _ (List.mem_append_left _ (List.mem_append_left _ (List.mem_append_left _ (List.mem_append_left _ (List.mem_append_left _ (List.mem_append_right _ h))))))
  have hin_X6 : ∀ w ∈ wsX60, w ∈ wsX7_version := fun w h => List.mem_cons_of_mem _ (List.mem_append_left _ (List.mem_append_left _ (List.mem_append_left _ (List.mem_append_left _ (List.mem_append_right _ h)))))
  have hin_X0 : ∀ w ∈ wsX00, w ∈ wsX7_version := fun w h => List.mem_cons_of_mem _ (List.mem_append_left _ (List.mem_append_left _ (List.mem_append_left _ (List.mem_append_right _ h))))
  have hat_2 := xat_2 (fun w h => hts w (List.mem_cons_of_mem _ (List.mem_append_left _ (List.mem_append_left _ (List.mem_append_right _ h))))) hKX
  have hat_3 := xat_3 (fun w h => hts w (List.mem_cons_of_mem _ (List.mem_append_left _ (List.mem_append_right _ h)))) hKX
  refine lv_iload_n hx hb dX7_version_0 rfl (lv_at hl 1 rfl) ?_
  refine ox_callSv (n := 1) (As := [.int cl]) (rest := []) (z2 := q) (k0 := (m_X7_needClass cl)) ⟨hx, hb, hml, hown, hts⟩ (c_X7_needClass l hlt D b0 cA ad mq q cl) gX7_version_X7_needClass rfl (by decide +kernel) rfl ⟨Nat.le_of_ble_eq_true rfl, Nat.le_of_ble_eq_true rfl⟩ ⟨Nat.le_of_ble_eq_true rfl, Nat.le_of_ble_eq_true rfl⟩ hK hW hS hKD hKX hz hl.1 rfl (Nat.le_of_ble_eq_true rfl) dX7_version_1 (fun hne H locs ce q9 hW hS h1 h2 h3 => ox_out hxt hlk hK (by rw [m_X7_version, if_neg hne]) hne hW hS h1 h2 h3 (Nat.le_of_ble_eq_true rfl) (Nat.le_of_ble_eq_true rfl)) (fun c_1 H locs hW hS => ?_)
  refine lv_iload_n hx hb dX7_version_4 rfl (lv_at hl 3 rfl) ?_
  refine lv_iload hx hb dX7_version_5 (lv_at hl 4 rfl) ?_
  refine ox_callSv (n := 2) (As := [.int yr, .int mo]) (rest := []) (z2 := q) (k0 := (m_X7_needTerm yr mo)) ⟨hx, hb, hml, hown, hts⟩ (c_X7_needTerm l hlt D b0 cA ad mq q yr mo) gX7_version_X7_needTerm rfl (by decide +kernel) rfl ⟨Nat.le_of_ble_eq_true rfl, Nat.le_of_ble_eq_true rfl⟩ ⟨Nat.le_of_ble_eq_true rfl, Nat.le_of_ble_eq_true rfl⟩ hK hW hS hKD hKX hz hl.1 rfl (Nat.le_of_ble_eq_true rfl) dX7_version_7 (fun hne H locs ce q9 hW hS h1 h2 h3 => ox_out hxt hlk hK (by rw [m_X7_version, if_pos c_1, if_neg hne]) hne hW hS h1 h2 h3 (Nat.le_of_ble_eq_true rfl) (Nat.le_of_ble_eq_true rfl)) (fun c_2 H locs hW hS => ?_)
  refine lv_iload hx hb dX7_version_10 (lv_at hl 6 rfl) ?_
  refine ox_callSv (n := 1) (As := [.int day]) (rest := []) (z2 := q) (k0 := (m_X7_needDay day)) ⟨hx, hb, hml, hown, hts⟩ (c_X7_needDay l hlt D b0 cA ad mq q day) gX7_version_X7_needDay rfl (by decide +kernel) rfl ⟨Nat.le_of_ble_eq_true rfl, Nat.le_of_ble_eq_true rfl⟩ ⟨Nat.le_of_ble_eq_true rfl, Nat.le_of_ble_eq_true rfl⟩ hK hW hS hKD hKX hz hl.1 rfl (Nat.le_of_ble_eq_true rfl) dX7_version_12 (fun hne H locs ce q9 hW hS h1 h2 h3 => ox_out hxt hlk hK (by rw [m_X7_version, if_pos c_1, if_pos c_2, if_neg hne]) hne hW hS h1 h2 h3 (Nat.le_of_ble_eq_true rfl) (Nat.le_of_ble_eq_true rfl)) (fun c_3 H locs hW hS => ?_)
  refine lv_aload_n hx hb dX7_version_15 rfl (lv_at hl 0 rfl) ?_
  refine ow_get (v2 := .ref (ad 2 0)) (ci := 6) (C := RX7) (T := TX7) (N := 11) hx hb hts hin_X7 hown hK hW 0 0 (PO_k0) rfl 1 (by decide) (List.mem_of_getElem? (i := 5) rfl) rfl rfl rfl dX7_version_16 ?_
  refine lv_iload_n hx hb dX7_version_19 rfl (lv_at hl 1 rfl) ?_
  have b_4 : vp_in cl 8 := by
    have u_1 := rg_e cl
    have u_2 := rg_e (m_X7_needClass cl)
    have k_3 : (0 : Int32).toInt = 0 := rfl
    have v_4 := cv_eq c_1
    have v_5 := ncl_t c_1
    have u_6 := rg_e (m_X7_needTerm yr mo)
    have v_7 := cv_eq c_2
    have u_8 := rg_e yr
    have u_9 := rg_e mo
    have v_10 := nte_t c_2
    have u_11 := rg_e (m_X7_needDay day)
    have v_12 := cv_eq c_3
    have u_13 := rg_e day
    have v_14 := nda_t c_3
    have w_15 := hI.2.2.2.2.2.2.2.2.2.2.1
    have w_16 := hI.2.2.2.1 (Int32.toNatClampNeg cl)
    exact vp_in_iff.mpr (by omega)
  refine ow_aald hx hb hK hW 2 0 (PO_k2) 3 rfl b_4 dX7_version_20 ?_
  refine lv_astore (lv' := [(7, .ref (ad 10 (Int32.toNatClampNeg cl))), (0, .ref (ad 0 0)), (1, .int cl), (2, .int ev), (3, .int yr), (4, .int mo), (5, .int fa), (6, .int day)]) hx hb dX7_version_21 hl (by decide) rfl (fun ls hl => ?_)
  refine lv_iload_n hx hb dX7_version_23 rfl (lv_at hl 3 rfl) ?_
  refine lv_if_lt (tgt := 43) hx hb dX7_version_24 (by decide) (fun c_5 => ?_) (fun c_5 => ?_)
  · exact ox_throwS (cls := "java/lang/IllegalArgumentException") (text := "not the class's event, or before its latest version") hx hb hlt hown (hts _ (List.mem_of_getElem? (i := 1) rfl)) (hts _ (List.mem_of_getElem? (i := 2) rfl)) hat_2 (by decide +kernel) (by decide +kernel) hK hW hS hKX (by decide +kernel) (hl.1.trans hml.symm) hxt (by rw [m_X7_version, if_pos c_1, if_pos c_2, if_pos c_3, if_pos c_5]; exact ⟨rfl, show ¬ (2 : Int32) = 0 by decide⟩) (Nat.le_of_ble_eq_true rfl) (Nat.le_of_ble_eq_true rfl) (Nat.le_of_ble_eq_true rfl) (Nat.le_of_ble_eq_true rfl) hlk (Nat.le_of_ble_eq_true rfl) (Nat.le_of_ble_eq_true rfl) dX7_version_43 dX7_version_46 dX7_version_47 dX7_version_49 dX7_version_52
  · refine lv_iload_n hx hb dX7_version_27 rfl (lv_at hl 3 rfl) ?_
    refine lv_iconst (v := 3) hx hb dX7_version_28 (by decide) ?_
    refine lv_icmp_gt (tgt := 43) hx hb dX7_version_29 (by decide) (fun c_6 => ?_) (fun c_6 => ?_)
    · exact ox_throwS (cls := "java/lang/IllegalArgumentException") (text := "not the class's event, or before its latest version") hx hb hlt hown (hts _ (List.mem_of_getElem? (i := 1) rfl)) (hts _ (List.mem_of_getElem? (i := 2) rfl)) hat_2 (by decide +kernel) (by decide +kernel) hK hW hS hKX (by decide +kernel) (hl.1.trans hml.symm) hxt (by rw [m_X7_version, if_pos c_1, if_pos c_2, if_pos c_3, if_neg c_5, if_pos c_6]; exact ⟨rfl, show ¬ (2 : Int32) = 0 by decide⟩) (Nat.le_of_ble_eq_true rfl) (Nat.le_of_ble_eq_true rfl) (Nat.le_of_ble_eq_true rfl) (Nat.le_of_ble_eq_true rfl) hlk (Nat.le_of_ble_eq_true rfl) (Nat.le_of_ble_eq_true rfl) dX7_version_43 dX7_version_46 dX7_version_47 dX7_version_49 dX7_version_52
    · refine lv_aload hx hb dX7_version_32 (lv_at hl 0 rfl) ?_
      refine lv_iload_n hx hb dX7_version_34 rfl (lv_at hl 3 rfl) ?_
      refine lv_iload hx hb dX7_version_35 (lv_at hl 7 rfl) ?_
      have h_7 : 0 ≤ (q.1 10 (Int32.toNatClampNeg cl) 4).toInt ∧ (q.1 10 (Int32.toNatClampNeg cl) 4).toInt ≤ 6 := by
        have u_1 := rg_e ev
        have u_2 := rg_e day
        have u_3 := rg_e (m_X7_needClass cl)
        have k_4 : (0 : Int32).toInt = 0 := rfl
        have v_5 := cv_eq c_1
        have u_6 := rg_e cl
        have v_7 := ncl_t c_1
        have u_8 := rg_e (m_X7_needTerm yr mo)
        have v_9 := cv_eq c_2
        have u_10 := rg_e yr
        have u_11 := rg_e mo
        have v_12 := nte_t c_2
        have u_13 := rg_e (m_X7_needDay day)
        have v_14 := cv_eq c_3
        have v_15 := nda_t c_3
        have v_16 := cv_nlt c_5
        have k_17 : (3 : Int32).toInt = 3 := rfl
        have v_18 := cv_nlt c_6
        have w_19 := hI.2.2.2.2.2.2.2.2.2.2.1
        have w_20 := hI.2.2.2.1 (Int32.toNatClampNeg cl)
        exact by omega
      refine ow_callVi (C := RX6) (T := TX6) (N := 5) (ci := 5) (k := 10) (j := (Int32.toNatClampNeg cl)) (n := 2) (As := [.int ev, .int day]) (rest := []) (r := (m_X6_goesOnWith q (Int32.toNatClampNeg cl) ev day)) (z2 := q) ⟨hx, hb, hml, hown, hts⟩ (c_X6_goesOnWith l D b0 cA ad mq q (Int32.toNatClampNeg cl) ev day (lt8 b_4) h_7) (PO_k10 (lt8 b_4)) rfl gX7_version_X6_goesOnWith rfl (by decide +kernel) rfl ⟨Nat.le_of_ble_eq_true rfl, Nat.le_of_ble_eq_true rfl⟩ ⟨Nat.le_of_ble_eq_true rfl, Nat.le_of_ble_eq_true rfl⟩ hK hW hS hKD hl.1 rfl (Nat.le_of_ble_eq_true rfl) dX7_version_37 (fun H locs hW hS => ?_)
      refine lv_if_ne (tgt := 53) hx hb dX7_version_40 (by decide) (fun c_8 => ?_) (fun c_8 => ?_)
      · refine lv_aload_n hx hb dX7_version_53 rfl (lv_at hl 1 rfl) ?_
        refine lv_iconst (v := 1) hx hb dX7_version_54 (by decide) ?_
        refine ox_callVv (C := RX7) (T := TX7) (N := 11) (ci := 6) (k := 0) (j := 0) (n := 1) (As := [.int 1]) (rest := []) (z2 := q) (k0 := (m_X7_needRoom q 1)) ⟨hx, hb, hml, hown, hts⟩ (c_X7_needRoom l hlt D b0 cA ad mq q 1) (PO_k0) rfl gX7_version_X7_needRoom rfl (by decide +kernel) rfl ⟨Nat.le_of_ble_eq_true rfl, Nat.le_of_ble_eq_true rfl⟩ ⟨Nat.le_of_ble_eq_true rfl, Nat.le_of_ble_eq_true rfl⟩ hK hW hS hKD hKX hz hl.1 rfl (Nat.le_of_ble_eq_true rfl) dX7_version_55 (fun hne H locs ce q9 hW hS h1 h2 h3 => ox_out hxt hlk hK (by rw [m_X7_version, if_pos c_1, if_pos c_2, if_pos c_3, if_neg c_5, if_neg c_6, if_neg c_8, if_neg hne]) hne hW hS h1 h2 h3 (Nat.le_of_ble_eq_true rfl) (Nat.le_of_ble_eq_true rfl)) (fun c_9 H locs hW hS => ?_)
        refine lv_aload hx hb dX7_version_58 (lv_at hl 0 rfl) ?_
        refine ow_get (v2 := .int (q.1 10 (Int32.toNatClampNeg cl) 4)) (ci := 5) (C := RX6) (T := TX6) (N := 5) hx hb hts hin_X6 hown hK hW 10 (Int32.toNatClampNeg cl) (PO_k10 (lt8 b_4)) rfl 4 (by decide) (List.mem_of_getElem? (i := 6) rfl) rfl rfl rfl dX7_version_60 ?_
        refine lv_bipush (v := 6) hx hb dX7_version_63 (by decide) ?_
        refine lv_icmp_lt (tgt := 78) hx hb dX7_version_65 (by decide) (fun c_10 => ?_) (fun c_10 => ?_)
        · refine lv_iload_n hx hb dX7_version_78 rfl (lv_at hl 4 rfl) ?_
          refine lv_bipush (v := 12) hx hb dX7_version_79 (by decide) ?_
          refine lv_imul hx hb dX7_version_81 ?_
          refine lv_iload hx hb dX7_version_82 (lv_at hl 5 rfl) ?_
          refine lv_iadd hx hb dX7_version_84 ?_
          refine lv_istore (lv' := [(8, .int ((yr * 12) + mo)), (7, .ref (ad 10 (Int32.toNatClampNeg cl))), (0, .ref (ad 0 0)), (1, .int cl), (2, .int ev), (3, .int yr), (4, .int mo), (5, .int fa), (6, .int day)]) hx hb dX7_version_85 hl (by decide) rfl (fun ls hl => ?_)
          refine lv_aload hx hb dX7_version_87 (lv_at hl 1 rfl) ?_
          refine lv_iload_n hx hb dX7_version_89 rfl (lv_at hl 4 rfl) ?_
          refine lv_iload hx hb dX7_version_90 (lv_at hl 0 rfl) ?_
          refine lv_iload hx hb dX7_version_92 (lv_at hl 7 rfl) ?_
          refine lv_iload hx hb dX7_version_94 (lv_at hl 8 rfl) ?_
          have h_11 : 0 ≤ (q.1 10 (Int32.toNatClampNeg cl) 4).toInt ∧ (q.1 10 (Int32.toNatClampNeg cl) 4).toInt ≤ 5 := by
            have u_1 := rg_e ev
            have u_2 := rg_e yr
            have k_3 : (12 : Int32).toInt = 12 := rfl
            have u_5 := rg_e mo
            have u_7 := rg_e fa
            have u_8 := rg_e day
            have u_9 := rg_e (m_X7_needClass cl)
            have k_10 : (0 : Int32).toInt = 0 := rfl
            have v_11 := cv_eq c_1
            have u_12 := rg_e cl
            have v_13 := ncl_t c_1
            have u_14 := rg_e (m_X7_needTerm yr mo)
            have v_15 := cv_eq c_2
            have v_16 := nte_t c_2
            have u_17 := rg_e (m_X7_needDay day)
            have v_18 := cv_eq c_3
            have v_19 := nda_t c_3
            have v_20 := cv_nlt c_5
            have k_21 : (3 : Int32).toInt = 3 := rfl
            have v_22 := cv_nlt c_6
            have u_23 := rg_e (m_X6_goesOnWith q (Int32.toNatClampNeg cl) ev day)
            have v_24 := cv_ne c_8
            have u_25 := rg_e (m_X7_needRoom q 1)
            have v_26 := cv_eq c_9
            have k_27 : (1 : Int32).toInt = 1 := rfl
            have v_28 := nro_t hI c_9
            have u_29 := rg_e (q.1 10 (Int32.toNatClampNeg cl) 4)
            have k_30 : (6 : Int32).toInt = 6 := rfl
            have v_31 := cv_lt c_10
            have w_32 := hI.2.2.2.2.2.2.2.2.2.2.1
            have w_33 := hI.2.2.2.1 (Int32.toNatClampNeg cl)
            have u_4 := mr_o 12 yr 12 rfl
            have u_6 := ad_o (yr * 12) mo
            exact by omega
          refine ow_callVv (C := RX6) (T := TX6) (N := 5) (ci := 5) (k := 10) (j := (Int32.toNatClampNeg cl)) (n := 4) (As := [.int ev, .int ((yr * 12) + mo), .int fa, .int day]) (rest := []) (z2 := (cq_i (cq_i (cq_i (cq_i (cq_i q 10 (Int32.toNatClampNeg cl) 3 ev) 11 (Int32.toNatClampNeg cl) (Int32.toNatClampNeg (q.1 10 (Int32.toNatClampNeg cl) 4)) day) 12 (Int32.toNatClampNeg cl) (Int32.toNatClampNeg (q.1 10 (Int32.toNatClampNeg cl) 4)) ((yr * 12) + mo)) 13 (Int32.toNatClampNeg cl) (Int32.toNatClampNeg (q.1 10 (Int32.toNatClampNeg cl) 4)) fa) 10 (Int32.toNatClampNeg cl) 4 ((q.1 10 (Int32.toNatClampNeg cl) 4) + 1))) ⟨hx, hb, hml, hown, hts⟩ (c_X6_add l D b0 cA ad mq q (Int32.toNatClampNeg cl) ev ((yr * 12) + mo) fa day (lt8 b_4) h_11 hbo) (PO_k10 (lt8 b_4)) rfl gX7_version_X6_add rfl (by decide +kernel) rfl ⟨Nat.le_of_ble_eq_true rfl, Nat.le_of_ble_eq_true rfl⟩ ⟨Nat.le_of_ble_eq_true rfl, Nat.le_of_ble_eq_true rfl⟩ hK hW hS hKD hl.1 rfl (Nat.le_of_ble_eq_true rfl) dX7_version_96 (fun H locs hW hS => ?_)
          refine lv_aload_n hx hb dX7_version_99 rfl (lv_at hl 2 rfl) ?_
          refine ow_get (v2 := .ref (ad 7 0)) (ci := 6) (C := RX7) (T := TX7) (N := 11) hx hb hts hin_X7 hown hK hW 0 0 (PO_k0) rfl 6 (by decide) (List.mem_of_getElem? (i := 7) rfl) rfl rfl rfl dX7_version_100 ?_
          refine lv_iconst (v := 1) hx hb dX7_version_103 (by decide) ?_
          refine lv_iload_n hx hb dX7_version_104 rfl (lv_at hl 3 rfl) ?_
          refine lv_iload hx hb dX7_version_105 (lv_at hl 0 rfl) ?_
          refine lv_iload hx hb dX7_version_107 (lv_at hl 8 rfl) ?_
          refine lv_lconst (v := 0) hx hb dX7_version_109 (by decide) ?_
          have h_12 : 0 ≤ ((cq_i (cq_i (cq_i (cq_i (cq_i q 10 (Int32.toNatClampNeg cl) 3 ev) 11 (Int32.toNatClampNeg cl) (Int32.toNatClampNeg (q.1 10 (Int32.toNatClampNeg cl) 4)) day) 12 (Int32.toNatClampNeg cl) (Int32.toNatClampNeg (q.1 10 (Int32.toNatClampNeg cl) 4)) ((yr * 12) + mo)) 13 (Int32.toNatClampNeg cl) (Int32.toNatClampNeg (q.1 10 (Int32.toNatClampNeg cl) 4)) fa) 10 (Int32.toNatClampNeg cl) 4 ((q.1 10 (Int32.toNatClampNeg cl) 4) + 1)).1 7 0 2).toInt ∧ ((cq_i (cq_i (cq_i (cq_i (cq_i q 10 (Int32.toNatClampNeg cl) 3 ev) 11 (Int32.toNatClampNeg cl) (Int32.toNatClampNeg (q.1 10 (Int32.toNatClampNeg cl) 4)) day) 12 (Int32.toNatClampNeg cl) (Int32.toNatClampNeg (q.1 10 (Int32.toNatClampNeg cl) 4)) ((yr * 12) + mo)) 13 (Int32.toNatClampNeg cl) (Int32.toNatClampNeg (q.1 10 (Int32.toNatClampNeg cl) 4)) fa) 10 (Int32.toNatClampNeg cl) 4 ((q.1 10 (Int32.toNatClampNeg cl) 4) + 1)).1 7 0 2).toInt ≤ 399 := by
            rw [show (cq_i (cq_i (cq_i (cq_i (cq_i q 10 (Int32.toNatClampNeg cl) 3 ev) 11 (Int32.toNatClampNeg cl) (Int32.toNatClampNeg (q.1 10 (Int32.toNatClampNeg cl) 4)) day) 12 (Int32.toNatClampNeg cl) (Int32.toNatClampNeg (q.1 10 (Int32.toNatClampNeg cl) 4)) ((yr * 12) + mo)) 13 (Int32.toNatClampNeg cl) (Int32.toNatClampNeg (q.1 10 (Int32.toNatClampNeg cl) 4)) fa) 10 (Int32.toNatClampNeg cl) 4 ((q.1 10 (Int32.toNatClampNeg cl) 4) + 1)).1 7 0 2 = (q.1 7 0 2) from ((cq_ne (by decide)).trans ((cq_ne (by decide)).trans ((cq_ne (by decide)).trans ((cq_ne (by decide)).trans (cq_ne (by decide))))))]
            have k_1 : (1 : Int32).toInt = 1 := rfl
            have u_2 := rg_e cl
            have u_3 := rg_e yr
            have k_4 : (12 : Int32).toInt = 12 := rfl
            have u_6 := rg_e mo
            have u_8 := rg_e day
            have u_9 := rg_e (m_X7_needClass cl)
            have k_10 : (0 : Int32).toInt = 0 := rfl
            have v_11 := cv_eq c_1
            have v_12 := ncl_t c_1
            have u_13 := rg_e (m_X7_needTerm yr mo)
            have v_14 := cv_eq c_2
            have v_15 := nte_t c_2
            have u_16 := rg_e (m_X7_needDay day)
            have v_17 := cv_eq c_3
            have v_18 := nda_t c_3
            have u_19 := rg_e ev
            have v_20 := cv_nlt c_5
            have k_21 : (3 : Int32).toInt = 3 := rfl
            have v_22 := cv_nlt c_6
            have u_23 := rg_e (m_X6_goesOnWith q (Int32.toNatClampNeg cl) ev day)
            have v_24 := cv_ne c_8
            have u_25 := rg_e (m_X7_needRoom q 1)
            have v_26 := cv_eq c_9
            have v_27 := nro_t hI c_9
            have u_28 := rg_e (q.1 10 (Int32.toNatClampNeg cl) 4)
            have k_29 : (6 : Int32).toInt = 6 := rfl
            have v_30 := cv_lt c_10
            have w_31 := hI.2.2.2.2.2.2.2.2.2.2.1
            have w_32 := hI.2.2.2.1 (Int32.toNatClampNeg cl)
            have u_5 := mr_o 12 yr 12 rfl
            have u_7 := ad_o (yr * 12) mo
            exact by omega
          refine ow_callVv (C := RX0) (T := TX0) (N := 3) (ci := 0) (k := 7) (j := 0) (n := 5) (As := [.int 1, .int cl, .int ((yr * 12) + mo), .int day, .long 0]) (rest := []) (z2 := (m_X0_write (cq_i (cq_i (cq_i (cq_i (cq_i q 10 (Int32.toNatClampNeg cl) 3 ev) 11 (Int32.toNatClampNeg cl) (Int32.toNatClampNeg (q.1 10 (Int32.toNatClampNeg cl) 4)) day) 12 (Int32.toNatClampNeg cl) (Int32.toNatClampNeg (q.1 10 (Int32.toNatClampNeg cl) 4)) ((yr * 12) + mo)) 13 (Int32.toNatClampNeg cl) (Int32.toNatClampNeg (q.1 10 (Int32.toNatClampNeg cl) 4)) fa) 10 (Int32.toNatClampNeg cl) 4 ((q.1 10 (Int32.toNatClampNeg cl) 4) + 1)) 1 cl ((yr * 12) + mo) day 0)) ⟨hx, hb, hml, hown, hts⟩ (c_X0_write l D b0 cA ad mq (cq_i (cq_i (cq_i (cq_i (cq_i q 10 (Int32.toNatClampNeg cl) 3 ev) 11 (Int32.toNatClampNeg cl) (Int32.toNatClampNeg (q.1 10 (Int32.toNatClampNeg cl) 4)) day) 12 (Int32.toNatClampNeg cl) (Int32.toNatClampNeg (q.1 10 (Int32.toNatClampNeg cl) 4)) ((yr * 12) + mo)) 13 (Int32.toNatClampNeg cl) (Int32.toNatClampNeg (q.1 10 (Int32.toNatClampNeg cl) 4)) fa) 10 (Int32.toNatClampNeg cl) 4 ((q.1 10 (Int32.toNatClampNeg cl) 4) + 1)) 1 cl ((yr * 12) + mo) day 0 h_12) (PO_k7) rfl gX7_version_X0_write rfl (by decide +kernel) rfl ⟨Nat.le_of_ble_eq_true rfl, Nat.le_of_ble_eq_true rfl⟩ ⟨Nat.le_of_ble_eq_true rfl, Nat.le_of_ble_eq_true rfl⟩ hK hW hS hKD hl.1 rfl (Nat.le_of_ble_eq_true rfl) dX7_version_110 (fun H locs hW hS => ?_)
          refine lv_aload hx hb dX7_version_113 (lv_at hl 1 rfl) ?_
          refine ow_get (v2 := .int ((q.1 10 (Int32.toNatClampNeg cl) 4) + 1)) (ci := 5) (C := RX6) (T := TX6) (N := 5) hx hb hts hin_X6 hown hK hW 10 (Int32.toNatClampNeg cl) (PO_k10 (lt8 b_4)) rfl 4 (by decide) (List.mem_of_getElem? (i := 6) rfl) rfl rfl (congrArg Value.int ((wc_e (by decide) (fun h => absurd h.1 (by decide))).trans (cq_same (cq_i (cq_i (cq_i (cq_i q 10 (Int32.toNatClampNeg cl) 3 ev) 11 (Int32.toNatClampNeg cl) (Int32.toNatClampNeg (q.1 10 (Int32.toNatClampNeg cl) 4)) day) 12 (Int32.toNatClampNeg cl) (Int32.toNatClampNeg (q.1 10 (Int32.toNatClampNeg cl) 4)) ((yr * 12) + mo)) 13 (Int32.toNatClampNeg cl) (Int32.toNatClampNeg (q.1 10 (Int32.toNatClampNeg cl) 4)) fa) 10 (Int32.toNatClampNeg cl) 4 ((q.1 10 (Int32.toNatClampNeg cl) 4) + 1)))) dX7_version_115 ?_
          exact ox_iret hx hb hr hlk hK hW hS (Nat.le_of_ble_eq_true rfl) (Nat.le_of_ble_eq_true rfl) (by rw [m_X7_version, if_pos c_1, if_pos c_2, if_pos c_3, if_neg c_5, if_neg c_6, if_neg c_8, if_pos c_9, if_pos c_10]) dX7_version_118
        · exact ox_throwS (cls := "java/lang/IllegalStateException") (text := "the class has all its versions") hx hb hlt hown (hts _ (List.mem_of_getElem? (i := 3) rfl)) (hts _ (List.mem_of_getElem? (i := 4) rfl)) hat_3 (by decide +kernel) (by decide +kernel) hK hW hS hKX (by decide +kernel) (hl.1.trans hml.symm) hxt (by rw [m_X7_version, if_pos c_1, if_pos c_2, if_pos c_3, if_neg c_5, if_neg c_6, if_neg c_8, if_pos c_9, if_neg c_10]; exact ⟨rfl, show ¬ (3 : Int32) = 0 by decide⟩) (Nat.le_of_ble_eq_true rfl) (Nat.le_of_ble_eq_true rfl) (Nat.le_of_ble_eq_true rfl) (Nat.le_of_ble_eq_true rfl) hlk (Nat.le_of_ble_eq_true rfl) (Nat.le_of_ble_eq_true rfl) dX7_version_68 dX7_version_71 dX7_version_72 dX7_version_74 dX7_version_77
      · exact ox_throwS (cls := "java/lang/IllegalArgumentException") (text := "not the class's event, or before its latest version") hx hb hlt hown (hts _ (List.mem_of_getElem? (i := 1) rfl)) (hts _ (List.mem_of_getElem? (i := 2) rfl)) hat_2 (by decide +kernel) (by decide +kernel) hK hW hS hKX (by decide +kernel) (hl.1.trans hml.symm) hxt (by rw [m_X7_version, if_pos c_1, if_pos c_2, if_pos c_3, if_neg c_5, if_neg c_6, if_pos c_8]; exact ⟨rfl, show ¬ (2 : Int32) = 0 by decide⟩) (Nat.le_of_ble_eq_true rfl) (Nat.le_of_ble_eq_true rfl) (Nat.le_of_ble_eq_true rfl) (Nat.le_of_ble_eq_true rfl) hlk (Nat.le_of_ble_eq_true rfl) (Nat.le_of_ble_eq_true rfl) dX7_version_43 dX7_version_46 dX7_version_47 dX7_version_49 dX7_version_52

def m_X7_carry (q : qC) (li : Int32) (o : Int32) (day : Int32) : Int32 × Int32 × qC := (if (m_X7_listAt q li) = 0 then (if (m_X7_needOfficer o) = 0 then (if (m_X7_needDayOfAct q day) = 0 then (if (m_X7_needOpen q (Int32.toNatClampNeg li)) = 0 then (if (m_X7_needRight q o 4) = 0 then (if 2 ≤ (m_X2_approvals q (Int32.toNatClampNeg li)) then (if (m_X7_needRoom q ((m_J13_bitCount_95d88 ((q.2 17 (Int32.toNatClampNeg li) 1) &&& (m_X7_ripeOn q day))) + 1)) = 0 then (0, (m_J13_bitCount_95d88 ((q.2 17 (Int32.toNatClampNeg li) 1) &&& (m_X7_ripeOn q day))), (m_X0_write (cq_i (cq_i (m_X7_destroyAll q ((q.2 17 (Int32.toNatClampNeg li) 1) &&& (m_X7_ripeOn q day)) li day) 17 (Int32.toNatClampNeg li) 3 0) 0 0 9 day) 12 li day ((m_X2_size (cq_i (cq_i (m_X7_destroyAll q ((q.2 17 (Int32.toNatClampNeg li) 1) &&& (m_X7_ripeOn q day)) li day) 17 (Int32.toNatClampNeg li) 3 0) 0 0 9 day) (Int32.toNatClampNeg li)) - (m_J13_bitCount_95d88 ((q.2 17 (Int32.toNatClampNeg li) 1) &&& (m_X7_ripeOn q day)))) 0)) else ((m_X7_needRoom q ((m_J13_bitCount_95d88 ((q.2 17 (Int32.toNatClampNeg li) 1) &&& (m_X7_ripeOn q day))) + 1)), 0, q)) else (3, 0, q)) else ((m_X7_needRight q o 4), 0, q)) else ((m_X7_needOpen q (Int32.toNatClampNeg li)), 0, q)) else ((m_X7_needDayOfAct q day), 0, q)) else ((m_X7_needOfficer o), 0, q)) else ((m_X7_listAt q li), 0, q))
set_option maxHeartbeats 4000000 in
set_option maxRecDepth 100000 in
theorem c_X7_carry (l : Launch) (hlt : l.stackTraces = false) (D : va_G) (b0 : Nat) (cA : Nat → ClassId) (ad : Nat → Nat → Nat) (mq : qM) (q : qC) (li : Int32) (o : Int32) (day : Int32) (hI : cI q) : xc_i l yX7_carry wsX7_carry 8 137 7 42 D b0 cA ad mq q [.ref (ad 0 0), .int li, .int o, .int day] (m_X7_carry q li o day) := by
  refine xc_of (by decide) rfl (Nat.le_of_ble_eq_true rfl) ?_
  intro p e s m below meth c hx hb hml hr hlk hown hts hK hW hKD hKX hz hxt ls hl
  have hown : s.vm.findClass RX7 = some m.cls := hown
  have hS : va_S (wA b0) s.heap s.heap [] := va_S.rf
  have hl : lv_has ls 8 [(0, .ref (ad 0 0)), (1, .int li), (2, .int o), (3, .int day)] := hl
  have hin_X2 : ∀ w ∈ wsX20, w ∈ wsX7_carry := fun w h => List.mem_cons_of_mem _ (List.mem_append_left _ (List.mem_append_left _ (List.mem_append_left _ (List.mem_append_left _ (List.mem_append_left _ (List.mem_append_left _ (List.mem_append_left _ (List.mem_append_left _ (List.mem_append_left _ (List.mem_append_right _ h))))))))))
  have hin_X7 : ∀ w ∈ wsX70, w ∈ wsX7_carry := fun w h => List.mem_cons_of_mem _ (List.mem_append_left _ (List.mem_append_left _ (List.mem_append_left _ (List.mem_append_left _ (List.mem_append_left _ (List.mem_append_left _ (List.mem_append_left _ (List.mem_append_left _ (List.mem_append_right _ h)))))))))
  have hin_X3 : ∀ w ∈ wsX30, w ∈ wsX7_carry := fun w h => List.mem_cons_of_mem _ (List.mem_append_left _ (List.mem_append_left _ (List.mem_append_left _ (List.mem_append_left _ (List.mem_append_left _ (List.mem_append_left _ (List.mem_append_left _ (List.mem_append_right _ h))))))))
  have hin_X5 : ∀ w ∈ wsX50, w ∈ wsX7_carry := fun w h => List.mem_cons_of_mem _ (List.mem_append_left _ (List.mem_append_left _ (List.mem_append_left _ (List.mem_append_left _ (List.mem_append_left _ (List.mem_append_left _ (List.mem_append_right _ h)))))))
  have hin_X4 : ∀ w ∈ wsX40, w ∈ wsX7_carry := fun w h => List.mem_cons_of_mem _ (List.mem_append_left _ (List.mem_append_left _ (List.mem_append_left _ (List.mem_append_left _ (List.mem_append_left _ (List.mem_append_right _ h))))))
  have hin_X6 : ∀ w ∈ wsX60, w ∈ wsX7_carry := fun w h => List.mem_cons_of_mem _ (List.mem_append_left _ (List.mem_append_left _ (List.mem_append_left _ (List.mem_append_left _ (List.mem_append_right _ h)))))
  have hin_X0 : ∀ w ∈ wsX00, w ∈ wsX7_carry := fun w h => List.mem_cons_of_mem _ (List.mem_append_left _ (List.mem_append_left _ (List.mem_append_left _ (List.mem_append_right _ h))))
  have hat_3 := xat_3 (fun w h => hts w (List.mem_cons_of_mem _ (List.mem_append_left _ (List.mem_append_left _ (List.mem_append_right _ h))))) hKX
  refine lv_aload_n hx hb dX7_carry_0 rfl (lv_at hl 0 rfl) ?_
  refine lv_iload_n hx hb dX7_carry_1 rfl (lv_at hl 1 rfl) ?_
  refine ox_callVr (C := RX7) (T := TX7) (N := 11) (ci := 6) (k := 0) (j := 0) (n := 1) (As := [.int li]) (rest := []) (a := (ad 17 (Int32.toNatClampNeg li))) (k0 := (m_X7_listAt q li)) ⟨hx, hb, hml, hown, hts⟩ (c_X7_listAt l hlt D b0 cA ad mq q li hI) (PO_k0) rfl gX7_carry_X7_listAt rfl (by decide +kernel) rfl ⟨Nat.le_of_ble_eq_true rfl, Nat.le_of_ble_eq_true rfl⟩ ⟨Nat.le_of_ble_eq_true rfl, Nat.le_of_ble_eq_true rfl⟩ hK hW hS hKD hKX hz hl.1 rfl (Nat.le_of_ble_eq_true rfl) dX7_carry_2 (fun hne H locs ce q9 hW hS h1 h2 h3 => ox_out hxt hlk hK (by rw [m_X7_carry, if_neg hne]) hne hW hS h1 h2 h3 (Nat.le_of_ble_eq_true rfl) (Nat.le_of_ble_eq_true rfl)) (fun c_1 H locs hW hS => ?_)
  refine lv_astore (lv' := [(4, .ref (ad 17 (Int32.toNatClampNeg li))), (0, .ref (ad 0 0)), (1, .int li), (2, .int o), (3, .int day)]) hx hb dX7_carry_5 hl (by decide) rfl (fun ls hl => ?_)
  refine lv_iload_n hx hb dX7_carry_7 rfl (lv_at hl 3 rfl) ?_
  refine ox_callSv (n := 1) (As := [.int o]) (rest := []) (z2 := q) (k0 := (m_X7_needOfficer o)) ⟨hx, hb, hml, hown, hts⟩ (c_X7_needOfficer l hlt D b0 cA ad mq q o) gX7_carry_X7_needOfficer rfl (by decide +kernel) rfl ⟨Nat.le_of_ble_eq_true rfl, Nat.le_of_ble_eq_true rfl⟩ ⟨Nat.le_of_ble_eq_true rfl, Nat.le_of_ble_eq_true rfl⟩ hK hW hS hKD hKX hz hl.1 rfl (Nat.le_of_ble_eq_true rfl) dX7_carry_8 (fun hne H locs ce q9 hW hS h1 h2 h3 => ox_out hxt hlk hK (by rw [m_X7_carry, if_pos c_1, if_neg hne]) hne hW hS h1 h2 h3 (Nat.le_of_ble_eq_true rfl) (Nat.le_of_ble_eq_true rfl)) (fun c_2 H locs hW hS => ?_)
  refine lv_aload_n hx hb dX7_carry_11 rfl (lv_at hl 1 rfl) ?_
  refine lv_iload_n hx hb dX7_carry_12 rfl (lv_at hl 4 rfl) ?_
  refine ox_callVv (C := RX7) (T := TX7) (N := 11) (ci := 6) (k := 0) (j := 0) (n := 1) (As := [.int day]) (rest := []) (z2 := q) (k0 := (m_X7_needDayOfAct q day)) ⟨hx, hb, hml, hown, hts⟩ (c_X7_needDayOfAct l hlt D b0 cA ad mq q day) (PO_k0) rfl gX7_carry_X7_needDayOfAct rfl (by decide +kernel) rfl ⟨Nat.le_of_ble_eq_true rfl, Nat.le_of_ble_eq_true rfl⟩ ⟨Nat.le_of_ble_eq_true rfl, Nat.le_of_ble_eq_true rfl⟩ hK hW hS hKD hKX hz hl.1 rfl (Nat.le_of_ble_eq_true rfl) dX7_carry_13 (fun hne H locs ce q9 hW hS h1 h2 h3 => ox_out hxt hlk hK (by rw [m_X7_carry, if_pos c_1, if_pos c_2, if_neg hne]) hne hW hS h1 h2 h3 (Nat.le_of_ble_eq_true rfl) (Nat.le_of_ble_eq_true rfl)) (fun c_3 H locs hW hS => ?_)
  refine lv_aload hx hb dX7_carry_16 (lv_at hl 0 rfl) ?_
  refine ox_callSv (n := 1) (As := [.ref (ad 17 (Int32.toNatClampNeg li))]) (rest := []) (z2 := q) (k0 := (m_X7_needOpen q (Int32.toNatClampNeg li))) ⟨hx, hb, hml, hown, hts⟩ (c_X7_needOpen l hlt D b0 cA ad mq q (Int32.toNatClampNeg li) (la_p hI c_1)) gX7_carry_X7_needOpen rfl (by decide +kernel) rfl ⟨Nat.le_of_ble_eq_true rfl, Nat.le_of_ble_eq_true rfl⟩ ⟨Nat.le_of_ble_eq_true rfl, Nat.le_of_ble_eq_true rfl⟩ hK hW hS hKD hKX hz hl.1 rfl (Nat.le_of_ble_eq_true rfl) dX7_carry_18 (fun hne H locs ce q9 hW hS h1 h2 h3 => ox_out hxt hlk hK (by rw [m_X7_carry, if_pos c_1, if_pos c_2, if_pos c_3, if_neg hne]) hne hW hS h1 h2 h3 (Nat.le_of_ble_eq_true rfl) (Nat.le_of_ble_eq_true rfl)) (fun c_4 H locs hW hS => ?_)
  refine lv_aload_n hx hb dX7_carry_21 rfl (lv_at hl 1 rfl) ?_
  refine lv_iload_n hx hb dX7_carry_22 rfl (lv_at hl 3 rfl) ?_
  refine lv_iconst (v := 4) hx hb dX7_carry_23 (by decide) ?_
  have h_5 : 0 ≤ (o : Int32).toInt ∧ (o : Int32).toInt ≤ 7 := by
    have u_1 := rg_e o
    have k_2 : (4 : Int32).toInt = 4 := rfl
    have u_3 := rg_e (m_X7_listAt q li)
    have k_4 : (0 : Int32).toInt = 0 := rfl
    have v_5 := cv_eq c_1
    have u_6 := rg_e li
    have v_7 := lat_t c_1
    have u_8 := rg_e (m_X7_needOfficer o)
    have v_9 := cv_eq c_2
    have v_10 := nof_t c_2
    have u_11 := rg_e (m_X7_needDayOfAct q day)
    have v_12 := cv_eq c_3
    have u_13 := rg_e day
    have v_14 := ndo_t c_3
    have u_15 := rg_e (m_X7_needOpen q (Int32.toNatClampNeg li))
    have v_16 := cv_eq c_4
    have w_17 := hI.2.2.2.2.2.2.2.2.2.2.1
    exact by omega
  refine ox_callVv (C := RX7) (T := TX7) (N := 11) (ci := 6) (k := 0) (j := 0) (n := 2) (As := [.int o, .int 4]) (rest := []) (z2 := q) (k0 := (m_X7_needRight q o 4)) ⟨hx, hb, hml, hown, hts⟩ (c_X7_needRight l hlt D b0 cA ad mq q o 4 h_5) (PO_k0) rfl gX7_carry_X7_needRight rfl (by decide +kernel) rfl ⟨Nat.le_of_ble_eq_true rfl, Nat.le_of_ble_eq_true rfl⟩ ⟨Nat.le_of_ble_eq_true rfl, Nat.le_of_ble_eq_true rfl⟩ hK hW hS hKD hKX hz hl.1 rfl (Nat.le_of_ble_eq_true rfl) dX7_carry_24 (fun hne H locs ce q9 hW hS h1 h2 h3 => ox_out hxt hlk hK (by rw [m_X7_carry, if_pos c_1, if_pos c_2, if_pos c_3, if_pos c_4, if_neg hne]) hne hW hS h1 h2 h3 (Nat.le_of_ble_eq_true rfl) (Nat.le_of_ble_eq_true rfl)) (fun c_6 H locs hW hS => ?_)
  refine lv_aload hx hb dX7_carry_27 (lv_at hl 0 rfl) ?_
  refine ow_callVi (C := RX2) (T := TX2) (N := 4) (ci := 1) (k := 17) (j := (Int32.toNatClampNeg li)) (n := 0) (As := []) (rest := []) (r := (m_X2_approvals q (Int32.toNatClampNeg li))) (z2 := q) ⟨hx, hb, hml, hown, hts⟩ (c_X2_approvals l D b0 cA ad mq q (Int32.toNatClampNeg li) (la_p hI c_1)) (PO_k17 (la_p hI c_1)) rfl gX7_carry_X2_approvals rfl (by decide +kernel) rfl ⟨Nat.le_of_ble_eq_true rfl, Nat.le_of_ble_eq_true rfl⟩ ⟨Nat.le_of_ble_eq_true rfl, Nat.le_of_ble_eq_true rfl⟩ hK hW hS hKD hl.1 rfl (Nat.le_of_ble_eq_true rfl) dX7_carry_29 (fun H locs hW hS => ?_)
  refine lv_iconst (v := 2) hx hb dX7_carry_32 (by decide) ?_
  refine lv_icmp_ge (tgt := 47) hx hb dX7_carry_33 (by decide) (fun c_7 => ?_) (fun c_7 => ?_)
  · refine lv_aload hx hb dX7_carry_47 (lv_at hl 0 rfl) ?_
    refine ow_get (v2 := .long (q.2 17 (Int32.toNatClampNeg li) 1)) (ci := 1) (C := RX2) (T := TX2) (N := 4) hx hb hts hin_X2 hown hK hW 17 (Int32.toNatClampNeg li) (PO_k17 (la_p hI c_1)) rfl 1 (by decide) (List.mem_of_getElem? (i := 3) rfl) rfl rfl rfl dX7_carry_49 ?_
    refine lv_aload_n hx hb dX7_carry_52 rfl (lv_at hl 1 rfl) ?_
    refine lv_iload_n hx hb dX7_carry_53 rfl (lv_at hl 4 rfl) ?_
    refine ow_callVl (C := RX7) (T := TX7) (N := 11) (ci := 6) (k := 0) (j := 0) (n := 1) (As := [.int day]) (rest := [.long (q.2 17 (Int32.toNatClampNeg li) 1)]) (r := (m_X7_ripeOn q day)) (z2 := q) ⟨hx, hb, hml, hown, hts⟩ (c_X7_ripeOn l D b0 cA ad mq q day hI) (PO_k0) rfl gX7_carry_X7_ripeOn rfl (by decide +kernel) rfl ⟨Nat.le_of_ble_eq_true rfl, Nat.le_of_ble_eq_true rfl⟩ ⟨Nat.le_of_ble_eq_true rfl, Nat.le_of_ble_eq_true rfl⟩ hK hW hS hKD hl.1 rfl (Nat.le_of_ble_eq_true rfl) dX7_carry_54 (fun H locs hW hS => ?_)
    refine lv_land hx hb dX7_carry_57 ?_
    refine lv_lstore (lv' := [(5, .long ((q.2 17 (Int32.toNatClampNeg li) 1) &&& (m_X7_ripeOn q day))), (4, .ref (ad 17 (Int32.toNatClampNeg li))), (0, .ref (ad 0 0)), (1, .int li), (2, .int o), (3, .int day)]) hx hb dX7_carry_58 hl (by decide) rfl (fun ls hl => ?_)
    refine lv_lload hx hb dX7_carry_60 (lv_at hl 0 rfl) ?_
    refine ow_callSi (n := 1) (As := [.long ((q.2 17 (Int32.toNatClampNeg li) 1) &&& (m_X7_ripeOn q day))]) (rest := []) (r := (m_J13_bitCount_95d88 ((q.2 17 (Int32.toNatClampNeg li) 1) &&& (m_X7_ripeOn q day)))) (z2 := q) ⟨hx, hb, hml, hown, hts⟩ (c_J13_bitCount_95d88 l D b0 cA ad mq q ((q.2 17 (Int32.toNatClampNeg li) 1) &&& (m_X7_ripeOn q day))) gX7_carry_J13_bitCount_95d88 rfl (by decide +kernel) rfl ⟨Nat.le_of_ble_eq_true rfl, Nat.le_of_ble_eq_true rfl⟩ ⟨Nat.le_of_ble_eq_true rfl, Nat.le_of_ble_eq_true rfl⟩ hK hW hS hKD hl.1 rfl (Nat.le_of_ble_eq_true rfl) dX7_carry_62 (fun H locs hW hS => ?_)
    refine lv_istore (lv' := [(7, .int (m_J13_bitCount_95d88 ((q.2 17 (Int32.toNatClampNeg li) 1) &&& (m_X7_ripeOn q day)))), (5, .long ((q.2 17 (Int32.toNatClampNeg li) 1) &&& (m_X7_ripeOn q day))), (4, .ref (ad 17 (Int32.toNatClampNeg li))), (0, .ref (ad 0 0)), (1, .int li), (2, .int o), (3, .int day)]) hx hb dX7_carry_65 hl (by decide) rfl (fun ls hl => ?_)
    refine lv_aload_n hx hb dX7_carry_67 rfl (lv_at hl 3 rfl) ?_
    refine lv_iload hx hb dX7_carry_68 (lv_at hl 0 rfl) ?_
    refine lv_iconst (v := 1) hx hb dX7_carry_70 (by decide) ?_
    refine lv_iadd hx hb dX7_carry_71 ?_
    refine ox_callVv (C := RX7) (T := TX7) (N := 11) (ci := 6) (k := 0) (j := 0) (n := 1) (As := [.int ((m_J13_bitCount_95d88 ((q.2 17 (Int32.toNatClampNeg li) 1) &&& (m_X7_ripeOn q day))) + 1)]) (rest := []) (z2 := q) (k0 := (m_X7_needRoom q ((m_J13_bitCount_95d88 ((q.2 17 (Int32.toNatClampNeg li) 1) &&& (m_X7_ripeOn q day))) + 1))) ⟨hx, hb, hml, hown, hts⟩ (c_X7_needRoom l hlt D b0 cA ad mq q ((m_J13_bitCount_95d88 ((q.2 17 (Int32.toNatClampNeg li) 1) &&& (m_X7_ripeOn q day))) + 1)) (PO_k0) rfl gX7_carry_X7_needRoom rfl (by decide +kernel) rfl ⟨Nat.le_of_ble_eq_true rfl, Nat.le_of_ble_eq_true rfl⟩ ⟨Nat.le_of_ble_eq_true rfl, Nat.le_of_ble_eq_true rfl⟩ hK hW hS hKD hKX hz hl.1 rfl (Nat.le_of_ble_eq_true rfl) dX7_carry_72 (fun hne H locs ce q9 hW hS h1 h2 h3 => ox_out hxt hlk hK (by rw [m_X7_carry, if_pos c_1, if_pos c_2, if_pos c_3, if_pos c_4, if_pos c_6, if_pos c_7, if_neg hne]) hne hW hS h1 h2 h3 (Nat.le_of_ble_eq_true rfl) (Nat.le_of_ble_eq_true rfl)) (fun c_8 H locs hW hS => ?_)
    refine lv_aload_n hx hb dX7_carry_75 rfl (lv_at hl 3 rfl) ?_
    refine lv_lload hx hb dX7_carry_76 (lv_at hl 1 rfl) ?_
    refine lv_iload_n hx hb dX7_carry_78 rfl (lv_at hl 4 rfl) ?_
    refine lv_iload_n hx hb dX7_carry_79 rfl (lv_at hl 6 rfl) ?_
    refine ow_callVv (C := RX7) (T := TX7) (N := 11) (ci := 6) (k := 0) (j := 0) (n := 3) (As := [.long ((q.2 17 (Int32.toNatClampNeg li) 1) &&& (m_X7_ripeOn q day)), .int li, .int day]) (rest := []) (z2 := (m_X7_destroyAll q ((q.2 17 (Int32.toNatClampNeg li) 1) &&& (m_X7_ripeOn q day)) li day)) ⟨hx, hb, hml, hown, hts⟩ (c_X7_destroyAll l D b0 cA ad mq q ((q.2 17 (Int32.toNatClampNeg li) 1) &&& (m_X7_ripeOn q day)) li day hI (by have := cr_cn hI c_8; omega)) (PO_k0) rfl gX7_carry_X7_destroyAll rfl (by decide +kernel) rfl ⟨Nat.le_of_ble_eq_true rfl, Nat.le_of_ble_eq_true rfl⟩ ⟨Nat.le_of_ble_eq_true rfl, Nat.le_of_ble_eq_true rfl⟩ hK hW hS hKD hl.1 rfl (Nat.le_of_ble_eq_true rfl) dX7_carry_80 (fun H locs hW hS => ?_)
    refine lv_aload hx hb dX7_carry_83 (lv_at hl 2 rfl) ?_
    refine lv_iconst (v := 0) hx hb dX7_carry_85 (by decide) ?_
    refine ow_puti (ci := 1) (C := RX2) (T := TX2) (N := 4) (ty := .boolean) hx hb hts hin_X2 tyX2 tyX2_ok nmX2 hown hK hW hS 17 (Int32.toNatClampNeg li) (PO_k17 (fun hq => (la_p hI c_1) ((dA_e (by decide) (fun h => absurd h.1 (by decide)) (fun h => absurd h.1 (by decide))).symm.trans hq))) rfl 3 (by decide) (List.mem_of_getElem? (i := 4) rfl) rfl rfl (by decide +kernel) rfl rfl (Nat.le_of_ble_eq_true rfl) (by decide) (PO_w17_3 (fun hq => (la_p hI c_1) ((dA_e (by decide) (fun h => absurd h.1 (by decide)) (fun h => absurd h.1 (by decide))).symm.trans hq))) dX7_carry_86 (fun H locs hW hS => ?_)
    refine lv_aload_n hx hb dX7_carry_89 rfl (lv_at hl 3 rfl) ?_
    refine lv_iload_n hx hb dX7_carry_90 rfl (lv_at hl 6 rfl) ?_
    refine ow_puti (ci := 6) (C := RX7) (T := TX7) (N := 11) (ty := .int) hx hb hts hin_X7 tyX7 tyX7_ok nmX7 hown hK hW hS 0 0 (PO_k0) rfl 9 (by decide) (List.mem_of_getElem? (i := 5) rfl) rfl rfl (by decide +kernel) rfl rfl (Nat.le_of_ble_eq_true rfl) (by decide) (PO_w0_9) dX7_carry_91 (fun H locs hW hS => ?_)
    refine lv_aload_n hx hb dX7_carry_94 rfl (lv_at hl 3 rfl) ?_
    refine ow_get (v2 := .ref (ad 7 0)) (ci := 6) (C := RX7) (T := TX7) (N := 11) hx hb hts hin_X7 hown hK hW 0 0 (PO_k0) rfl 6 (by decide) (List.mem_of_getElem? (i := 6) rfl) rfl rfl rfl dX7_carry_95 ?_
    refine lv_bipush (v := 12) hx hb dX7_carry_98 (by decide) ?_
    refine lv_iload_n hx hb dX7_carry_100 rfl (lv_at hl 4 rfl) ?_
    refine lv_iload_n hx hb dX7_carry_101 rfl (lv_at hl 6 rfl) ?_
    refine lv_aload hx hb dX7_carry_102 (lv_at hl 2 rfl) ?_
    refine ow_callVi (C := RX2) (T := TX2) (N := 4) (ci := 1) (k := 17) (j := (Int32.toNatClampNeg li)) (n := 0) (As := []) (rest := [.int day, .int li, .int 12, .ref (ad 7 0)]) (r := (m_X2_size (cq_i (cq_i (m_X7_destroyAll q ((q.2 17 (Int32.toNatClampNeg li) 1) &&& (m_X7_ripeOn q day)) li day) 17 (Int32.toNatClampNeg li) 3 0) 0 0 9 day) (Int32.toNatClampNeg li))) (z2 := (cq_i (cq_i (m_X7_destroyAll q ((q.2 17 (Int32.toNatClampNeg li) 1) &&& (m_X7_ripeOn q day)) li day) 17 (Int32.toNatClampNeg li) 3 0) 0 0 9 day)) ⟨hx, hb, hml, hown, hts⟩ (c_X2_size l D b0 cA ad mq (cq_i (cq_i (m_X7_destroyAll q ((q.2 17 (Int32.toNatClampNeg li) 1) &&& (m_X7_ripeOn q day)) li day) 17 (Int32.toNatClampNeg li) 3 0) 0 0 9 day) (Int32.toNatClampNeg li) (fun hq => (la_p hI c_1) (((cq_ne (by decide)).trans ((cq_ne (by decide)).trans (dA_e (by decide) (fun h => absurd h.1 (by decide)) (fun h => absurd h.1 (by decide))))).symm.trans hq))) (PO_k17 (fun hq => (la_p hI c_1) (((cq_ne (by decide)).trans ((cq_ne (by decide)).trans (dA_e (by decide) (fun h => absurd h.1 (by decide)) (fun h => absurd h.1 (by decide))))).symm.trans hq))) rfl gX7_carry_X2_size rfl (by decide +kernel) rfl ⟨Nat.le_of_ble_eq_true rfl, Nat.le_of_ble_eq_true rfl⟩ ⟨Nat.le_of_ble_eq_true rfl, Nat.le_of_ble_eq_true rfl⟩ hK hW hS hKD hl.1 rfl (Nat.le_of_ble_eq_true rfl) dX7_carry_104 (fun H locs hW hS => ?_)
    refine lv_iload hx hb dX7_carry_107 (lv_at hl 0 rfl) ?_
    refine lv_isub hx hb dX7_carry_109 ?_
    refine lv_lconst (v := 0) hx hb dX7_carry_110 (by decide) ?_
    refine ow_callVv (C := RX0) (T := TX0) (N := 3) (ci := 0) (k := 7) (j := 0) (n := 5) (As := [.int 12, .int li, .int day, .int ((m_X2_size (cq_i (cq_i (m_X7_destroyAll q ((q.2 17 (Int32.toNatClampNeg li) 1) &&& (m_X7_ripeOn q day)) li day) 17 (Int32.toNatClampNeg li) 3 0) 0 0 9 day) (Int32.toNatClampNeg li)) - (m_J13_bitCount_95d88 ((q.2 17 (Int32.toNatClampNeg li) 1) &&& (m_X7_ripeOn q day)))), .long 0]) (rest := []) (z2 := (m_X0_write (cq_i (cq_i (m_X7_destroyAll q ((q.2 17 (Int32.toNatClampNeg li) 1) &&& (m_X7_ripeOn q day)) li day) 17 (Int32.toNatClampNeg li) 3 0) 0 0 9 day) 12 li day ((m_X2_size (cq_i (cq_i (m_X7_destroyAll q ((q.2 17 (Int32.toNatClampNeg li) 1) &&& (m_X7_ripeOn q day)) li day) 17 (Int32.toNatClampNeg li) 3 0) 0 0 9 day) (Int32.toNatClampNeg li)) - (m_J13_bitCount_95d88 ((q.2 17 (Int32.toNatClampNeg li) 1) &&& (m_X7_ripeOn q day)))) 0)) ⟨hx, hb, hml, hown, hts⟩ (c_X0_write l D b0 cA ad mq (cq_i (cq_i (m_X7_destroyAll q ((q.2 17 (Int32.toNatClampNeg li) 1) &&& (m_X7_ripeOn q day)) li day) 17 (Int32.toNatClampNeg li) 3 0) 0 0 9 day) 12 li day ((m_X2_size (cq_i (cq_i (m_X7_destroyAll q ((q.2 17 (Int32.toNatClampNeg li) 1) &&& (m_X7_ripeOn q day)) li day) 17 (Int32.toNatClampNeg li) 3 0) 0 0 9 day) (Int32.toNatClampNeg li)) - (m_J13_bitCount_95d88 ((q.2 17 (Int32.toNatClampNeg li) 1) &&& (m_X7_ripeOn q day)))) 0 (by rw [cq_nx (by decide), cq_nx (by decide)]; exact cr_s hI c_8)) (PO_k7) rfl gX7_carry_X0_write rfl (by decide +kernel) rfl ⟨Nat.le_of_ble_eq_true rfl, Nat.le_of_ble_eq_true rfl⟩ ⟨Nat.le_of_ble_eq_true rfl, Nat.le_of_ble_eq_true rfl⟩ hK hW hS hKD hl.1 rfl (Nat.le_of_ble_eq_true rfl) dX7_carry_111 (fun H locs hW hS => ?_)
    refine lv_iload hx hb dX7_carry_114 (lv_at hl 0 rfl) ?_
    exact ox_iret hx hb hr hlk hK hW hS (Nat.le_of_ble_eq_true rfl) (Nat.le_of_ble_eq_true rfl) (by rw [m_X7_carry, if_pos c_1, if_pos c_2, if_pos c_3, if_pos c_4, if_pos c_6, if_pos c_7, if_pos c_8]) dX7_carry_116
  · exact ox_throwW (cls := "java/lang/IllegalStateException") (text := "too few approved the list") hx hb hlt hown (hts _ (List.mem_of_getElem? (i := 1) rfl)) (hts _ (List.mem_of_getElem? (i := 2) rfl)) hat_3 (by decide +kernel) (by decide +kernel) hK hW hS hKX (by decide +kernel) (hl.1.trans hml.symm) hxt (by rw [m_X7_carry, if_pos c_1, if_pos c_2, if_pos c_3, if_pos c_4, if_pos c_6, if_neg c_7]; exact ⟨rfl, show ¬ (3 : Int32) = 0 by decide⟩) (Nat.le_of_ble_eq_true rfl) (Nat.le_of_ble_eq_true rfl) (Nat.le_of_ble_eq_true rfl) (Nat.le_of_ble_eq_true rfl) hlk (Nat.le_of_ble_eq_true rfl) (Nat.le_of_ble_eq_true rfl) dX7_carry_36 dX7_carry_39 dX7_carry_40 dX7_carry_43 dX7_carry_46

def m_X7_find_lp (q : qC) (key : Int32) (fi : Int32) (la : Int32) (k : Int32) : Nat → Int32 → Int32 → Int32
  | 0, _, _ => 0
  | n + 1, bf, i => (if (q.1 0 0 7) ≤ i then (-1) else (if (q.1 16 (Int32.toNatClampNeg i) 7) = 0 then (if (m_X3_hasKey q (Int32.toNatClampNeg i) key) = 0 then (m_X7_find_lp q key fi la k n bf (i + 1)) else (if (m_X3_isFiledFrom q (Int32.toNatClampNeg i) fi la) = 0 then (m_X7_find_lp q key fi la k n bf (i + 1)) else (if bf = k then i else (m_X7_find_lp q key fi la k n (bf + 1) (i + 1))))) else (m_X7_find_lp q key fi la k n bf (i + 1))))
def m_X7_find (q : qC) (key : Int32) (fi : Int32) (la : Int32) (k : Int32) : Int32 × Int32 := (if key < 0 then (2, 0) else (if 99 < key then (2, 0) else (if 0 ≤ k then (0, (m_X7_find_lp q key fi la k 66 0 0)) else (2, 0))))
set_option maxHeartbeats 4000000 in
set_option maxRecDepth 100000 in
theorem c_X7_find (l : Launch) (hlt : l.stackTraces = false) (D : va_G) (b0 : Nat) (cA : Nat → ClassId) (ad : Nat → Nat → Nat) (mq : qM) (q : qC) (key : Int32) (fi : Int32) (la : Int32) (k : Int32) (hI : cI q) : xc_i l yX7_find wsX7_find 6 90 1 6 D b0 cA ad mq q [.ref (ad 0 0), .int key, .int fi, .int la, .int k] ((m_X7_find q key fi la k).1, (m_X7_find q key fi la k).2, q) := by
  refine xc_of (by decide) rfl (Nat.le_of_ble_eq_true rfl) ?_
  intro p e s m below meth c hx hb hml hr hlk hown hts hK hW hKD hKX hz hxt ls hl
  have hown : s.vm.findClass RX7 = some m.cls := hown
  have hS : va_S (wA b0) s.heap s.heap [] := va_S.rf
  have hl : lv_has ls 8 [(0, .ref (ad 0 0)), (1, .int key), (2, .int fi), (3, .int la), (4, .int k)] := hl
  have hin_X7 : ∀ w ∈ wsX70, w ∈ wsX7_find := fun w h => List.mem_cons_of_mem _ (List.mem_append_left _ (List.mem_append_left _ (List.mem_append_right _ h)))
  have hin_X3 : ∀ w ∈ wsX30, w ∈ wsX7_find := fun w h => List.mem_cons_of_mem _ (List.mem_append_left _ (List.mem_append_right _ h))
  have hat_2 := xat_2 (fun w h => hts w (List.mem_cons_of_mem _ (List.mem_append_right _ h))) hKX
  refine lv_iload_n hx hb dX7_find_0 rfl (lv_at hl 1 rfl) ?_
  refine lv_if_lt (tgt := 15) hx hb dX7_find_1 (by decide) (fun c_1 => ?_) (fun c_1 => ?_)
  · exact ox_throwS (cls := "java/lang/IllegalArgumentException") (text := "no such key or place") hx hb hlt hown (hts _ (List.mem_of_getElem? (i := 1) rfl)) (hts _ (List.mem_of_getElem? (i := 2) rfl)) hat_2 (by decide +kernel) (by decide +kernel) hK hW hS hKX (by decide +kernel) (hl.1.trans hml.symm) hxt (by rw [m_X7_find, if_pos c_1]; exact ⟨rfl, show ¬ (2 : Int32) = 0 by decide⟩) (Nat.le_of_ble_eq_true rfl) (Nat.le_of_ble_eq_true rfl) (Nat.le_of_ble_eq_true rfl) (Nat.le_of_ble_eq_true rfl) hlk (Nat.le_of_ble_eq_true rfl) (Nat.le_of_ble_eq_true rfl) dX7_find_15 dX7_find_18 dX7_find_19 dX7_find_21 dX7_find_24
  · refine lv_iload_n hx hb dX7_find_4 rfl (lv_at hl 1 rfl) ?_
    refine lv_bipush (v := 99) hx hb dX7_find_5 (by decide) ?_
    refine lv_icmp_gt (tgt := 15) hx hb dX7_find_7 (by decide) (fun c_2 => ?_) (fun c_2 => ?_)
    · exact ox_throwS (cls := "java/lang/IllegalArgumentException") (text := "no such key or place") hx hb hlt hown (hts _ (List.mem_of_getElem? (i := 1) rfl)) (hts _ (List.mem_of_getElem? (i := 2) rfl)) hat_2 (by decide +kernel) (by decide +kernel) hK hW hS hKX (by decide +kernel) (hl.1.trans hml.symm) hxt (by rw [m_X7_find, if_neg c_1, if_pos c_2]; exact ⟨rfl, show ¬ (2 : Int32) = 0 by decide⟩) (Nat.le_of_ble_eq_true rfl) (Nat.le_of_ble_eq_true rfl) (Nat.le_of_ble_eq_true rfl) (Nat.le_of_ble_eq_true rfl) hlk (Nat.le_of_ble_eq_true rfl) (Nat.le_of_ble_eq_true rfl) dX7_find_15 dX7_find_18 dX7_find_19 dX7_find_21 dX7_find_24
    · refine lv_iload hx hb dX7_find_10 (lv_at hl 4 rfl) ?_
      refine lv_if_ge (tgt := 25) hx hb dX7_find_12 (by decide) (fun c_3 => ?_) (fun c_3 => ?_)
      · refine lv_iconst (v := 0) hx hb dX7_find_25 (by decide) ?_
        refine lv_istore (lv' := [(5, .int 0), (0, .ref (ad 0 0)), (1, .int key), (2, .int fi), (3, .int la), (4, .int k)]) hx hb dX7_find_26 hl (by decide) rfl (fun ls hl => ?_)
        refine lv_iconst (v := 0) hx hb dX7_find_28 (by decide) ?_
        refine lv_istore (lv' := [(6, .int 0), (5, .int 0), (0, .ref (ad 0 0)), (1, .int key), (2, .int fi), (3, .int la), (4, .int k)]) hx hb dX7_find_29 hl (by decide) rfl (fun ls hl => ?_)
        have lp_18 : ∀ (n : Nat) (bf : Int32) (i : Int32), (0 ≤ i.toInt ∧ i.toInt ≤ 64) → 64 - i.toInt < (n : Int) → ∀ (H : Heap) (locs : List Loc), wd D (wA b0) (PO cA ad q mq) ad H → va_S (wA b0) s.heap H locs → ∀ ls : Array Slot, lv_has ls 8 [(5, .int bf), (6, .int i), (0, .ref (ad 0 0)), (1, .int key), (2, .int fi), (3, .int la), (4, .int k)] → W p l e { frames := 6, cells := 1, slots := 6, locals := 90 } s m [.ref (ad 0 0), .int key, .int fi, .int la, .int k].toArray below meth c H locs 0 0 (vx_MQ below (va_Qi (fun r (_ : Unit) => ((0, (m_X7_find_lp q key fi la k n bf i), q) : Int32 × Int32 × qC).1 = 0 ∧ r = ((0, (m_X7_find_lp q key fi la k n bf i), q) : Int32 × Int32 × qC).2.1) (fun _ U => WE D b0 cA ad mq ((0, (m_X7_find_lp q key fi la k n bf i), q) : Int32 × Int32 × qC).2.2 U) (wA b0)) (xQX D b0 cA ad mq q ((0, (m_X7_find_lp q key fi la k n bf i), q) : Int32 × Int32 × qC).1) [.ref (ad 0 0), .int key, .int fi, .int la, .int k].toArray s 1 6 (wA b0)) (F0 m 31 ls []) := by
          intro n
          induction n with
          | zero =>
            intro bf i i1 hm
            have hz : 0 ≤ 64 - i.toInt := by
              have w_1 := hI.2.2.2.2.2.1
              have w_2 := i1
              omega
            exact absurd hm (by omega)
          | succ n ih =>
            intro bf i i1 hm H locs hW hS ls hl
            rw [m_X7_find_lp]
            refine lv_iload hx hb dX7_find_31 (lv_at hl 1 rfl) ?_
            refine lv_aload_n hx hb dX7_find_33 rfl (lv_at hl 2 rfl) ?_
            refine ow_get (v2 := .int (q.1 0 0 7)) (ci := 6) (C := RX7) (T := TX7) (N := 11) hx hb hts hin_X7 hown hK hW 0 0 (PO_k0) rfl 7 (by decide) (List.mem_of_getElem? (i := 3) rfl) rfl rfl rfl dX7_find_34 ?_
            refine lv_icmp_ge (tgt := 95) hx hb dX7_find_37 (by decide) (fun c_4 => ?_) (fun c_4 => ?_)
            · rw [if_pos c_4]
              refine lv_iconst (v := (-1)) hx hb dX7_find_95 (by decide) ?_
              exact ox_iret hx hb hr hlk hK hW hS (Nat.le_of_ble_eq_true rfl) (Nat.le_of_ble_eq_true rfl) rfl dX7_find_96
            · rw [if_neg c_4]
              refine lv_aload_n hx hb dX7_find_40 rfl (lv_at hl 2 rfl) ?_
              refine ow_get (v2 := .ref (ad 5 0)) (ci := 6) (C := RX7) (T := TX7) (N := 11) hx hb hts hin_X7 hown hK hW 0 0 (PO_k0) rfl 4 (by decide) (List.mem_of_getElem? (i := 4) rfl) rfl rfl rfl dX7_find_41 ?_
              refine lv_iload hx hb dX7_find_44 (lv_at hl 1 rfl) ?_
              have b_5 : vp_in i 64 := by
                have u_1 := rg_e i
                have u_2 := rg_e key
                have k_3 : (0 : Int32).toInt = 0 := rfl
                have v_4 := cv_nlt c_1
                have k_5 : (99 : Int32).toInt = 99 := rfl
                have v_6 := cv_nlt c_2
                have u_7 := rg_e k
                have v_8 := cv_le c_3
                have u_9 := rg_e (q.1 0 0 7)
                have v_10 := cv_nle c_4
                have w_11 := hI.2.2.2.2.2.1
                have w_12 := i1
                exact vp_in_iff.mpr (by omega)
              refine ow_aldp hx hb hK hW 5 0 (PO_k5) 6 rfl b_5 (cI_rec hI i1.1 (cv_nle c_4)) dX7_find_46 ?_
              refine lv_astore (lv' := [(7, .ref (ad 16 (Int32.toNatClampNeg i))), (5, .int bf), (6, .int i), (0, .ref (ad 0 0)), (1, .int key), (2, .int fi), (3, .int la), (4, .int k)]) hx hb dX7_find_47 hl (by decide) rfl (fun ls hl => ?_)
              refine lv_aload hx hb dX7_find_49 (lv_at hl 0 rfl) ?_
              refine ow_get (v2 := .int (q.1 16 (Int32.toNatClampNeg i) 7)) (ci := 2) (C := RX3) (T := TX3) (N := 8) hx hb hts hin_X3 hown hK hW 16 (Int32.toNatClampNeg i) (PO_k16 (cI_rec hI i1.1 (cv_nle c_4))) rfl 7 (by decide) (List.mem_of_getElem? (i := 5) rfl) rfl rfl rfl dX7_find_51 ?_
              refine lv_if_ne (tgt := 89) hx hb dX7_find_54 (by decide) (fun c_6 => ?_) (fun c_6 => ?_)
              · rw [if_neg c_6]
                refine lv_iinc (v := (i + 1)) (lv' := [(6, .int (i + 1)), (7, .ref (ad 16 (Int32.toNatClampNeg i))), (5, .int bf), (0, .ref (ad 0 0)), (1, .int key), (2, .int fi), (3, .int la), (4, .int k)]) hx hb dX7_find_89 hl (k := 2) rfl (by first | rfl | decide) (by decide) rfl (fun ls hl => ?_)
                refine lv_goto (tgt := 31) hx hb dX7_find_92 (by decide) ?_
                have h_7 : 0 ≤ (i + 1).toInt ∧ (i + 1).toInt ≤ 64 := by
                  have u_1 := rg_e bf
                  have u_2 := rg_e i
                  have k_3 : (1 : Int32).toInt = 1 := rfl
                  have u_5 := rg_e key
                  have k_6 : (0 : Int32).toInt = 0 := rfl
                  have v_7 := cv_nlt c_1
                  have k_8 : (99 : Int32).toInt = 99 := rfl
                  have v_9 := cv_nlt c_2
                  have u_10 := rg_e k
                  have v_11 := cv_le c_3
                  have u_12 := rg_e (q.1 0 0 7)
                  have v_13 := cv_nle c_4
                  have u_14 := rg_e (q.1 16 (Int32.toNatClampNeg i) 7)
                  have v_15 := cv_ne c_6
                  have w_16 := hI.2.2.2.2.2.1
                  have w_17 := i1
                  have u_4 := ad_o i 1
                  omega
                have h_8 : 64 - (i + 1).toInt < (n : Int) := by
                  have u_1 := rg_e bf
                  have u_2 := rg_e i
                  have k_3 : (1 : Int32).toInt = 1 := rfl
                  have u_5 := rg_e key
                  have k_6 : (0 : Int32).toInt = 0 := rfl
                  have v_7 := cv_nlt c_1
                  have k_8 : (99 : Int32).toInt = 99 := rfl
                  have v_9 := cv_nlt c_2
                  have u_10 := rg_e k
                  have v_11 := cv_le c_3
                  have u_12 := rg_e (q.1 0 0 7)
                  have v_13 := cv_nle c_4
                  have u_14 := rg_e (q.1 16 (Int32.toNatClampNeg i) 7)
                  have v_15 := cv_ne c_6
                  have w_16 := hI.2.2.2.2.2.1
                  have w_17 := i1
                  have w_18 := hm
                  have u_4 := ad_o i 1
                  omega
                exact ih bf (i + 1) h_7 h_8 _ _ hW hS ls (lv_sub hl [2, 0, 3, 4, 5, 6, 7] rfl)
              · rw [if_pos c_6]
                refine lv_aload hx hb dX7_find_57 (lv_at hl 0 rfl) ?_
                refine lv_iload_n hx hb dX7_find_59 rfl (lv_at hl 4 rfl) ?_
                refine ow_callVi (C := RX3) (T := TX3) (N := 8) (ci := 2) (k := 16) (j := (Int32.toNatClampNeg i)) (n := 1) (As := [.int key]) (rest := []) (r := (m_X3_hasKey q (Int32.toNatClampNeg i) key)) (z2 := q) ⟨hx, hb, hml, hown, hts⟩ (c_X3_hasKey l D b0 cA ad mq q (Int32.toNatClampNeg i) key (cI_rec hI i1.1 (cv_nle c_4))) (PO_k16 (cI_rec hI i1.1 (cv_nle c_4))) rfl gX7_find_X3_hasKey rfl (by decide +kernel) rfl ⟨Nat.le_of_ble_eq_true rfl, Nat.le_of_ble_eq_true rfl⟩ ⟨Nat.le_of_ble_eq_true rfl, Nat.le_of_ble_eq_true rfl⟩ hK hW hS hKD hl.1 rfl (Nat.le_of_ble_eq_true rfl) dX7_find_60 (fun H locs hW hS => ?_)
                refine lv_if_eq (tgt := 89) hx hb dX7_find_63 (by decide) (fun c_9 => ?_) (fun c_9 => ?_)
                · rw [if_pos c_9]
                  refine lv_iinc (v := (i + 1)) (lv' := [(6, .int (i + 1)), (7, .ref (ad 16 (Int32.toNatClampNeg i))), (5, .int bf), (0, .ref (ad 0 0)), (1, .int key), (2, .int fi), (3, .int la), (4, .int k)]) hx hb dX7_find_89 hl (k := 2) rfl (by first | rfl | decide) (by decide) rfl (fun ls hl => ?_)
                  refine lv_goto (tgt := 31) hx hb dX7_find_92 (by decide) ?_
                  have h_10 : 0 ≤ (i + 1).toInt ∧ (i + 1).toInt ≤ 64 := by
                    have u_1 := rg_e bf
                    have u_2 := rg_e i
                    have k_3 : (1 : Int32).toInt = 1 := rfl
                    have u_5 := rg_e key
                    have k_6 : (0 : Int32).toInt = 0 := rfl
                    have v_7 := cv_nlt c_1
                    have k_8 : (99 : Int32).toInt = 99 := rfl
                    have v_9 := cv_nlt c_2
                    have u_10 := rg_e k
                    have v_11 := cv_le c_3
                    have u_12 := rg_e (q.1 0 0 7)
                    have v_13 := cv_nle c_4
                    have u_14 := rg_e (q.1 16 (Int32.toNatClampNeg i) 7)
                    have v_15 := cv_eq c_6
                    have u_16 := rg_e (m_X3_hasKey q (Int32.toNatClampNeg i) key)
                    have v_17 := cv_eq c_9
                    have w_18 := hI.2.2.2.2.2.1
                    have w_19 := i1
                    have u_4 := ad_o i 1
                    omega
                  have h_11 : 64 - (i + 1).toInt < (n : Int) := by
                    have u_1 := rg_e bf
                    have u_2 := rg_e i
                    have k_3 : (1 : Int32).toInt = 1 := rfl
                    have u_5 := rg_e key
                    have k_6 : (0 : Int32).toInt = 0 := rfl
                    have v_7 := cv_nlt c_1
                    have k_8 : (99 : Int32).toInt = 99 := rfl
                    have v_9 := cv_nlt c_2
                    have u_10 := rg_e k
                    have v_11 := cv_le c_3
                    have u_12 := rg_e (q.1 0 0 7)
                    have v_13 := cv_nle c_4
                    have u_14 := rg_e (q.1 16 (Int32.toNatClampNeg i) 7)
                    have v_15 := cv_eq c_6
                    have u_16 := rg_e (m_X3_hasKey q (Int32.toNatClampNeg i) key)
                    have v_17 := cv_eq c_9
                    have w_18 := hI.2.2.2.2.2.1
                    have w_19 := i1
                    have w_20 := hm
                    have u_4 := ad_o i 1
                    omega
                  exact ih bf (i + 1) h_10 h_11 _ _ hW hS ls (lv_sub hl [2, 0, 3, 4, 5, 6, 7] rfl)
                · rw [if_neg c_9]
                  refine lv_aload hx hb dX7_find_66 (lv_at hl 0 rfl) ?_
                  refine lv_iload_n hx hb dX7_find_68 rfl (lv_at hl 5 rfl) ?_
                  refine lv_iload_n hx hb dX7_find_69 rfl (lv_at hl 6 rfl) ?_
                  refine ow_callVi (C := RX3) (T := TX3) (N := 8) (ci := 2) (k := 16) (j := (Int32.toNatClampNeg i)) (n := 2) (As := [.int fi, .int la]) (rest := []) (r := (m_X3_isFiledFrom q (Int32.toNatClampNeg i) fi la)) (z2 := q) ⟨hx, hb, hml, hown, hts⟩ (c_X3_isFiledFrom l D b0 cA ad mq q (Int32.toNatClampNeg i) fi la (cI_rec hI i1.1 (cv_nle c_4))) (PO_k16 (cI_rec hI i1.1 (cv_nle c_4))) rfl gX7_find_X3_isFiledFrom rfl (by decide +kernel) rfl ⟨Nat.le_of_ble_eq_true rfl, Nat.le_of_ble_eq_true rfl⟩ ⟨Nat.le_of_ble_eq_true rfl, Nat.le_of_ble_eq_true rfl⟩ hK hW hS hKD hl.1 rfl (Nat.le_of_ble_eq_true rfl) dX7_find_70 (fun H locs hW hS => ?_)
                  refine lv_if_eq (tgt := 89) hx hb dX7_find_73 (by decide) (fun c_12 => ?_) (fun c_12 => ?_)
                  · rw [if_pos c_12]
                    refine lv_iinc (v := (i + 1)) (lv' := [(6, .int (i + 1)), (7, .ref (ad 16 (Int32.toNatClampNeg i))), (5, .int bf), (0, .ref (ad 0 0)), (1, .int key), (2, .int fi), (3, .int la), (4, .int k)]) hx hb dX7_find_89 hl (k := 2) rfl (by first | rfl | decide) (by decide) rfl (fun ls hl => ?_)
                    refine lv_goto (tgt := 31) hx hb dX7_find_92 (by decide) ?_
                    have h_13 : 0 ≤ (i + 1).toInt ∧ (i + 1).toInt ≤ 64 := by
                      have u_1 := rg_e bf
                      have u_2 := rg_e i
                      have k_3 : (1 : Int32).toInt = 1 := rfl
                      have u_5 := rg_e key
                      have k_6 : (0 : Int32).toInt = 0 := rfl
                      have v_7 := cv_nlt c_1
                      have k_8 : (99 : Int32).toInt = 99 := rfl
                      have v_9 := cv_nlt c_2
                      have u_10 := rg_e k
                      have v_11 := cv_le c_3
                      have u_12 := rg_e (q.1 0 0 7)
                      have v_13 := cv_nle c_4
                      have u_14 := rg_e (q.1 16 (Int32.toNatClampNeg i) 7)
                      have v_15 := cv_eq c_6
                      have u_16 := rg_e (m_X3_hasKey q (Int32.toNatClampNeg i) key)
                      have v_17 := cv_ne c_9
                      have u_18 := rg_e (m_X3_isFiledFrom q (Int32.toNatClampNeg i) fi la)
                      have v_19 := cv_eq c_12
                      have w_20 := hI.2.2.2.2.2.1
                      have w_21 := i1
                      have u_4 := ad_o i 1
                      omega
                    have h_14 : 64 - (i + 1).toInt < (n : Int) := by
                      have u_1 := rg_e bf
                      have u_2 := rg_e i
                      have k_3 : (1 : Int32).toInt = 1 := rfl
                      have u_5 := rg_e key
                      have k_6 : (0 : Int32).toInt = 0 := rfl
                      have v_7 := cv_nlt c_1
                      have k_8 : (99 : Int32).toInt = 99 := rfl
                      have v_9 := cv_nlt c_2
                      have u_10 := rg_e k
                      have v_11 := cv_le c_3
                      have u_12 := rg_e (q.1 0 0 7)
                      have v_13 := cv_nle c_4
                      have u_14 := rg_e (q.1 16 (Int32.toNatClampNeg i) 7)
                      have v_15 := cv_eq c_6
                      have u_16 := rg_e (m_X3_hasKey q (Int32.toNatClampNeg i) key)
                      have v_17 := cv_ne c_9
                      have u_18 := rg_e (m_X3_isFiledFrom q (Int32.toNatClampNeg i) fi la)
                      have v_19 := cv_eq c_12
                      have w_20 := hI.2.2.2.2.2.1
                      have w_21 := i1
                      have w_22 := hm
                      have u_4 := ad_o i 1
                      omega
                    exact ih bf (i + 1) h_13 h_14 _ _ hW hS ls (lv_sub hl [2, 0, 3, 4, 5, 6, 7] rfl)
                  · rw [if_neg c_12]
                    refine lv_iload hx hb dX7_find_76 (lv_at hl 1 rfl) ?_
                    refine lv_iload hx hb dX7_find_78 (lv_at hl 7 rfl) ?_
                    refine lv_icmp_ne (tgt := 86) hx hb dX7_find_80 (by decide) (fun c_15 => ?_) (fun c_15 => ?_)
                    · rw [if_neg c_15]
                      refine lv_iinc (v := (bf + 1)) (lv' := [(5, .int (bf + 1)), (7, .ref (ad 16 (Int32.toNatClampNeg i))), (6, .int i), (0, .ref (ad 0 0)), (1, .int key), (2, .int fi), (3, .int la), (4, .int k)]) hx hb dX7_find_86 hl (k := 1) rfl (by first | rfl | decide) (by decide) rfl (fun ls hl => ?_)
                      refine lv_iinc (v := (i + 1)) (lv' := [(6, .int (i + 1)), (5, .int (bf + 1)), (7, .ref (ad 16 (Int32.toNatClampNeg i))), (0, .ref (ad 0 0)), (1, .int key), (2, .int fi), (3, .int la), (4, .int k)]) hx hb dX7_find_89 hl (k := 2) rfl (by first | rfl | decide) (by decide) rfl (fun ls hl => ?_)
                      refine lv_goto (tgt := 31) hx hb dX7_find_92 (by decide) ?_
                      have h_16 : 0 ≤ (i + 1).toInt ∧ (i + 1).toInt ≤ 64 := by
                        have u_1 := rg_e bf
                        have k_2 : (1 : Int32).toInt = 1 := rfl
                        have u_4 := rg_e i
                        have u_6 := rg_e key
                        have k_7 : (0 : Int32).toInt = 0 := rfl
                        have v_8 := cv_nlt c_1
                        have k_9 : (99 : Int32).toInt = 99 := rfl
                        have v_10 := cv_nlt c_2
                        have u_11 := rg_e k
                        have v_12 := cv_le c_3
                        have u_13 := rg_e (q.1 0 0 7)
                        have v_14 := cv_nle c_4
                        have u_15 := rg_e (q.1 16 (Int32.toNatClampNeg i) 7)
                        have v_16 := cv_eq c_6
                        have u_17 := rg_e (m_X3_hasKey q (Int32.toNatClampNeg i) key)
                        have v_18 := cv_ne c_9
                        have u_19 := rg_e (m_X3_isFiledFrom q (Int32.toNatClampNeg i) fi la)
                        have v_20 := cv_ne c_12
                        have v_21 := cv_ne c_15
                        have w_22 := hI.2.2.2.2.2.1
                        have w_23 := i1
                        have u_3 := ad_o bf 1
                        have u_5 := ad_o i 1
                        omega
                      have h_17 : 64 - (i + 1).toInt < (n : Int) := by
                        have u_1 := rg_e bf
                        have k_2 : (1 : Int32).toInt = 1 := rfl
                        have u_4 := rg_e i
                        have u_6 := rg_e key
                        have k_7 : (0 : Int32).toInt = 0 := rfl
                        have v_8 := cv_nlt c_1
                        have k_9 : (99 : Int32).toInt = 99 := rfl
                        have v_10 := cv_nlt c_2
                        have u_11 := rg_e k
                        have v_12 := cv_le c_3
                        have u_13 := rg_e (q.1 0 0 7)
                        have v_14 := cv_nle c_4
                        have u_15 := rg_e (q.1 16 (Int32.toNatClampNeg i) 7)
                        have v_16 := cv_eq c_6
                        have u_17 := rg_e (m_X3_hasKey q (Int32.toNatClampNeg i) key)
                        have v_18 := cv_ne c_9
                        have u_19 := rg_e (m_X3_isFiledFrom q (Int32.toNatClampNeg i) fi la)
                        have v_20 := cv_ne c_12
                        have v_21 := cv_ne c_15
                        have w_22 := hI.2.2.2.2.2.1
                        have w_23 := i1
                        have w_24 := hm
                        have u_3 := ad_o bf 1
                        have u_5 := ad_o i 1
                        omega
                      exact ih (bf + 1) (i + 1) h_16 h_17 _ _ hW hS ls (lv_sub hl [1, 0, 3, 4, 5, 6, 7] rfl)
                    · rw [if_pos c_15]
                      refine lv_iload hx hb dX7_find_83 (lv_at hl 2 rfl) ?_
                      exact ox_iret hx hb hr hlk hK hW hS (Nat.le_of_ble_eq_true rfl) (Nat.le_of_ble_eq_true rfl) rfl dX7_find_85
        have h_19 : 0 ≤ (0 : Int32).toInt ∧ (0 : Int32).toInt ≤ 64 := by
          have k_1 : (0 : Int32).toInt = 0 := rfl
          have u_2 := rg_e key
          have v_3 := cv_nlt c_1
          have k_4 : (99 : Int32).toInt = 99 := rfl
          have v_5 := cv_nlt c_2
          have u_6 := rg_e k
          have v_7 := cv_le c_3
          have w_8 := hI.2.2.2.2.2.1
          omega
        have h_20 : 64 - (0 : Int32).toInt < ((66 : Nat) : Int) := by
          have k_1 : (0 : Int32).toInt = 0 := rfl
          have u_2 := rg_e key
          have v_3 := cv_nlt c_1
          have k_4 : (99 : Int32).toInt = 99 := rfl
          have v_5 := cv_nlt c_2
          have u_6 := rg_e k
          have v_7 := cv_le c_3
          have w_8 := hI.2.2.2.2.2.1
          omega
        rw [show m_X7_find q key fi la k = (0, (m_X7_find_lp q key fi la k 66 0 0)) from by rw [m_X7_find, if_neg c_1, if_neg c_2, if_pos c_3]]
        exact lp_18 66 0 0 h_19 h_20 _ _ hW hS ls (lv_sub hl [1, 0, 2, 3, 4, 5, 6] rfl)
      · exact ox_throwS (cls := "java/lang/IllegalArgumentException") (text := "no such key or place") hx hb hlt hown (hts _ (List.mem_of_getElem? (i := 1) rfl)) (hts _ (List.mem_of_getElem? (i := 2) rfl)) hat_2 (by decide +kernel) (by decide +kernel) hK hW hS hKX (by decide +kernel) (hl.1.trans hml.symm) hxt (by rw [m_X7_find, if_neg c_1, if_neg c_2, if_neg c_3]; exact ⟨rfl, show ¬ (2 : Int32) = 0 by decide⟩) (Nat.le_of_ble_eq_true rfl) (Nat.le_of_ble_eq_true rfl) (Nat.le_of_ble_eq_true rfl) (Nat.le_of_ble_eq_true rfl) hlk (Nat.le_of_ble_eq_true rfl) (Nat.le_of_ble_eq_true rfl) dX7_find_15 dX7_find_18 dX7_find_19 dX7_find_21 dX7_find_24
