/-! laid by wip/whole/tools/class3.py -/
def m_X1_firstOf (month : Int32) : Int32 := (if 2 ≤ (month - month / 12 * 12) then (((365 * (month / 12)) + (bmo (Int32.toNatClampNeg (month - month / 12 * 12)))) + (((((1900 + (month / 12)) / 4) - ((1900 + (month / 12)) / 100)) + ((1900 + (month / 12)) / 400)) - 460)) else (((365 * (month / 12)) + (bmo (Int32.toNatClampNeg (month - month / 12 * 12)))) + (((((1899 + (month / 12)) / 4) - ((1899 + (month / 12)) / 100)) + ((1899 + (month / 12)) / 400)) - 460)))
set_option maxHeartbeats 4000000 in
set_option maxRecDepth 100000 in
theorem c_X1_firstOf (l : Launch) (D : va_G) (b0 : Nat) (cA : Nat → ClassId) (ad : Nat → Nat → Nat) (mq : qM) (q : qC) (month : Int32) (hm : 0 ≤ (month : Int32).toInt ∧ (month : Int32).toInt ≤ 100000) : cc_i l yX1_firstOf wsX1_firstOf 0 0 D b0 cA ad mq q [.int month] (m_X1_firstOf month, q) := by
  refine cc_of (by decide) rfl (Nat.le_of_ble_eq_true rfl) ?_
  intro p e s m below meth c hx hb hml hr hlk hown hts hK hW hKD ls hl
  have hown : s.vm.findClass RX1 = some m.cls := hown
  have hS : va_S (wA b0) s.heap s.heap [] := va_S.rf
  have hl : lv_has ls 5 [(0, .int month)] := hl
  refine lv_iload_n hx hb dX1_firstOf_0 rfl (lv_at hl 0 rfl) ?_
  refine lv_bipush (v := 12) hx hb dX1_firstOf_1 (by decide) ?_
  refine lv_idiv hx hb dX1_firstOf_3 (by decide) ?_
  refine lv_istore_n (lv' := [(1, .int (month / 12)), (0, .int month)]) hx hb dX1_firstOf_4 rfl hl (by decide) rfl (fun ls hl => ?_)
  refine lv_iload_n hx hb dX1_firstOf_5 rfl (lv_at hl 1 rfl) ?_
  refine lv_bipush (v := 12) hx hb dX1_firstOf_6 (by decide) ?_
  refine lv_irem hx hb dX1_firstOf_8 (by decide) ?_
  refine lv_istore_n (lv' := [(2, .int (month - month / 12 * 12)), (1, .int (month / 12)), (0, .int month)]) hx hb dX1_firstOf_9 rfl hl (by decide) rfl (fun ls hl => ?_)
  refine lv_iload_n hx hb dX1_firstOf_10 rfl (lv_at hl 0 rfl) ?_
  refine lv_iconst (v := 2) hx hb dX1_firstOf_11 (by decide) ?_
  refine lv_icmp_ge (tgt := 23) hx hb dX1_firstOf_12 (by decide) (fun c_1 => ?_) (fun c_1 => ?_)
  · refine lv_sipush (v := 1900) hx hb dX1_firstOf_23 (by decide) ?_
    refine lv_iload_n hx hb dX1_firstOf_26 rfl (lv_at hl 1 rfl) ?_
    refine lv_iadd hx hb dX1_firstOf_27 ?_
    refine lv_istore_n (lv' := [(3, .int (1900 + (month / 12))), (2, .int (month - month / 12 * 12)), (1, .int (month / 12)), (0, .int month)]) hx hb dX1_firstOf_28 rfl hl (by decide) rfl (fun ls hl => ?_)
    refine lv_iload_n hx hb dX1_firstOf_29 rfl (lv_at hl 0 rfl) ?_
    refine lv_iconst (v := 4) hx hb dX1_firstOf_30 (by decide) ?_
    refine lv_idiv hx hb dX1_firstOf_31 (by decide) ?_
    refine lv_iload_n hx hb dX1_firstOf_32 rfl (lv_at hl 0 rfl) ?_
    refine lv_bipush (v := 100) hx hb dX1_firstOf_33 (by decide) ?_
    refine lv_idiv hx hb dX1_firstOf_35 (by decide) ?_
    refine lv_isub hx hb dX1_firstOf_36 ?_
    refine lv_iload_n hx hb dX1_firstOf_37 rfl (lv_at hl 0 rfl) ?_
    refine lv_sipush (v := 400) hx hb dX1_firstOf_38 (by decide) ?_
    refine lv_idiv hx hb dX1_firstOf_41 (by decide) ?_
    refine lv_iadd hx hb dX1_firstOf_42 ?_
    refine lv_sipush (v := 460) hx hb dX1_firstOf_43 (by decide) ?_
    refine lv_isub hx hb dX1_firstOf_46 ?_
    refine lv_istore (lv' := [(4, .int (((((1900 + (month / 12)) / 4) - ((1900 + (month / 12)) / 100)) + ((1900 + (month / 12)) / 400)) - 460)), (3, .int (1900 + (month / 12))), (2, .int (month - month / 12 * 12)), (1, .int (month / 12)), (0, .int month)]) hx hb dX1_firstOf_47 hl (by decide) rfl (fun ls hl => ?_)
    refine lv_sipush (v := 365) hx hb dX1_firstOf_49 (by decide) ?_
    refine lv_iload_n hx hb dX1_firstOf_52 rfl (lv_at hl 3 rfl) ?_
    refine lv_imul hx hb dX1_firstOf_53 ?_
    obtain ⟨t9, hZ9, hT9⟩ := id hKD
    refine va_gets hx hb hZ9 hS hown (hts _ (List.mem_of_getElem? (i := 1) rfl)) (fun _ h9 => h9) dX1_firstOf_54 ?_
    refine lv_iload_n hx hb dX1_firstOf_57 rfl (lv_at hl 2 rfl) ?_
    have b_2 : vp_in (month - month / 12 * 12) 12 := by
      have u_1 := rg_e month
      have k_2 : (12 : Int32).toInt = 12 := rfl
      have r_3 := rg_e (month - month / 12 * 12)
      have k_4 : (2 : Int32).toInt = 2 := rfl
      have v_5 := cv_le c_1
      have w_6 := hm
      have u_3 := rm_e 12 month (rfl : (12 : Int32).toInt = 12) (by decide)
      exact vp_in_iff.mpr (by omega)
    refine va_ti (v := .int (bmo (Int32.toNatClampNeg (month - month / 12 * 12)))) hx hb hT9 hS b_2 rfl dX1_firstOf_58 ?_
    refine lv_iadd hx hb dX1_firstOf_59 ?_
    refine lv_iload hx hb dX1_firstOf_60 (lv_at hl 0 rfl) ?_
    refine lv_iadd hx hb dX1_firstOf_62 ?_
    exact ow_iret hx hb hr hlk hK hW hS (by rw [m_X1_firstOf, if_pos c_1]) dX1_firstOf_63
  · refine lv_sipush (v := 1899) hx hb dX1_firstOf_15 (by decide) ?_
    refine lv_iload_n hx hb dX1_firstOf_18 rfl (lv_at hl 1 rfl) ?_
    refine lv_iadd hx hb dX1_firstOf_19 ?_
    refine lv_goto (tgt := 28) hx hb dX1_firstOf_20 (by decide) ?_
    refine lv_istore_n (lv' := [(3, .int (1899 + (month / 12))), (2, .int (month - month / 12 * 12)), (1, .int (month / 12)), (0, .int month)]) hx hb dX1_firstOf_28 rfl hl (by decide) rfl (fun ls hl => ?_)
    refine lv_iload_n hx hb dX1_firstOf_29 rfl (lv_at hl 0 rfl) ?_
    refine lv_iconst (v := 4) hx hb dX1_firstOf_30 (by decide) ?_
    refine lv_idiv hx hb dX1_firstOf_31 (by decide) ?_
    refine lv_iload_n hx hb dX1_firstOf_32 rfl (lv_at hl 0 rfl) ?_
    refine lv_bipush (v := 100) hx hb dX1_firstOf_33 (by decide) ?_
    refine lv_idiv hx hb dX1_firstOf_35 (by decide) ?_
    refine lv_isub hx hb dX1_firstOf_36 ?_
    refine lv_iload_n hx hb dX1_firstOf_37 rfl (lv_at hl 0 rfl) ?_
    refine lv_sipush (v := 400) hx hb dX1_firstOf_38 (by decide) ?_
    refine lv_idiv hx hb dX1_firstOf_41 (by decide) ?_
    refine lv_iadd hx hb dX1_firstOf_42 ?_
    refine lv_sipush (v := 460) hx hb dX1_firstOf_43 (by decide) ?_
    refine lv_isub hx hb dX1_firstOf_46 ?_
    refine lv_istore (lv' := [(4, .int (((((1899 + (month / 12)) / 4) - ((1899 + (month / 12)) / 100)) + ((1899 + (month / 12)) / 400)) - 460)), (3, .int (1899 + (month / 12))), (2, .int (month - month / 12 * 12)), (1, .int (month / 12)), (0, .int month)]) hx hb dX1_firstOf_47 hl (by decide) rfl (fun ls hl => ?_)
    refine lv_sipush (v := 365) hx hb dX1_firstOf_49 (by decide) ?_
    refine lv_iload_n hx hb dX1_firstOf_52 rfl (lv_at hl 3 rfl) ?_
    refine lv_imul hx hb dX1_firstOf_53 ?_
    obtain ⟨t9, hZ9, hT9⟩ := id hKD
    refine va_gets hx hb hZ9 hS hown (hts _ (List.mem_of_getElem? (i := 1) rfl)) (fun _ h9 => h9) dX1_firstOf_54 ?_
    refine lv_iload_n hx hb dX1_firstOf_57 rfl (lv_at hl 2 rfl) ?_
    have b_3 : vp_in (month - month / 12 * 12) 12 := by
      have u_1 := rg_e month
      have k_2 : (12 : Int32).toInt = 12 := rfl
      have r_3 := rg_e (month - month / 12 * 12)
      have k_4 : (2 : Int32).toInt = 2 := rfl
      have v_5 := cv_nle c_1
      have w_6 := hm
      have u_3 := rm_e 12 month (rfl : (12 : Int32).toInt = 12) (by decide)
      exact vp_in_iff.mpr (by omega)
    refine va_ti (v := .int (bmo (Int32.toNatClampNeg (month - month / 12 * 12)))) hx hb hT9 hS b_3 rfl dX1_firstOf_58 ?_
    refine lv_iadd hx hb dX1_firstOf_59 ?_
    refine lv_iload hx hb dX1_firstOf_60 (lv_at hl 0 rfl) ?_
    refine lv_iadd hx hb dX1_firstOf_62 ?_
    exact ow_iret hx hb hr hlk hK hW hS (by rw [m_X1_firstOf, if_neg c_1]) dX1_firstOf_63

theorem bm_rg (j : Nat) : 0 ≤ (bmo j).toInt ∧ (bmo j).toInt ≤ 334 := by
  unfold bmo
  split <;> decide
/-- the first day of a month, as a whole number -/
theorem fo_e (m : Int32) (h1 : 0 ≤ m.toInt) (h2 : m.toInt ≤ 100000) : (m_X1_firstOf m).toInt = 365 * (m.toInt / 12) + (bmo (Int32.toNatClampNeg (m - m / 12 * 12))).toInt + (if m.toInt % 12 < 2 then (1899 + m.toInt / 12) / 4 - (1899 + m.toInt / 12) / 100 + (1899 + m.toInt / 12) / 400 - 460 else (1900 + m.toInt / 12) / 4 - (1900 + m.toInt / 12) / 100 + (1900 + m.toInt / 12) / 400 - 460) := by
  have e1 := dv_e 12 m (rfl : (12 : Int32).toInt = 12) (by decide) h1
  have e2 := rm_e 12 m (rfl : (12 : Int32).toInt = 12) (by decide) h1
  have k2 : (2 : Int32).toInt = 2 := rfl
  have hb := bm_rg (Int32.toNatClampNeg (m - m / 12 * 12))
  have key : ∀ (b : Int32) (B : Int), b.toInt = B → 1899 ≤ B → B ≤ 1900 → ((((365 * (m / 12)) + (bmo (Int32.toNatClampNeg (m - m / 12 * 12)))) + (((((b + (m / 12)) / 4) - ((b + (m / 12)) / 100)) + ((b + (m / 12)) / 400)) - 460)) : Int32).toInt = 365 * (m.toInt / 12) + (bmo (Int32.toNatClampNeg (m - m / 12 * 12))).toInt + ((B + m.toInt / 12) / 4 - (B + m.toInt / 12) / 100 + (B + m.toInt / 12) / 400 - 460) := by
    intro b B hB hB1 hB2
    have a1 := ad_o b (m / 12)
    have a2 : (b + m / 12).toInt = B + m.toInt / 12 := by omega
    have d4 := dv_e 4 (b + m / 12) (rfl : (4 : Int32).toInt = 4) (by decide) (by omega)
    have d100 := dv_e 100 (b + m / 12) (rfl : (100 : Int32).toInt = 100) (by decide) (by omega)
    have d400 := dv_e 400 (b + m / 12) (rfl : (400 : Int32).toInt = 400) (by decide) (by omega)
    rw [a2] at d4 d100 d400
    have s1 := su_o ((b + m / 12) / 4) ((b + m / 12) / 100)
    have s2 := ad_o ((b + m / 12) / 4 - (b + m / 12) / 100) ((b + m / 12) / 400)
    have s3 := su_o ((b + m / 12) / 4 - (b + m / 12) / 100 + (b + m / 12) / 400) 460
    have k460 : (460 : Int32).toInt = 460 := rfl
    have m1 := mu_o 365 365 (m / 12) rfl
    have s4 := ad_o (365 * (m / 12)) (bmo (Int32.toNatClampNeg (m - m / 12 * 12)))
    have s5 := ad_o (365 * (m / 12) + (bmo (Int32.toNatClampNeg (m - m / 12 * 12)))) ((b + m / 12) / 4 - (b + m / 12) / 100 + (b + m / 12) / 400 - 460)
    omega
  unfold m_X1_firstOf
  by_cases h : 2 ≤ (m - m / 12 * 12)
  · have g := cv_le h
    rw [if_pos h, if_neg (by omega)]
    exact key 1900 1900 rfl (by omega) (by omega)
  · have g := cv_nle h
    rw [if_neg h, if_pos (by omega)]
    exact key 1899 1899 rfl (by omega) (by omega)
theorem fo_rg (m : Int32) (h1 : 0 ≤ m.toInt) (h2 : m.toInt ≤ 100000) : 0 ≤ (m_X1_firstOf m).toInt ∧ (m_X1_firstOf m).toInt ≤ 366 * (m.toInt / 12) + 335 ∧ 365 * (m.toInt / 12) ≤ (m_X1_firstOf m).toInt ∧ (m.toInt % 12 = 0 → (m_X1_firstOf m).toInt ≤ 366 * (m.toInt / 12)) := by
  have e := fo_e m h1 h2
  have hb := bm_rg (Int32.toNatClampNeg (m - m / 12 * 12))
  have e2 := rm_e 12 m (rfl : (12 : Int32).toInt = 12) (by decide) h1
  have h0 : m.toInt % 12 = 0 → (bmo (Int32.toNatClampNeg (m - m / 12 * 12))).toInt = 0 := by
    intro hz
    have : Int32.toNatClampNeg (m - m / 12 * 12) = 0 := by
      show (m - m / 12 * 12).toInt.toNat = 0
      omega
    rw [this]; rfl
  split at e <;> omega

def m_X1_monthOf (day : Int32) : Int32 := (if day < (m_X1_firstOf ((((day / 366) * 12) + ((day - (m_X1_firstOf ((day / 366) * 12))) / 31)) + 1)) then (((day / 366) * 12) + ((day - (m_X1_firstOf ((day / 366) * 12))) / 31)) else ((((day / 366) * 12) + ((day - (m_X1_firstOf ((day / 366) * 12))) / 31)) + 1))
set_option maxHeartbeats 4000000 in
set_option maxRecDepth 100000 in
theorem c_X1_monthOf (l : Launch) (D : va_G) (b0 : Nat) (cA : Nat → ClassId) (ad : Nat → Nat → Nat) (mq : qM) (q : qC) (day : Int32) (hd : 0 ≤ (day : Int32).toInt ∧ (day : Int32).toInt ≤ 200000) : cc_i l yX1_monthOf wsX1_monthOf 1 24 D b0 cA ad mq q [.int day] (m_X1_monthOf day, q) := by
  refine cc_of (by decide) rfl (Nat.le_of_ble_eq_true rfl) ?_
  intro p e s m below meth c hx hb hml hr hlk hown hts hK hW hKD ls hl
  have hown : s.vm.findClass RX1 = some m.cls := hown
  have hS : va_S (wA b0) s.heap s.heap [] := va_S.rf
  have hl : lv_has ls 2 [(0, .int day)] := hl
  refine lv_iload_n hx hb dX1_monthOf_0 rfl (lv_at hl 0 rfl) ?_
  refine lv_sipush (v := 366) hx hb dX1_monthOf_1 (by decide) ?_
  refine lv_idiv hx hb dX1_monthOf_4 (by decide) ?_
  refine lv_bipush (v := 12) hx hb dX1_monthOf_5 (by decide) ?_
  refine lv_imul hx hb dX1_monthOf_7 ?_
  refine lv_istore_n (lv' := [(1, .int ((day / 366) * 12)), (0, .int day)]) hx hb dX1_monthOf_8 rfl hl (by decide) rfl (fun ls hl => ?_)
  refine lv_iload_n hx hb dX1_monthOf_9 rfl (lv_at hl 0 rfl) ?_
  refine lv_iload_n hx hb dX1_monthOf_10 rfl (lv_at hl 1 rfl) ?_
  refine lv_iload_n hx hb dX1_monthOf_11 rfl (lv_at hl 0 rfl) ?_
  have h_1 : 0 ≤ (((day / 366) * 12) : Int32).toInt ∧ (((day / 366) * 12) : Int32).toInt ≤ 100000 := by
    have u_1 := rg_e day
    have k_2 : (366 : Int32).toInt = 366 := rfl
    have r_3 := rg_e (day / 366)
    have k_4 : (12 : Int32).toInt = 12 := rfl
    have w_6 := hd
    have u_3 := dv_e 366 day (rfl : (366 : Int32).toInt = 366) (by decide)
    have u_5 := mr_o 12 (day / 366) 12 rfl
    exact by omega
  refine ow_callSi (n := 1) (As := [.int ((day / 366) * 12)]) (rest := [.int day, .int ((day / 366) * 12)]) (r := (m_X1_firstOf ((day / 366) * 12))) (z2 := q) ⟨hx, hb, hml, hown, hts⟩ (c_X1_firstOf l D b0 cA ad mq q ((day / 366) * 12) h_1) gX1_monthOf_X1_firstOf rfl (by decide +kernel) rfl ⟨Nat.le_of_ble_eq_true rfl, Nat.le_of_ble_eq_true rfl⟩ ⟨Nat.le_of_ble_eq_true rfl, Nat.le_of_ble_eq_true rfl⟩ hK hW hS hKD hl.1 rfl (Nat.le_of_ble_eq_true rfl) dX1_monthOf_12 (fun H locs hW hS => ?_)
  refine lv_isub hx hb dX1_monthOf_15 ?_
  refine lv_bipush (v := 31) hx hb dX1_monthOf_16 (by decide) ?_
  refine lv_idiv hx hb dX1_monthOf_18 (by decide) ?_
  refine lv_iadd hx hb dX1_monthOf_19 ?_
  refine lv_istore_n (lv' := [(1, .int (((day / 366) * 12) + ((day - (m_X1_firstOf ((day / 366) * 12))) / 31))), (0, .int day)]) hx hb dX1_monthOf_20 rfl hl (by decide) rfl (fun ls hl => ?_)
  refine lv_iload_n hx hb dX1_monthOf_21 rfl (lv_at hl 0 rfl) ?_
  refine lv_iconst (v := 1) hx hb dX1_monthOf_22 (by decide) ?_
  refine lv_iadd hx hb dX1_monthOf_23 ?_
  have h_2 : 0 ≤ (((((day / 366) * 12) + ((day - (m_X1_firstOf ((day / 366) * 12))) / 31)) + 1) : Int32).toInt ∧ (((((day / 366) * 12) + ((day - (m_X1_firstOf ((day / 366) * 12))) / 31)) + 1) : Int32).toInt ≤ 100000 := by
    have u_1 := rg_e day
    have k_2 : (366 : Int32).toInt = 366 := rfl
    have r_3 := rg_e (day / 366)
    have k_4 : (12 : Int32).toInt = 12 := rfl
    have u_6 := rg_e (m_X1_firstOf ((day / 366) * 12))
    have k_9 : (31 : Int32).toInt = 31 := rfl
    have r_10 := rg_e ((day - (m_X1_firstOf ((day / 366) * 12))) / 31)
    have k_12 : (1 : Int32).toInt = 1 := rfl
    have w_14 := hd
    have u_3 := dv_e 366 day (rfl : (366 : Int32).toInt = 366) (by decide)
    have u_5 := mr_o 12 (day / 366) 12 rfl
    have u_7 := (fun h1 h2 => fo_rg ((day / 366) * 12) h1 h2)
    have u_8 := su_o day (m_X1_firstOf ((day / 366) * 12))
    have u_10 := dv_e 31 (day - (m_X1_firstOf ((day / 366) * 12))) (rfl : (31 : Int32).toInt = 31) (by decide)
    have u_11 := ad_o ((day / 366) * 12) ((day - (m_X1_firstOf ((day / 366) * 12))) / 31)
    have u_13 := ad_o (((day / 366) * 12) + ((day - (m_X1_firstOf ((day / 366) * 12))) / 31)) 1
    exact by omega
  refine ow_callSi (n := 1) (As := [.int ((((day / 366) * 12) + ((day - (m_X1_firstOf ((day / 366) * 12))) / 31)) + 1)]) (rest := []) (r := (m_X1_firstOf ((((day / 366) * 12) + ((day - (m_X1_firstOf ((day / 366) * 12))) / 31)) + 1))) (z2 := q) ⟨hx, hb, hml, hown, hts⟩ (c_X1_firstOf l D b0 cA ad mq q ((((day / 366) * 12) + ((day - (m_X1_firstOf ((day / 366) * 12))) / 31)) + 1) h_2) gX1_monthOf_X1_firstOf rfl (by decide +kernel) rfl ⟨Nat.le_of_ble_eq_true rfl, Nat.le_of_ble_eq_true rfl⟩ ⟨Nat.le_of_ble_eq_true rfl, Nat.le_of_ble_eq_true rfl⟩ hK hW hS hKD hl.1 rfl (Nat.le_of_ble_eq_true rfl) dX1_monthOf_24 (fun H locs hW hS => ?_)
  refine lv_iload_n hx hb dX1_monthOf_27 rfl (lv_at hl 1 rfl) ?_
  refine lv_icmp_gt (tgt := 37) hx hb dX1_monthOf_28 (by decide) (fun c_3 => ?_) (fun c_3 => ?_)
  · refine lv_iload_n hx hb dX1_monthOf_37 rfl (lv_at hl 0 rfl) ?_
    exact ow_iret hx hb hr hlk hK hW hS (by rw [m_X1_monthOf, if_pos c_3]) dX1_monthOf_38
  · refine lv_iload_n hx hb dX1_monthOf_31 rfl (lv_at hl 0 rfl) ?_
    refine lv_iconst (v := 1) hx hb dX1_monthOf_32 (by decide) ?_
    refine lv_iadd hx hb dX1_monthOf_33 ?_
    refine lv_goto (tgt := 38) hx hb dX1_monthOf_34 (by decide) ?_
    exact ow_iret hx hb hr hlk hK hW hS (by rw [m_X1_monthOf, if_neg c_3]) dX1_monthOf_38

theorem mf_rg (d : Int32) (h1 : 0 ≤ d.toInt) (h2 : d.toInt ≤ 200000) : 0 ≤ (m_X1_monthOf d).toInt ∧ (m_X1_monthOf d).toInt ≤ 20000 := by
  have k12 : (12 : Int32).toInt = 12 := rfl
  have k31 : (31 : Int32).toInt = 31 := rfl
  have k1 : (1 : Int32).toInt = 1 := rfl
  have e1 := dv_e 366 d (rfl : (366 : Int32).toInt = 366) (by decide) h1
  have e2 := mr_o 12 (d / 366) 12 rfl
  have e3 := fo_rg ((d / 366) * 12) (by omega) (by omega)
  have e4 := su_o d (m_X1_firstOf ((d / 366) * 12))
  have e9 : ((d / 366) * 12 : Int32).toInt = 12 * (d.toInt / 366) := by omega
  have e10 : (12 * (d.toInt / 366)) % 12 = 0 := by omega
  have e11 : 12 * (d.toInt / 366) / 12 = d.toInt / 366 := by omega
  rw [e9, e11] at e3
  have e12 := e3.2.2.2 e10
  have e5 := dv_e 31 (d - m_X1_firstOf ((d / 366) * 12)) (rfl : (31 : Int32).toInt = 31) (by decide) (by omega)
  have e6 := ad_o ((d / 366) * 12) ((d - m_X1_firstOf ((d / 366) * 12)) / 31)
  have e7 := ad_o (((d / 366) * 12) + ((d - m_X1_firstOf ((d / 366) * 12)) / 31)) 1
  unfold m_X1_monthOf
  split <;> omega

def m_X1_plus (day : Int32) (term : Int32) : Int32 := (if ((m_X1_firstOf (((m_X1_monthOf day) + term) + 1)) - 1) < ((m_X1_firstOf ((m_X1_monthOf day) + term)) + (day - (m_X1_firstOf (m_X1_monthOf day)))) then ((m_X1_firstOf (((m_X1_monthOf day) + term) + 1)) - 1) else ((m_X1_firstOf ((m_X1_monthOf day) + term)) + (day - (m_X1_firstOf (m_X1_monthOf day)))))
set_option maxHeartbeats 4000000 in
set_option maxRecDepth 100000 in
theorem c_X1_plus (l : Launch) (D : va_G) (b0 : Nat) (cA : Nat → ClassId) (ad : Nat → Nat → Nat) (mq : qM) (q : qC) (day : Int32) (term : Int32) (hd : 0 ≤ (day : Int32).toInt ∧ (day : Int32).toInt ≤ 200000) (ht : 0 ≤ (term : Int32).toInt ∧ (term : Int32).toInt ≤ 2000) : cc_i l yX1_plus wsX1_plus 2 45 D b0 cA ad mq q [.int day, .int term] (m_X1_plus day term, q) := by
  refine cc_of (by decide) rfl (Nat.le_of_ble_eq_true rfl) ?_
  intro p e s m below meth c hx hb hml hr hlk hown hts hK hW hKD ls hl
  have hown : s.vm.findClass RX1 = some m.cls := hown
  have hS : va_S (wA b0) s.heap s.heap [] := va_S.rf
  have hl : lv_has ls 5 [(0, .int day), (1, .int term)] := hl
  refine lv_iload_n hx hb dX1_plus_0 rfl (lv_at hl 0 rfl) ?_
  have h_1 : 0 ≤ (day : Int32).toInt ∧ (day : Int32).toInt ≤ 200000 := by
    have u_1 := rg_e day
    have w_2 := hd
    have w_3 := ht
    exact by omega
  refine ow_callSi (n := 1) (As := [.int day]) (rest := []) (r := (m_X1_monthOf day)) (z2 := q) ⟨hx, hb, hml, hown, hts⟩ (c_X1_monthOf l D b0 cA ad mq q day h_1) gX1_plus_X1_monthOf rfl (by decide +kernel) rfl ⟨Nat.le_of_ble_eq_true rfl, Nat.le_of_ble_eq_true rfl⟩ ⟨Nat.le_of_ble_eq_true rfl, Nat.le_of_ble_eq_true rfl⟩ hK hW hS hKD hl.1 rfl (Nat.le_of_ble_eq_true rfl) dX1_plus_1 (fun H locs hW hS => ?_)
  refine lv_istore_n (lv' := [(2, .int (m_X1_monthOf day)), (0, .int day), (1, .int term)]) hx hb dX1_plus_4 rfl hl (by decide) rfl (fun ls hl => ?_)
  refine lv_iload_n hx hb dX1_plus_5 rfl (lv_at hl 0 rfl) ?_
  refine lv_iload_n hx hb dX1_plus_6 rfl (lv_at hl 2 rfl) ?_
  refine lv_iadd hx hb dX1_plus_7 ?_
  have h_2 : 0 ≤ (((m_X1_monthOf day) + term) : Int32).toInt ∧ (((m_X1_monthOf day) + term) : Int32).toInt ≤ 100000 := by
    have u_1 := rg_e (m_X1_monthOf day)
    have u_2 := rg_e day
    have u_4 := rg_e term
    have w_6 := hd
    have w_7 := ht
    have u_3 := (fun h1 h2 => mf_rg day h1 h2)
    have u_5 := ad_o (m_X1_monthOf day) term
    exact by omega
  refine ow_callSi (n := 1) (As := [.int ((m_X1_monthOf day) + term)]) (rest := []) (r := (m_X1_firstOf ((m_X1_monthOf day) + term))) (z2 := q) ⟨hx, hb, hml, hown, hts⟩ (c_X1_firstOf l D b0 cA ad mq q ((m_X1_monthOf day) + term) h_2) gX1_plus_X1_firstOf rfl (by decide +kernel) rfl ⟨Nat.le_of_ble_eq_true rfl, Nat.le_of_ble_eq_true rfl⟩ ⟨Nat.le_of_ble_eq_true rfl, Nat.le_of_ble_eq_true rfl⟩ hK hW hS hKD hl.1 rfl (Nat.le_of_ble_eq_true rfl) dX1_plus_8 (fun H locs hW hS => ?_)
  refine lv_iload_n hx hb dX1_plus_11 rfl (lv_at hl 1 rfl) ?_
  refine lv_iload_n hx hb dX1_plus_12 rfl (lv_at hl 0 rfl) ?_
  have h_3 : 0 ≤ ((m_X1_monthOf day) : Int32).toInt ∧ ((m_X1_monthOf day) : Int32).toInt ≤ 100000 := by
    have u_1 := rg_e (m_X1_monthOf day)
    have u_2 := rg_e day
    have w_4 := hd
    have w_5 := ht
    have u_3 := (fun h1 h2 => mf_rg day h1 h2)
    exact by omega
  refine ow_callSi (n := 1) (As := [.int (m_X1_monthOf day)]) (rest := [.int day, .int (m_X1_firstOf ((m_X1_monthOf day) + term))]) (r := (m_X1_firstOf (m_X1_monthOf day))) (z2 := q) ⟨hx, hb, hml, hown, hts⟩ (c_X1_firstOf l D b0 cA ad mq q (m_X1_monthOf day) h_3) gX1_plus_X1_firstOf rfl (by decide +kernel) rfl ⟨Nat.le_of_ble_eq_true rfl, Nat.le_of_ble_eq_true rfl⟩ ⟨Nat.le_of_ble_eq_true rfl, Nat.le_of_ble_eq_true rfl⟩ hK hW hS hKD hl.1 rfl (Nat.le_of_ble_eq_true rfl) dX1_plus_13 (fun H locs hW hS => ?_)
  refine lv_isub hx hb dX1_plus_16 ?_
  refine lv_iadd hx hb dX1_plus_17 ?_
  refine lv_istore_n (lv' := [(3, .int ((m_X1_firstOf ((m_X1_monthOf day) + term)) + (day - (m_X1_firstOf (m_X1_monthOf day))))), (2, .int (m_X1_monthOf day)), (0, .int day), (1, .int term)]) hx hb dX1_plus_18 rfl hl (by decide) rfl (fun ls hl => ?_)
  refine lv_iload_n hx hb dX1_plus_19 rfl (lv_at hl 1 rfl) ?_
  refine lv_iload_n hx hb dX1_plus_20 rfl (lv_at hl 3 rfl) ?_
  refine lv_iadd hx hb dX1_plus_21 ?_
  refine lv_iconst (v := 1) hx hb dX1_plus_22 (by decide) ?_
  refine lv_iadd hx hb dX1_plus_23 ?_
  have h_4 : 0 ≤ ((((m_X1_monthOf day) + term) + 1) : Int32).toInt ∧ ((((m_X1_monthOf day) + term) + 1) : Int32).toInt ≤ 100000 := by
    have u_1 := rg_e (m_X1_monthOf day)
    have u_2 := rg_e day
    have u_4 := rg_e term
    have k_6 : (1 : Int32).toInt = 1 := rfl
    have w_8 := hd
    have w_9 := ht
    have u_3 := (fun h1 h2 => mf_rg day h1 h2)
    have u_5 := ad_o (m_X1_monthOf day) term
    have u_7 := ad_o ((m_X1_monthOf day) + term) 1
    exact by omega
  refine ow_callSi (n := 1) (As := [.int (((m_X1_monthOf day) + term) + 1)]) (rest := []) (r := (m_X1_firstOf (((m_X1_monthOf day) + term) + 1))) (z2 := q) ⟨hx, hb, hml, hown, hts⟩ (c_X1_firstOf l D b0 cA ad mq q (((m_X1_monthOf day) + term) + 1) h_4) gX1_plus_X1_firstOf rfl (by decide +kernel) rfl ⟨Nat.le_of_ble_eq_true rfl, Nat.le_of_ble_eq_true rfl⟩ ⟨Nat.le_of_ble_eq_true rfl, Nat.le_of_ble_eq_true rfl⟩ hK hW hS hKD hl.1 rfl (Nat.le_of_ble_eq_true rfl) dX1_plus_24 (fun H locs hW hS => ?_)
  refine lv_iconst (v := 1) hx hb dX1_plus_27 (by decide) ?_
  refine lv_isub hx hb dX1_plus_28 ?_
  refine lv_istore (lv' := [(4, .int ((m_X1_firstOf (((m_X1_monthOf day) + term) + 1)) - 1)), (3, .int ((m_X1_firstOf ((m_X1_monthOf day) + term)) + (day - (m_X1_firstOf (m_X1_monthOf day))))), (2, .int (m_X1_monthOf day)), (0, .int day), (1, .int term)]) hx hb dX1_plus_29 hl (by decide) rfl (fun ls hl => ?_)
  refine lv_iload_n hx hb dX1_plus_31 rfl (lv_at hl 1 rfl) ?_
  refine lv_iload hx hb dX1_plus_32 (lv_at hl 0 rfl) ?_
  refine va_mmin hx hb (hml.trans hl.1.symm) hown (hts _ (List.mem_of_getElem? (i := 1) rfl)) (hts _ (List.mem_of_getElem? (i := 2) rfl)) (hts _ (List.mem_of_getElem? (i := 3) rfl)) (hts _ (List.mem_of_getElem? (i := 4) rfl)) (Nat.le_of_ble_eq_true rfl) (Nat.le_of_ble_eq_true rfl) (Nat.le_of_ble_eq_true rfl) (Nat.le_of_ble_eq_true rfl) dX1_plus_34 ?_
  exact ow_iret hx hb hr hlk hK hW hS (by rw [m_X1_plus]) dX1_plus_37

def m_X1_fiscalEnd (day : Int32) (fm : Int32) : Int32 := ((m_X1_firstOf (((m_X1_monthOf day) - ((((m_X1_monthOf day) + 13) - fm) - (((m_X1_monthOf day) + 13) - fm) / 12 * 12)) + 12)) - 1)
set_option maxHeartbeats 4000000 in
set_option maxRecDepth 100000 in
theorem c_X1_fiscalEnd (l : Launch) (D : va_G) (b0 : Nat) (cA : Nat → ClassId) (ad : Nat → Nat → Nat) (mq : qM) (q : qC) (day : Int32) (fm : Int32) (hd : 0 ≤ (day : Int32).toInt ∧ (day : Int32).toInt ≤ 120000) (ht : 1 ≤ (fm : Int32).toInt ∧ (fm : Int32).toInt ≤ 12) : cc_i l yX1_fiscalEnd wsX1_fiscalEnd 2 45 D b0 cA ad mq q [.int day, .int fm] (m_X1_fiscalEnd day fm, q) := by
  refine cc_of (by decide) rfl (Nat.le_of_ble_eq_true rfl) ?_
  intro p e s m below meth c hx hb hml hr hlk hown hts hK hW hKD ls hl
  have hown : s.vm.findClass RX1 = some m.cls := hown
  have hS : va_S (wA b0) s.heap s.heap [] := va_S.rf
  have hl : lv_has ls 4 [(0, .int day), (1, .int fm)] := hl
  refine lv_iload_n hx hb dX1_fiscalEnd_0 rfl (lv_at hl 0 rfl) ?_
  have h_1 : 0 ≤ (day : Int32).toInt ∧ (day : Int32).toInt ≤ 200000 := by
    have u_1 := rg_e day
    have w_2 := hd
    have w_3 := ht
    exact by omega
  refine ow_callSi (n := 1) (As := [.int day]) (rest := []) (r := (m_X1_monthOf day)) (z2 := q) ⟨hx, hb, hml, hown, hts⟩ (c_X1_monthOf l D b0 cA ad mq q day h_1) gX1_fiscalEnd_X1_monthOf rfl (by decide +kernel) rfl ⟨Nat.le_of_ble_eq_true rfl, Nat.le_of_ble_eq_true rfl⟩ ⟨Nat.le_of_ble_eq_true rfl, Nat.le_of_ble_eq_true rfl⟩ hK hW hS hKD hl.1 rfl (Nat.le_of_ble_eq_true rfl) dX1_fiscalEnd_1 (fun H locs hW hS => ?_)
  refine lv_istore_n (lv' := [(2, .int (m_X1_monthOf day)), (0, .int day), (1, .int fm)]) hx hb dX1_fiscalEnd_4 rfl hl (by decide) rfl (fun ls hl => ?_)
  refine lv_iload_n hx hb dX1_fiscalEnd_5 rfl (lv_at hl 0 rfl) ?_
  refine lv_bipush (v := 13) hx hb dX1_fiscalEnd_6 (by decide) ?_
  refine lv_iadd hx hb dX1_fiscalEnd_8 ?_
  refine lv_iload_n hx hb dX1_fiscalEnd_9 rfl (lv_at hl 2 rfl) ?_
  refine lv_isub hx hb dX1_fiscalEnd_10 ?_
  refine lv_bipush (v := 12) hx hb dX1_fiscalEnd_11 (by decide) ?_
  refine lv_irem hx hb dX1_fiscalEnd_13 (by decide) ?_
  refine lv_istore_n (lv' := [(3, .int ((((m_X1_monthOf day) + 13) - fm) - (((m_X1_monthOf day) + 13) - fm) / 12 * 12)), (2, .int (m_X1_monthOf day)), (0, .int day), (1, .int fm)]) hx hb dX1_fiscalEnd_14 rfl hl (by decide) rfl (fun ls hl => ?_)
  refine lv_iload_n hx hb dX1_fiscalEnd_15 rfl (lv_at hl 1 rfl) ?_
  refine lv_iload_n hx hb dX1_fiscalEnd_16 rfl (lv_at hl 0 rfl) ?_
  refine lv_isub hx hb dX1_fiscalEnd_17 ?_
  refine lv_bipush (v := 12) hx hb dX1_fiscalEnd_18 (by decide) ?_
  refine lv_iadd hx hb dX1_fiscalEnd_20 ?_
  have h_2 : 0 ≤ ((((m_X1_monthOf day) - ((((m_X1_monthOf day) + 13) - fm) - (((m_X1_monthOf day) + 13) - fm) / 12 * 12)) + 12) : Int32).toInt ∧ ((((m_X1_monthOf day) - ((((m_X1_monthOf day) + 13) - fm) - (((m_X1_monthOf day) + 13) - fm) / 12 * 12)) + 12) : Int32).toInt ≤ 100000 := by
    have u_1 := rg_e (m_X1_monthOf day)
    have u_2 := rg_e day
    have k_4 : (13 : Int32).toInt = 13 := rfl
    have u_6 := rg_e fm
    have k_8 : (12 : Int32).toInt = 12 := rfl
    have r_9 := rg_e ((((m_X1_monthOf day) + 13) - fm) - (((m_X1_monthOf day) + 13) - fm) / 12 * 12)
    have w_12 := hd
    have w_13 := ht
    have u_3 := (fun h1 h2 => mf_rg day h1 h2)
    have u_5 := ad_o (m_X1_monthOf day) 13
    have u_7 := su_o ((m_X1_monthOf day) + 13) fm
    have u_9 := rm_e 12 (((m_X1_monthOf day) + 13) - fm) (rfl : (12 : Int32).toInt = 12) (by decide)
    have u_10 := su_o (m_X1_monthOf day) ((((m_X1_monthOf day) + 13) - fm) - (((m_X1_monthOf day) + 13) - fm) / 12 * 12)
    have u_11 := ad_o ((m_X1_monthOf day) - ((((m_X1_monthOf day) + 13) - fm) - (((m_X1_monthOf day) + 13) - fm) / 12 * 12)) 12
    exact by omega
  refine ow_callSi (n := 1) (As := [.int (((m_X1_monthOf day) - ((((m_X1_monthOf day) + 13) - fm) - (((m_X1_monthOf day) + 13) - fm) / 12 * 12)) + 12)]) (rest := []) (r := (m_X1_firstOf (((m_X1_monthOf day) - ((((m_X1_monthOf day) + 13) - fm) - (((m_X1_monthOf day) + 13) - fm) / 12 * 12)) + 12))) (z2 := q) ⟨hx, hb, hml, hown, hts⟩ (c_X1_firstOf l D b0 cA ad mq q (((m_X1_monthOf day) - ((((m_X1_monthOf day) + 13) - fm) - (((m_X1_monthOf day) + 13) - fm) / 12 * 12)) + 12) h_2) gX1_fiscalEnd_X1_firstOf rfl (by decide +kernel) rfl ⟨Nat.le_of_ble_eq_true rfl, Nat.le_of_ble_eq_true rfl⟩ ⟨Nat.le_of_ble_eq_true rfl, Nat.le_of_ble_eq_true rfl⟩ hK hW hS hKD hl.1 rfl (Nat.le_of_ble_eq_true rfl) dX1_fiscalEnd_21 (fun H locs hW hS => ?_)
  refine lv_iconst (v := 1) hx hb dX1_fiscalEnd_24 (by decide) ?_
  refine lv_isub hx hb dX1_fiscalEnd_25 ?_
  exact ow_iret hx hb hr hlk hK hW hS (by rw [m_X1_fiscalEnd]) dX1_fiscalEnd_26
