/-! laid by wip/whole/tools/class3.py -/
def m_X1_firstOf (month : Int32) : Int32 := (if 2 ≤ (month - month / 12 * 12) then (((365 * (month / 12)) + (bmo (Int32.toNatClampNeg (month - month / 12 * 12)))) + (((((1900 + (month / 12)) / 4) - ((1900 + (month / 12)) / 100)) + ((1900 + (month / 12)) / 400)) - 460)) else (((365 * (month / 12)) + (bmo (Int32.toNatClampNeg (month - month / 12 * 12)))) + (((((1899 + (month / 12)) / 4) - ((1899 + (month / 12)) / 100)) + ((1899 + (month / 12)) / 400)) - 460)))
set_option maxHeartbeats 4000000 in
set_option maxRecDepth 100000 in
theorem c_X1_firstOf (l : Launch) (D : va_G) (b0 : Nat) (cA : Nat → ClassId) (ad : Nat → Nat → Nat) (mq : qM) (q : qC) (month : Int32) (hm : 0 ≤ (month : Int32).toInt ∧ (month : Int32).toInt ≤ 100000) : cc_i l yX1_firstOf wsX1_firstOf 0 0 D b0 cA ad mq q [.int month] (m_X1_firstOf month, q) := by
  refine cc_of (by decide) rfl (Nat.le_of_ble_eq_true rfl) ?_
  intro p e s m below meth c hx hb hml hr hlk hown hts hK hW hKD ls hl
  have hown : s.vm.findClass RX1 = some m.cls := hown
  have hS : va_S (wA b0) s.heap s.heap [] := va_S.rf
  have hl : lv_has ls 5 [(0, .int month)] := hl
  refine lv_iload_n hx hb dX1_firstOf_0 rfl (lv_at hl 0 rfl) ?_
  refine lv_bipush (v := 12) hx hb dX1_firstOf_1 (by decide) ?_
  refine lv_idiv hx hb dX1_firstOf_3 (by decide) ?_
  refine lv_istore_n (lv' := [(1, .int (month / 12)), (0, .int month)]) hx hb dX1_firstOf_4 rfl hl (by decide) rfl (fun ls hl => ?_)
  refine lv_iload_n hx hb dX1_firstOf_5 rfl (lv_at hl 1 rfl) ?_
  refine lv_bipush (v := 12) hx hb dX1_firstOf_6 (by decide) ?_
  refine lv_irem hx hb dX1_firstOf_8 (by decide) ?_
  refine lv_istore_n (lv' := [(2, .int (month - month / 12 * 12)), (1, .int (month / 12)), (0, .int month)]) hx hb dX1_firstOf_9 rfl hl (by decide) rfl (fun ls hl => ?_)
  refine lv_iload_n hx hb dX1_firstOf_10 rfl (lv_at hl 0 rfl) ?_
  refine lv_iconst (v := 2) hx hb dX1_firstOf_11 (by decide) ?_
  refine lv_icmp_ge (tgt := 23) hx hb dX1_firstOf_12 (by decide) (fun c_1 => ?_) (fun c_1 => ?_)
  · refine lv_sipush (v := 1900) hx hb dX1_firstOf_23 (by decide) ?_
    refine lv_iload_n hx hb dX1_firstOf_26 rfl (lv_at hl 1 rfl) ?_
    refine lv_iadd hx hb dX1_firstOf_27 ?_
    refine lv_istore_n (lv' := [(3, .int (1900 + (month / 12))), (2, .int (month - month / 12 * 12)), (1, .int (month / 12)), (0, .int month)]) hx hb dX1_firstOf_28 rfl hl (by decide) rfl (fun ls hl => ?_)
    refine lv_iload_n hx hb dX1_firstOf_29 rfl (lv_at hl 0 rfl) ?_
    refine lv_iconst (v := 4) hx hb dX1_firstOf_30 (by decide) ?_
    refine lv_idiv hx hb dX1_firstOf_31 (by decide) ?_
    refine lv_iload_n hx hb dX1_firstOf_32 rfl (lv_at hl 0 rfl) ?_
    refine lv_bipush (v := 100) hx hb dX1_firstOf_33 (by decide) ?_
    refine lv_idiv hx hb dX1_firstOf_35 (by decide) ?_
    refine lv_isub hx hb dX1_firstOf_36 ?_
    refine lv_iload_n hx hb dX1_firstOf_37 rfl (lv_at hl 0 rfl) ?_
    refine lv_sipush (v := 400) hx hb dX1_firstOf_38 (by decide) ?_
    refine lv_idiv hx hb dX1_firstOf_41 (by decide) ?_
    refine lv_iadd hx hb dX1_firstOf_42 ?_
    refine lv_sipush (v := 460) hx hb dX1_firstOf_43 (by decide) ?_
    refine lv_isub hx hb dX1_firstOf_46 ?_
    refine lv_istore (lv' := [(4, .int (((((1900 + (month / 12)) / 4) - ((1900 + (month / 12)) / 100)) + ((1900 + (month / 12)) / 400)) - 460)), (3, .int (1900 + (month / 12))), (2, .int (month - month / 12 * 12)), (1, .int (month / 12)), (0, .int month)]) hx hb dX1_firstOf_47 hl (by decide) rfl (fun ls hl => ?_)
    refine lv_sipush (v := 365) hx hb dX1_firstOf_49 (by decide) ?_
    refine lv_iload_n hx hb dX1_firstOf_52 rfl (lv_at hl 3 rfl) ?_
    refine lv_imul hx hb dX1_firstOf_53 ?_
    obtain ⟨t9, hZ9, hT9⟩ := id hKD
    refine va_gets hx hb hZ9 hS hown (hts _ (List.mem_of_getElem? (i := 1) rfl)) (fun _ h9 => h9) dX1_firstOf_54 ?_
    refine lv_iload_n hx hb dX1_firstOf_57 rfl (lv_at hl 2 rfl) ?_
    have b_2 : vp_in (month - month / 12 * 12) 12 := by
      have u_1 := rg_e month
      have k_2 : (12 : Int32).toInt = 12 := rfl
      have r_3 := rg_e (month - month / 12 * 12)
      have k_4 : (2 : Int32).toInt = 2 := rfl
      have v_5 := cv_le c_1
      have w_6 := hm
      have u_3 := rm_e 12 month (rfl : (12 : Int32).toInt = 12) (by decide)
      exact vp_in_iff.mpr (by omega)
    refine va_ti (v := .int (bmo (Int32.toNatClampNeg (month - month / 12 * 12)))) hx hb hT9 hS b_2 rfl dX1_firstOf_58 ?_
    refine lv_iadd hx hb dX1_firstOf_59 ?_
    refine lv_iload hx hb dX1_firstOf_60 (lv_at hl 0 rfl) ?_
    refine lv_iadd hx hb dX1_firstOf_62 ?_
    exact ow_iret hx hb hr hlk hK hW hS (by rw [m_X1_firstOf, if_pos c_1]) dX1_firstOf_63
  · refine lv_sipush (v := 1899) hx hb dX1_firstOf_15 (by decide) ?_
    refine lv_iload_n hx hb dX1_firstOf_18 rfl (lv_at hl 1 rfl) ?_
    refine lv_iadd hx hb dX1_firstOf_19 ?_
    refine lv_goto (tgt := 28) hx hb dX1_firstOf_20 (by decide) ?_
    refine lv_istore_n (lv' := [(3, .int (1899 + (month / 12))), (2, .int (month - month / 12 * 12)), (1, .int (month / 12)), (0, .int month)]) hx hb dX1_firstOf_28 rfl hl (by decide) rfl (fun ls hl => ?_)
    refine lv_iload_n hx hb dX1_firstOf_29 rfl (lv_at hl 0 rfl) ?_
    refine lv_iconst (v := 4) hx hb dX1_firstOf_30 (by decide) ?_
    refine lv_idiv hx hb dX1_firstOf_31 (by decide) ?_
    refine lv_iload_n hx hb dX1_firstOf_32 rfl (lv_at hl 0 rfl) ?_
    refine lv_bipush (v := 100) hx hb dX1_firstOf_33 (by decide) ?_
    refine lv_idiv hx hb dX1_firstOf_35 (by decide) ?_
    refine lv_isub hx hb dX1_firstOf_36 ?_
    refine lv_iload_n hx hb dX1_firstOf_37 rfl (lv_at hl 0 rfl) ?_
    refine lv_sipush (v := 400) hx hb dX1_firstOf_38 (by decide) ?_
    refine lv_idiv hx hb dX1_firstOf_41 (by decide) ?_
    refine lv_iadd hx hb dX1_firstOf_42 ?_
    refine lv_sipush (v := 460) hx hb dX1_firstOf_43 (by decide) ?_
    refine lv_isub hx hb dX1_firstOf_46 ?_
    refine lv_istore (lv' := [(4, .int (((((1899 + (month / 12)) / 4) - ((1899 + (month / 12)) / 100)) + ((1899 + (month / 12)) / 400)) - 460)), (3, .int (1899 + (month / 12))), (2, .int (month - month / 12 * 12)), (1, .int (month / 12)), (0, .int month)]) hx hb dX1_firstOf_47 hl (by decide) rfl (fun ls hl => ?_)
    refine lv_sipush (v := 365) hx hb dX1_firstOf_49 (by decide) ?_
    refine lv_iload_n hx hb dX1_firstOf_52 rfl (lv_at hl 3 rfl) ?_
    refine lv_imul hx hb dX1_firstOf_53 ?_
    obtain ⟨t9, hZ9, hT9⟩ := id hKD
    refine va_gets hx hb hZ9 hS hown (hts _ (List.mem_of_getElem? (i := 1) rfl)) (fun _ h9 => h9) dX1_firstOf_54 ?_
    refine lv_iload_n hx hb dX1_firstOf_57 rfl (lv_at hl 2 rfl) ?_
    have b_3 : vp_in (month - month / 12 * 12) 12 := by
      have u_1 := rg_e month
      have k_2 : (12 : Int32).toInt = 12 := rfl
      have r_3 := rg_e (month - month / 12 * 12)
      have k_4 : (2 : Int32).toInt = 2 := rfl
      have v_5 := cv_nle c_1
      have w_6 := hm
      have u_3 := rm_e 12 month (rfl : (12 : Int32).toInt = 12) (by decide)
      exact vp_in_iff.mpr (by omega)
    refine va_ti (v := .int (bmo (Int32.toNatClampNeg (month - month / 12 * 12)))) hx hb hT9 hS b_3 rfl dX1_firstOf_58 ?_
    refine lv_iadd hx hb dX1_firstOf_59 ?_
    refine lv_iload hx hb dX1_firstOf_60 (lv_at hl 0 rfl) ?_
    refine lv_iadd hx hb dX1_firstOf_62 ?_
    exact ow_iret hx hb hr hlk hK hW hS (by rw [m_X1_firstOf, if_neg c_1]) dX1_firstOf_63

theorem bm_rg (j : Nat) : 0 ≤ (bmo j).toInt ∧ (bmo j).toInt ≤ 334 := by
  unfold bmo
  split <;> decide
/-- the first day of a month, as a whole number -/
theorem fo_e (m : Int32) (h1 : 0 ≤ m.toInt) (h2 : m.toInt ≤ 100000) : (m_X1_firstOf m).toInt = 365 * (m.toInt / 12) + (bmo (Int32.toNatClampNeg (m - m / 12 * 12))).toInt + (if m.toInt % 12 < 2 then (1899 + m.toInt / 12) / 4 - (1899 + m.toInt / 12) / 100 + (1899 + m.toInt / 12) / 400 - 460 else (1900 + m.toInt / 12) / 4 - (1900 + m.toInt / 12) / 100 + (1900 + m.toInt / 12) / 400 - 460) := by
  have e1 := dv_e 12 m (rfl : (12 : Int32).toInt = 12) (by decide) h1
  have e2 := rm_e 12 m (rfl : (12 : Int32).toInt = 12) (by decide) h1
  have k2 : (2 : Int32).toInt = 2 := rfl
  have hb := bm_rg (Int32.toNatClampNeg (m - m / 12 * 12))
  have key : ∀ (b : Int32) (B : Int), b.toInt = B → 1899 ≤ B → B ≤ 1900 → ((((365 * (m / 12)) + (bmo (Int32.toNatClampNeg (m - m / 12 * 12)))) + (((((b + (m / 12)) / 4) - ((b + (m / 12)) / 100)) + ((b + (m / 12)) / 400)) - 460)) : Int32).toInt = 365 * (m.toInt / 12) + (bmo (Int32.toNatClampNeg (m - m / 12 * 12))).toInt + ((B + m.toInt / 12) / 4 - (B + m.toInt / 12) / 100 + (B + m.toInt / 12) / 400 - 460) := by
    intro b B hB hB1 hB2
    have a1 := ad_o b (m / 12)
    have a2 : (b + m / 12).toInt = B + m.toInt / 12 := by omega
    have d4 := dv_e 4 (b + m / 12) (rfl : (4 : Int32).toInt = 4) (by decide) (by omega)
    have d100 := dv_e 100 (b + m / 12) (rfl : (100 : Int32).toInt = 100) (by decide) (by omega)
    have d400 := dv_e 400 (b + m / 12) (rfl : (400 : Int32).toInt = 400) (by decide) (by omega)
    rw [a2] at d4 d100 d400
    have s1 := su_o ((b + m / 12) / 4) ((b + m / 12) / 100)
    have s2 := ad_o ((b + m / 12) / 4 - (b + m / 12) / 100) ((b + m / 12) / 400)
    have s3 := su_o ((b + m / 12) / 4 - (b + m / 12) / 100 + (b + m / 12) / 400) 460
    have k460 : (460 : Int32).toInt = 460 := rfl
    have m1 := mu_o 365 365 (m / 12) rfl
    have s4 := ad_o (365 * (m / 12)) (bmo (Int32.toNatClampNeg (m - m / 12 * 12)))
    have s5 := ad_o (365 * (m / 12) + (bmo (Int32.toNatClampNeg (m - m / 12 * 12)))) ((b + m / 12) / 4 - (b + m / 12) / 100 + (b + m / 12) / 400 - 460)
    omega
  unfold m_X1_firstOf
  by_cases h : 2 ≤ (m - m / 12 * 12)
  · have g := cv_le h
    rw [if_pos h, if_neg (by omega)]
    exact key 1900 1900 rfl (by omega) (by omega)
  · have g := cv_nle h
    rw [if_neg h, if_pos (by omega)]
    exact key 1899 1899 rfl (by omega) (by omega)
theorem fo_rg (m : Int32) (h1 : 0 ≤ m.toInt) (h2 : m.toInt ≤ 100000) : 0 ≤ (m_X1_firstOf m).toInt ∧ (m_X1_firstOf m).toInt ≤ 366 * (m.toInt / 12) + 335 ∧ 365 * (m.toInt / 12) ≤ (m_X1_firstOf m).toInt ∧ (m.toInt % 12 = 0 → (m_X1_firstOf m).toInt ≤ 366 * (m.toInt / 12)) := by
  have e := fo_e m h1 h2
  have hb := bm_rg (Int32.toNatClampNeg (m - m / 12 * 12))
  have e2 := rm_e 12 m (rfl : (12 : Int32).toInt = 12) (by decide) h1
  have h0 : m.toInt % 12 = 0 → (bmo (Int32.toNatClampNeg (m - m / 12 * 12))).toInt = 0 := by
    intro hz
    have : Int32.toNatClampNeg (m - m / 12 * 12) = 0 := by
      show (m - m / 12 * 12).toInt.toNat = 0
      omega
    rw [this]; rfl
  split at e <;> omega
