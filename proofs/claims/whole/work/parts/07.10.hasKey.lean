def m_X8_hasKey (q : qM) (r : Int32) (key : Int32) : Int32 := (if (q.1 17 (Int32.toNatClampNeg (3 * r))) = key then 1 else (if (q.1 17 (Int32.toNatClampNeg ((3 * r) + 1))) = key then 1 else (if (q.1 17 (Int32.toNatClampNeg ((3 * r) + 2))) = key then 1 else 0)))
set_option maxHeartbeats 4000000 in
set_option maxRecDepth 100000 in
theorem c_X8_hasKey (l : Launch) (D : va_G) (b0 : Nat) (Pc : Nat → Nat → Option va_E) (cA : Nat → ClassId) (ad : Nat → Nat → Nat) (q : qM) (r : Int32) (key : Int32) (hrr : 0 ≤ (r : Int32).toInt ∧ (r : Int32).toInt ≤ 63) : mc_i l yX8_hasKey wsX8_hasKey 0 0 D b0 Pc cA ad q [.ref (ad 20 0), .int r, .int key] (m_X8_hasKey q r key, q) := by
  refine mc_of (by decide) rfl (Nat.le_of_ble_eq_true rfl) ?_
  intro p e s m below meth c hx hb hml hr hlk hown hts hK hW ls hl
  have hown : s.vm.findClass RX8 = some m.cls := hown
  have hS : va_S (wA b0) s.heap s.heap [] := va_S.rf
  have hl : lv_has ls 3 [(0, .ref (ad 20 0)), (1, .int r), (2, .int key)] := hl
  have hin : ∀ w ∈ wsX80, w ∈ wsX8_hasKey := fun w h => List.mem_cons_of_mem _ (List.mem_append_right _ h)
  refine lv_aload_n hx hb dX8_hasKey_0 rfl (lv_at hl 0 rfl) ?_
  refine mm_get (v := .ref (ad 21 17)) hx hb hts hin hown hK hW 17 (by decide) (List.mem_of_getElem? (i := 1) rfl) rfl rfl dX8_hasKey_1 ?_
  refine lv_iconst (v := 3) hx hb dX8_hasKey_4 (by decide) ?_
  refine lv_iload_n hx hb dX8_hasKey_5 rfl (lv_at hl 1 rfl) ?_
  refine lv_imul hx hb dX8_hasKey_6 ?_
  have b_1 : vp_in (3 * r) 192 := by
    have k_1 : (3 : Int32).toInt = 3 := rfl
    have u_2 := rg_e r
    have w_4 := hrr
    have u_3 := mu_o 3 3 r rfl
    exact vp_in_iff.mpr (by omega)
  refine mm_iald (v := (q.1 17 (Int32.toNatClampNeg (3 * r)))) hx hb hK hW 17 192 rfl b_1 ((rfl)) dX8_hasKey_7 ?_
  refine lv_iload_n hx hb dX8_hasKey_8 rfl (lv_at hl 2 rfl) ?_
  refine lv_icmp_eq (tgt := 40) hx hb dX8_hasKey_9 (by decide) (fun c_2 => ?_) (fun c_2 => ?_)
  · refine lv_iconst (v := 1) hx hb dX8_hasKey_40 (by decide) ?_
    refine lv_goto (tgt := 45) hx hb dX8_hasKey_41 (by decide) ?_
    exact mm_zret hx hb hr hlk hK hW hS rfl (by rw [m_X8_hasKey, if_pos c_2]) dX8_hasKey_45
  · refine lv_aload_n hx hb dX8_hasKey_12 rfl (lv_at hl 0 rfl) ?_
    refine mm_get (v := .ref (ad 21 17)) hx hb hts hin hown hK hW 17 (by decide) (List.mem_of_getElem? (i := 1) rfl) rfl rfl dX8_hasKey_13 ?_
    refine lv_iconst (v := 3) hx hb dX8_hasKey_16 (by decide) ?_
    refine lv_iload_n hx hb dX8_hasKey_17 rfl (lv_at hl 1 rfl) ?_
    refine lv_imul hx hb dX8_hasKey_18 ?_
    refine lv_iconst (v := 1) hx hb dX8_hasKey_19 (by decide) ?_
    refine lv_iadd hx hb dX8_hasKey_20 ?_
    have b_3 : vp_in ((3 * r) + 1) 192 := by
      have k_1 : (3 : Int32).toInt = 3 := rfl
      have u_2 := rg_e r
      have k_4 : (1 : Int32).toInt = 1 := rfl
      have u_6 := rg_e (q.1 17 (Int32.toNatClampNeg (3 * r)))
      have u_7 := rg_e key
      have v_8 := cv_ne c_2
      have w_9 := hrr
      have u_3 := mu_o 3 3 r rfl
      have u_5 := ad_o (3 * r) 1
      exact vp_in_iff.mpr (by omega)
    refine mm_iald (v := (q.1 17 (Int32.toNatClampNeg ((3 * r) + 1)))) hx hb hK hW 17 192 rfl b_3 ((rfl)) dX8_hasKey_21 ?_
    refine lv_iload_n hx hb dX8_hasKey_22 rfl (lv_at hl 2 rfl) ?_
    refine lv_icmp_eq (tgt := 40) hx hb dX8_hasKey_23 (by decide) (fun c_4 => ?_) (fun c_4 => ?_)
    · refine lv_iconst (v := 1) hx hb dX8_hasKey_40 (by decide) ?_
      refine lv_goto (tgt := 45) hx hb dX8_hasKey_41 (by decide) ?_
      exact mm_zret hx hb hr hlk hK hW hS rfl (by rw [m_X8_hasKey, if_neg c_2, if_pos c_4]) dX8_hasKey_45
    · refine lv_aload_n hx hb dX8_hasKey_26 rfl (lv_at hl 0 rfl) ?_
      refine mm_get (v := .ref (ad 21 17)) hx hb hts hin hown hK hW 17 (by decide) (List.mem_of_getElem? (i := 1) rfl) rfl rfl dX8_hasKey_27 ?_
      refine lv_iconst (v := 3) hx hb dX8_hasKey_30 (by decide) ?_
      refine lv_iload_n hx hb dX8_hasKey_31 rfl (lv_at hl 1 rfl) ?_
      refine lv_imul hx hb dX8_hasKey_32 ?_
      refine lv_iconst (v := 2) hx hb dX8_hasKey_33 (by decide) ?_
      refine lv_iadd hx hb dX8_hasKey_34 ?_
      have b_5 : vp_in ((3 * r) + 2) 192 := by
        have k_1 : (3 : Int32).toInt = 3 := rfl
        have u_2 := rg_e r
        have k_4 : (2 : Int32).toInt = 2 := rfl
        have u_6 := rg_e (q.1 17 (Int32.toNatClampNeg (3 * r)))
        have u_7 := rg_e key
        have v_8 := cv_ne c_2
        have k_9 : (1 : Int32).toInt = 1 := rfl
        have u_11 := rg_e (q.1 17 (Int32.toNatClampNeg ((3 * r) + 1)))
        have v_12 := cv_ne c_4
        have w_13 := hrr
        have u_3 := mu_o 3 3 r rfl
        have u_5 := ad_o (3 * r) 2
        have u_10 := ad_o (3 * r) 1
        exact vp_in_iff.mpr (by omega)
      refine mm_iald (v := (q.1 17 (Int32.toNatClampNeg ((3 * r) + 2)))) hx hb hK hW 17 192 rfl b_5 ((rfl)) dX8_hasKey_35 ?_
      refine lv_iload_n hx hb dX8_hasKey_36 rfl (lv_at hl 2 rfl) ?_
      refine lv_icmp_ne (tgt := 44) hx hb dX8_hasKey_37 (by decide) (fun c_6 => ?_) (fun c_6 => ?_)
      · refine lv_iconst (v := 0) hx hb dX8_hasKey_44 (by decide) ?_
        exact mm_zret hx hb hr hlk hK hW hS rfl (by rw [m_X8_hasKey, if_neg c_2, if_neg c_4, if_neg c_6]) dX8_hasKey_45
      · refine lv_iconst (v := 1) hx hb dX8_hasKey_40 (by decide) ?_
        refine lv_goto (tgt := 45) hx hb dX8_hasKey_41 (by decide) ?_
        exact mm_zret hx hb hr hlk hK hW hS rfl (by rw [m_X8_hasKey, if_neg c_2, if_neg c_4, if_pos c_6]) dX8_hasKey_45
