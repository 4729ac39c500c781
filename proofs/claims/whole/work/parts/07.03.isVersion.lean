def m_X8_isVersion (q : qM) (cl : Int32) (event : Int32) (years : Int32) (months : Int32) (day : Int32) : Int32 := (if (q.1 5 (Int32.toNatClampNeg cl)) = 0 then (if (m_X8_isIn event 0 3) = 0 then 0 else (if (m_X8_isTerm years months) = 0 then 0 else (if (m_X8_isIn day 0 120000) = 0 then 0 else 1))) else (if event = (q.1 4 (Int32.toNatClampNeg cl)) then (if day < (q.1 7 (Int32.toNatClampNeg (((6 * cl) + (q.1 5 (Int32.toNatClampNeg cl))) - 1))) then (if (m_X8_isIn event 0 3) = 0 then 0 else (if (m_X8_isTerm years months) = 0 then 0 else (if (m_X8_isIn day 0 120000) = 0 then 0 else 0))) else (if (m_X8_isIn event 0 3) = 0 then 0 else (if (m_X8_isTerm years months) = 0 then 0 else (if (m_X8_isIn day 0 120000) = 0 then 0 else 1)))) else (if (m_X8_isIn event 0 3) = 0 then 0 else (if (m_X8_isTerm years months) = 0 then 0 else (if (m_X8_isIn day 0 120000) = 0 then 0 else 0)))))
set_option maxHeartbeats 4000000 in
set_option maxRecDepth 100000 in
theorem c_X8_isVersion (l : Launch) (D : va_G) (b0 : Nat) (Pc : Nat → Nat → Option va_E) (cA : Nat → ClassId) (ad : Nat → Nat → Nat) (q : qM) (cl : Int32) (event : Int32) (years : Int32) (months : Int32) (day : Int32) (hc : 0 ≤ (cl : Int32).toInt ∧ (cl : Int32).toInt ≤ 7) (hI : gI q) : mc_i l yX8_isVersion wsX8_isVersion 2 43 D b0 Pc cA ad q [.ref (ad 20 0), .int cl, .int event, .int years, .int months, .int day] (m_X8_isVersion q cl event years months day, q) := by
  refine mc_of (by decide) rfl (Nat.le_of_ble_eq_true rfl) ?_
  intro p e s m below meth c hx hb hml hr hlk hown hts hK hW ls hl
  have hown : s.vm.findClass RX8 = some m.cls := hown
  have hS : va_S (wA b0) s.heap s.heap [] := va_S.rf
  have hl : lv_has ls 8 [(0, .ref (ad 20 0)), (1, .int cl), (2, .int event), (3, .int years), (4, .int months), (5, .int day)] := hl
  have hin : ∀ w ∈ wsX80, w ∈ wsX8_isVersion := fun w h => List.mem_cons_of_mem _ (List.mem_append_right _ h)
  refine lv_aload_n hx hb dX8_isVersion_0 rfl (lv_at hl 0 rfl) ?_
  refine mm_get (v := .ref (ad 21 5)) hx hb hts hin hown hK hW 5 (by decide) (List.mem_of_getElem? (i := 1) rfl) rfl rfl dX8_isVersion_1 ?_
  refine lv_iload_n hx hb dX8_isVersion_4 rfl (lv_at hl 1 rfl) ?_
  have b_1 : vp_in cl 8 := by
    have u_1 := rg_e cl
    have w_2 := hc
    have w_3 := hI.1 (Int32.toNatClampNeg cl)
    exact vp_in_iff.mpr (by omega)
  refine mm_iald (v := (q.1 5 (Int32.toNatClampNeg cl))) hx hb hK hW 5 8 rfl b_1 ((rfl)) dX8_isVersion_5 ?_
  refine lv_istore (lv' := [(6, .int (q.1 5 (Int32.toNatClampNeg cl))), (0, .ref (ad 20 0)), (1, .int cl), (2, .int event), (3, .int years), (4, .int months), (5, .int day)]) hx hb dX8_isVersion_6 hl (by decide) rfl (fun ls hl => ?_)
  refine lv_iload hx hb dX8_isVersion_8 (lv_at hl 0 rfl) ?_
  refine lv_if_eq (tgt := 42) hx hb dX8_isVersion_10 (by decide) (fun c_2 => ?_) (fun c_2 => ?_)
  · refine lv_iconst (v := 1) hx hb dX8_isVersion_42 (by decide) ?_
    refine lv_goto (tgt := 47) hx hb dX8_isVersion_43 (by decide) ?_
    refine lv_istore (lv' := [(7, .int 1), (6, .int (q.1 5 (Int32.toNatClampNeg cl))), (0, .ref (ad 20 0)), (1, .int cl), (2, .int event), (3, .int years), (4, .int months), (5, .int day)]) hx hb dX8_isVersion_47 hl (by decide) rfl (fun ls hl => ?_)
    refine lv_iload_n hx hb dX8_isVersion_49 rfl (lv_at hl 4 rfl) ?_
    refine lv_iconst (v := 0) hx hb dX8_isVersion_50 (by decide) ?_
    refine lv_iconst (v := 3) hx hb dX8_isVersion_51 (by decide) ?_
    refine mm_callSi (n := 3) (As := [.int event, .int 0, .int 3]) (rest := []) (r := (m_X8_isIn event 0 3)) (q2 := q) ⟨hx, hb, hml, hown, hts⟩ (c_X8_isIn l D b0 Pc cA ad q event 0 3) gX8_isVersion_X8_isIn rfl (by decide +kernel) rfl ⟨Nat.le_of_ble_eq_true rfl, Nat.le_of_ble_eq_true rfl⟩ ⟨Nat.le_of_ble_eq_true rfl, Nat.le_of_ble_eq_true rfl⟩ hK hW hS hl.1 rfl (Nat.le_of_ble_eq_true rfl) dX8_isVersion_52 (fun H locs hW hS => ?_)
    refine lv_if_eq (tgt := 87) hx hb dX8_isVersion_55 (by decide) (fun c_3 => ?_) (fun c_3 => ?_)
    · refine lv_iconst (v := 0) hx hb dX8_isVersion_87 (by decide) ?_
      exact mm_zret hx hb hr hlk hK hW hS rfl (by rw [m_X8_isVersion, if_pos c_2, if_pos c_3]) dX8_isVersion_88
    · refine lv_iload_n hx hb dX8_isVersion_58 rfl (lv_at hl 5 rfl) ?_
      refine lv_iload hx hb dX8_isVersion_59 (lv_at hl 6 rfl) ?_
      refine mm_callSi (n := 2) (As := [.int years, .int months]) (rest := []) (r := (m_X8_isTerm years months)) (q2 := q) ⟨hx, hb, hml, hown, hts⟩ (c_X8_isTerm l D b0 Pc cA ad q years months) gX8_isVersion_X8_isTerm rfl (by decide +kernel) rfl ⟨Nat.le_of_ble_eq_true rfl, Nat.le_of_ble_eq_true rfl⟩ ⟨Nat.le_of_ble_eq_true rfl, Nat.le_of_ble_eq_true rfl⟩ hK hW hS hl.1 rfl (Nat.le_of_ble_eq_true rfl) dX8_isVersion_61 (fun H locs hW hS => ?_)
      refine lv_if_eq (tgt := 87) hx hb dX8_isVersion_64 (by decide) (fun c_4 => ?_) (fun c_4 => ?_)
      · refine lv_iconst (v := 0) hx hb dX8_isVersion_87 (by decide) ?_
        exact mm_zret hx hb hr hlk hK hW hS rfl (by rw [m_X8_isVersion, if_pos c_2, if_neg c_3, if_pos c_4]) dX8_isVersion_88
      · refine lv_iload hx hb dX8_isVersion_67 (lv_at hl 7 rfl) ?_
        refine lv_iconst (v := 0) hx hb dX8_isVersion_69 (by decide) ?_
        refine lv_ldc (v := 120000) hx hb hown (hts _ (List.mem_of_getElem? (i := 4) rfl)) dX8_isVersion_70 ?_
        refine mm_callSi (n := 3) (As := [.int day, .int 0, .int 120000]) (rest := []) (r := (m_X8_isIn day 0 120000)) (q2 := q) ⟨hx, hb, hml, hown, hts⟩ (c_X8_isIn l D b0 Pc cA ad q day 0 120000) gX8_isVersion_X8_isIn rfl (by decide +kernel) rfl ⟨Nat.le_of_ble_eq_true rfl, Nat.le_of_ble_eq_true rfl⟩ ⟨Nat.le_of_ble_eq_true rfl, Nat.le_of_ble_eq_true rfl⟩ hK hW hS hl.1 rfl (Nat.le_of_ble_eq_true rfl) dX8_isVersion_72 (fun H locs hW hS => ?_)
        refine lv_if_eq (tgt := 87) hx hb dX8_isVersion_75 (by decide) (fun c_5 => ?_) (fun c_5 => ?_)
        · refine lv_iconst (v := 0) hx hb dX8_isVersion_87 (by decide) ?_
          exact mm_zret hx hb hr hlk hK hW hS rfl (by rw [m_X8_isVersion, if_pos c_2, if_neg c_3, if_neg c_4, if_pos c_5]) dX8_isVersion_88
        · refine lv_iload hx hb dX8_isVersion_78 (lv_at hl 0 rfl) ?_
          refine lv_if_eq (tgt := 87) hx hb dX8_isVersion_80 (by decide) (fun h => absurd h (by decide)) (fun _ => ?_)
          refine lv_iconst (v := 1) hx hb dX8_isVersion_83 (by decide) ?_
          refine lv_goto (tgt := 88) hx hb dX8_isVersion_84 (by decide) ?_
          exact mm_zret hx hb hr hlk hK hW hS rfl (by rw [m_X8_isVersion, if_pos c_2, if_neg c_3, if_neg c_4, if_neg c_5]) dX8_isVersion_88
  · refine lv_iload_n hx hb dX8_isVersion_13 rfl (lv_at hl 3 rfl) ?_
    refine lv_aload_n hx hb dX8_isVersion_14 rfl (lv_at hl 1 rfl) ?_
    refine mm_get (v := .ref (ad 21 4)) hx hb hts hin hown hK hW 4 (by decide) (List.mem_of_getElem? (i := 2) rfl) rfl rfl dX8_isVersion_15 ?_
    refine lv_iload_n hx hb dX8_isVersion_18 rfl (lv_at hl 2 rfl) ?_
    have b_6 : vp_in cl 8 := by
      have u_1 := rg_e cl
      have u_2 := rg_e (q.1 5 (Int32.toNatClampNeg cl))
      have k_3 : (0 : Int32).toInt = 0 := rfl
      have v_4 := cv_ne c_2
      have w_5 := hc
      have w_6 := hI.1 (Int32.toNatClampNeg cl)
      exact vp_in_iff.mpr (by omega)
    refine mm_iald (v := (q.1 4 (Int32.toNatClampNeg cl))) hx hb hK hW 4 8 rfl b_6 ((rfl)) dX8_isVersion_19 ?_
    refine lv_icmp_ne (tgt := 46) hx hb dX8_isVersion_20 (by decide) (fun c_7 => ?_) (fun c_7 => ?_)
    · refine lv_iconst (v := 0) hx hb dX8_isVersion_46 (by decide) ?_
      refine lv_istore (lv' := [(7, .int 0), (6, .int (q.1 5 (Int32.toNatClampNeg cl))), (0, .ref (ad 20 0)), (1, .int cl), (2, .int event), (3, .int years), (4, .int months), (5, .int day)]) hx hb dX8_isVersion_47 hl (by decide) rfl (fun ls hl => ?_)
      refine lv_iload_n hx hb dX8_isVersion_49 rfl (lv_at hl 4 rfl) ?_
      refine lv_iconst (v := 0) hx hb dX8_isVersion_50 (by decide) ?_
      refine lv_iconst (v := 3) hx hb dX8_isVersion_51 (by decide) ?_
      refine mm_callSi (n := 3) (As := [.int event, .int 0, .int 3]) (rest := []) (r := (m_X8_isIn event 0 3)) (q2 := q) ⟨hx, hb, hml, hown, hts⟩ (c_X8_isIn l D b0 Pc cA ad q event 0 3) gX8_isVersion_X8_isIn rfl (by decide +kernel) rfl ⟨Nat.le_of_ble_eq_true rfl, Nat.le_of_ble_eq_true rfl⟩ ⟨Nat.le_of_ble_eq_true rfl, Nat.le_of_ble_eq_true rfl⟩ hK hW hS hl.1 rfl (Nat.le_of_ble_eq_true rfl) dX8_isVersion_52 (fun H locs hW hS => ?_)
      refine lv_if_eq (tgt := 87) hx hb dX8_isVersion_55 (by decide) (fun c_8 => ?_) (fun c_8 => ?_)
      · refine lv_iconst (v := 0) hx hb dX8_isVersion_87 (by decide) ?_
        exact mm_zret hx hb hr hlk hK hW hS rfl (by rw [m_X8_isVersion, if_neg c_2, if_neg c_7, if_pos c_8]) dX8_isVersion_88
      · refine lv_iload_n hx hb dX8_isVersion_58 rfl (lv_at hl 5 rfl) ?_
        refine lv_iload hx hb dX8_isVersion_59 (lv_at hl 6 rfl) ?_
        refine mm_callSi (n := 2) (As := [.int years, .int months]) (rest := []) (r := (m_X8_isTerm years months)) (q2 := q) ⟨hx, hb, hml, hown, hts⟩ (c_X8_isTerm l D b0 Pc cA ad q years months) gX8_isVersion_X8_isTerm rfl (by decide +kernel) rfl ⟨Nat.le_of_ble_eq_true rfl, Nat.le_of_ble_eq_true rfl⟩ ⟨Nat.le_of_ble_eq_true rfl, Nat.le_of_ble_eq_true rfl⟩ hK hW hS hl.1 rfl (Nat.le_of_ble_eq_true rfl) dX8_isVersion_61 (fun H locs hW hS => ?_)
        refine lv_if_eq (tgt := 87) hx hb dX8_isVersion_64 (by decide) (fun c_9 => ?_) (fun c_9 => ?_)
        · refine lv_iconst (v := 0) hx hb dX8_isVersion_87 (by decide) ?_
          exact mm_zret hx hb hr hlk hK hW hS rfl (by rw [m_X8_isVersion, if_neg c_2, if_neg c_7, if_neg c_8, if_pos c_9]) dX8_isVersion_88
        · refine lv_iload hx hb dX8_isVersion_67 (lv_at hl 7 rfl) ?_
          refine lv_iconst (v := 0) hx hb dX8_isVersion_69 (by decide) ?_
          refine lv_ldc (v := 120000) hx hb hown (hts _ (List.mem_of_getElem? (i := 4) rfl)) dX8_isVersion_70 ?_
          refine mm_callSi (n := 3) (As := [.int day, .int 0, .int 120000]) (rest := []) (r := (m_X8_isIn day 0 120000)) (q2 := q) ⟨hx, hb, hml, hown, hts⟩ (c_X8_isIn l D b0 Pc cA ad q day 0 120000) gX8_isVersion_X8_isIn rfl (by decide +kernel) rfl ⟨Nat.le_of_ble_eq_true rfl, Nat.le_of_ble_eq_true rfl⟩ ⟨Nat.le_of_ble_eq_true rfl, Nat.le_of_ble_eq_true rfl⟩ hK hW hS hl.1 rfl (Nat.le_of_ble_eq_true rfl) dX8_isVersion_72 (fun H locs hW hS => ?_)
          refine lv_if_eq (tgt := 87) hx hb dX8_isVersion_75 (by decide) (fun c_10 => ?_) (fun c_10 => ?_)
          · refine lv_iconst (v := 0) hx hb dX8_isVersion_87 (by decide) ?_
            exact mm_zret hx hb hr hlk hK hW hS rfl (by rw [m_X8_isVersion, if_neg c_2, if_neg c_7, if_neg c_8, if_neg c_9, if_pos c_10]) dX8_isVersion_88
          · refine lv_iload hx hb dX8_isVersion_78 (lv_at hl 0 rfl) ?_
            refine lv_if_eq (tgt := 87) hx hb dX8_isVersion_80 (by decide) (fun _ => ?_) (fun h => absurd h (by decide))
            refine lv_iconst (v := 0) hx hb dX8_isVersion_87 (by decide) ?_
            exact mm_zret hx hb hr hlk hK hW hS rfl (by rw [m_X8_isVersion, if_neg c_2, if_neg c_7, if_neg c_8, if_neg c_9, if_neg c_10]) dX8_isVersion_88
    · refine lv_iload hx hb dX8_isVersion_23 (lv_at hl 6 rfl) ?_
      refine lv_aload_n hx hb dX8_isVersion_25 rfl (lv_at hl 1 rfl) ?_
      refine mm_get (v := .ref (ad 21 7)) hx hb hts hin hown hK hW 7 (by decide) (List.mem_of_getElem? (i := 3) rfl) rfl rfl dX8_isVersion_26 ?_
      refine lv_bipush (v := 6) hx hb dX8_isVersion_29 (by decide) ?_
      refine lv_iload_n hx hb dX8_isVersion_31 rfl (lv_at hl 2 rfl) ?_
      refine lv_imul hx hb dX8_isVersion_32 ?_
      refine lv_iload hx hb dX8_isVersion_33 (lv_at hl 0 rfl) ?_
      refine lv_iadd hx hb dX8_isVersion_35 ?_
      refine lv_iconst (v := 1) hx hb dX8_isVersion_36 (by decide) ?_
      refine lv_isub hx hb dX8_isVersion_37 ?_
      have b_11 : vp_in (((6 * cl) + (q.1 5 (Int32.toNatClampNeg cl))) - 1) 48 := by
        have k_1 : (6 : Int32).toInt = 6 := rfl
        have u_2 := rg_e cl
        have u_4 := rg_e (q.1 5 (Int32.toNatClampNeg cl))
        have k_6 : (1 : Int32).toInt = 1 := rfl
        have k_8 : (0 : Int32).toInt = 0 := rfl
        have v_9 := cv_ne c_2
        have u_10 := rg_e event
        have u_11 := rg_e (q.1 4 (Int32.toNatClampNeg cl))
        have v_12 := cv_eq c_7
        have w_13 := hc
        have w_14 := hI.1 (Int32.toNatClampNeg cl)
        have u_3 := mu_o 6 6 cl rfl
        have u_5 := ad_o (6 * cl) (q.1 5 (Int32.toNatClampNeg cl))
        have u_7 := su_o ((6 * cl) + (q.1 5 (Int32.toNatClampNeg cl))) 1
        exact vp_in_iff.mpr (by omega)
      refine mm_iald (v := (q.1 7 (Int32.toNatClampNeg (((6 * cl) + (q.1 5 (Int32.toNatClampNeg cl))) - 1)))) hx hb hK hW 7 48 rfl b_11 ((rfl)) dX8_isVersion_38 ?_
      refine lv_icmp_lt (tgt := 46) hx hb dX8_isVersion_39 (by decide) (fun c_12 => ?_) (fun c_12 => ?_)
      · refine lv_iconst (v := 0) hx hb dX8_isVersion_46 (by decide) ?_
        refine lv_istore (lv' := [(7, .int 0), (6, .int (q.1 5 (Int32.toNatClampNeg cl))), (0, .ref (ad 20 0)), (1, .int cl), (2, .int event), (3, .int years), (4, .int months), (5, .int day)]) hx hb dX8_isVersion_47 hl (by decide) rfl (fun ls hl => ?_)
        refine lv_iload_n hx hb dX8_isVersion_49 rfl (lv_at hl 4 rfl) ?_
        refine lv_iconst (v := 0) hx hb dX8_isVersion_50 (by decide) ?_
        refine lv_iconst (v := 3) hx hb dX8_isVersion_51 (by decide) ?_
        refine mm_callSi (n := 3) (As := [.int event, .int 0, .int 3]) (rest := []) (r := (m_X8_isIn event 0 3)) (q2 := q) ⟨hx, hb, hml, hown, hts⟩ (c_X8_isIn l D b0 Pc cA ad q event 0 3) gX8_isVersion_X8_isIn rfl (by decide +kernel) rfl ⟨Nat.le_of_ble_eq_true rfl, Nat.le_of_ble_eq_true rfl⟩ ⟨Nat.le_of_ble_eq_true rfl, Nat.le_of_ble_eq_true rfl⟩ hK hW hS hl.1 rfl (Nat.le_of_ble_eq_true rfl) dX8_isVersion_52 (fun H locs hW hS => ?_)
        refine lv_if_eq (tgt := 87) hx hb dX8_isVersion_55 (by decide) (fun c_13 => ?_) (fun c_13 => ?_)
        · refine lv_iconst (v := 0) hx hb dX8_isVersion_87 (by decide) ?_
          exact mm_zret hx hb hr hlk hK hW hS rfl (by rw [m_X8_isVersion, if_neg c_2, if_pos c_7, if_pos c_12, if_pos c_13]) dX8_isVersion_88
        · refine lv_iload_n hx hb dX8_isVersion_58 rfl (lv_at hl 5 rfl) ?_
          refine lv_iload hx hb dX8_isVersion_59 (lv_at hl 6 rfl) ?_
          refine mm_callSi (n := 2) (As := [.int years, .int months]) (rest := []) (r := (m_X8_isTerm years months)) (q2 := q) ⟨hx, hb, hml, hown, hts⟩ (c_X8_isTerm l D b0 Pc cA ad q years months) gX8_isVersion_X8_isTerm rfl (by decide +kernel) rfl ⟨Nat.le_of_ble_eq_true rfl, Nat.le_of_ble_eq_true rfl⟩ ⟨Nat.le_of_ble_eq_true rfl, Nat.le_of_ble_eq_true rfl⟩ hK hW hS hl.1 rfl (Nat.le_of_ble_eq_true rfl) dX8_isVersion_61 (fun H locs hW hS => ?_)
          refine lv_if_eq (tgt := 87) hx hb dX8_isVersion_64 (by decide) (fun c_14 => ?_) (fun c_14 => ?_)
          · refine lv_iconst (v := 0) hx hb dX8_isVersion_87 (by decide) ?_
            exact mm_zret hx hb hr hlk hK hW hS rfl (by rw [m_X8_isVersion, if_neg c_2, if_pos c_7, if_pos c_12, if_neg c_13, if_pos c_14]) dX8_isVersion_88
          · refine lv_iload hx hb dX8_isVersion_67 (lv_at hl 7 rfl) ?_
            refine lv_iconst (v := 0) hx hb dX8_isVersion_69 (by decide) ?_
            refine lv_ldc (v := 120000) hx hb hown (hts _ (List.mem_of_getElem? (i := 4) rfl)) dX8_isVersion_70 ?_
            refine mm_callSi (n := 3) (As := [.int day, .int 0, .int 120000]) (rest := []) (r := (m_X8_isIn day 0 120000)) (q2 := q) ⟨hx, hb, hml, hown, hts⟩ (c_X8_isIn l D b0 Pc cA ad q day 0 120000) gX8_isVersion_X8_isIn rfl (by decide +kernel) rfl ⟨Nat.le_of_ble_eq_true rfl, Nat.le_of_ble_eq_true rfl⟩ ⟨Nat.le_of_ble_eq_true rfl, Nat.le_of_ble_eq_true rfl⟩ hK hW hS hl.1 rfl (Nat.le_of_ble_eq_true rfl) dX8_isVersion_72 (fun H locs hW hS => ?_)
            refine lv_if_eq (tgt := 87) hx hb dX8_isVersion_75 (by decide) (fun c_15 => ?_) (fun c_15 => ?_)
            · refine lv_iconst (v := 0) hx hb dX8_isVersion_87 (by decide) ?_
              exact mm_zret hx hb hr hlk hK hW hS rfl (by rw [m_X8_isVersion, if_neg c_2, if_pos c_7, if_pos c_12, if_neg c_13, if_neg c_14, if_pos c_15]) dX8_isVersion_88
            · refine lv_iload hx hb dX8_isVersion_78 (lv_at hl 0 rfl) ?_
              refine lv_if_eq (tgt := 87) hx hb dX8_isVersion_80 (by decide) (fun _ => ?_) (fun h => absurd h (by decide))
              refine lv_iconst (v := 0) hx hb dX8_isVersion_87 (by decide) ?_
              exact mm_zret hx hb hr hlk hK hW hS rfl (by rw [m_X8_isVersion, if_neg c_2, if_pos c_7, if_pos c_12, if_neg c_13, if_neg c_14, if_neg c_15]) dX8_isVersion_88
      · refine lv_iconst (v := 1) hx hb dX8_isVersion_42 (by decide) ?_
        refine lv_goto (tgt := 47) hx hb dX8_isVersion_43 (by decide) ?_
        refine lv_istore (lv' := [(7, .int 1), (6, .int (q.1 5 (Int32.toNatClampNeg cl))), (0, .ref (ad 20 0)), (1, .int cl), (2, .int event), (3, .int years), (4, .int months), (5, .int day)]) hx hb dX8_isVersion_47 hl (by decide) rfl (fun ls hl => ?_)
        refine lv_iload_n hx hb dX8_isVersion_49 rfl (lv_at hl 4 rfl) ?_
        refine lv_iconst (v := 0) hx hb dX8_isVersion_50 (by decide) ?_
        refine lv_iconst (v := 3) hx hb dX8_isVersion_51 (by decide) ?_
        refine mm_callSi (n := 3) (As := [.int event, .int 0, .int 3]) (rest := []) (r := (m_X8_isIn event 0 3)) (q2 := q) ⟨hx, hb, hml, hown, hts⟩ (c_X8_isIn l D b0 Pc cA ad q event 0 3) gX8_isVersion_X8_isIn rfl (by decide +kernel) rfl ⟨Nat.le_of_ble_eq_true rfl, Nat.le_of_ble_eq_true rfl⟩ ⟨Nat.le_of_ble_eq_true rfl, Nat.le_of_ble_eq_true rfl⟩ hK hW hS hl.1 rfl (Nat.le_of_ble_eq_true rfl) dX8_isVersion_52 (fun H locs hW hS => ?_)
        refine lv_if_eq (tgt := 87) hx hb dX8_isVersion_55 (by decide) (fun c_16 => ?_) (fun c_16 => ?_)
        · refine lv_iconst (v := 0) hx hb dX8_isVersion_87 (by decide) ?_
          exact mm_zret hx hb hr hlk hK hW hS rfl (by rw [m_X8_isVersion, if_neg c_2, if_pos c_7, if_neg c_12, if_pos c_16]) dX8_isVersion_88
        · refine lv_iload_n hx hb dX8_isVersion_58 rfl (lv_at hl 5 rfl) ?_
          refine lv_iload hx hb dX8_isVersion_59 (lv_at hl 6 rfl) ?_
          refine mm_callSi (n := 2) (As := [.int years, .int months]) (rest := []) (r := (m_X8_isTerm years months)) (q2 := q) ⟨hx, hb, hml, hown, hts⟩ (c_X8_isTerm l D b0 Pc cA ad q years months) gX8_isVersion_X8_isTerm rfl (by decide +kernel) rfl ⟨Nat.le_of_ble_eq_true rfl, Nat.le_of_ble_eq_true rfl⟩ ⟨Nat.le_of_ble_eq_true rfl, Nat.le_of_ble_eq_true rfl⟩ hK hW hS hl.1 rfl (Nat.le_of_ble_eq_true rfl) dX8_isVersion_61 (fun H locs hW hS => ?_)
          refine lv_if_eq (tgt := 87) hx hb dX8_isVersion_64 (by decide) (fun c_17 => ?_) (fun c_17 => ?_)
          · refine lv_iconst (v := 0) hx hb dX8_isVersion_87 (by decide) ?_
            exact mm_zret hx hb hr hlk hK hW hS rfl (by rw [m_X8_isVersion, if_neg c_2, if_pos c_7, if_neg c_12, if_neg c_16, if_pos c_17]) dX8_isVersion_88
          · refine lv_iload hx hb dX8_isVersion_67 (lv_at hl 7 rfl) ?_
            refine lv_iconst (v := 0) hx hb dX8_isVersion_69 (by decide) ?_
            refine lv_ldc (v := 120000) hx hb hown (hts _ (List.mem_of_getElem? (i := 4) rfl)) dX8_isVersion_70 ?_
            refine mm_callSi (n := 3) (As := [.int day, .int 0, .int 120000]) (rest := []) (r := (m_X8_isIn day 0 120000)) (q2 := q) ⟨hx, hb, hml, hown, hts⟩ (c_X8_isIn l D b0 Pc cA ad q day 0 120000) gX8_isVersion_X8_isIn rfl (by decide +kernel) rfl ⟨Nat.le_of_ble_eq_true rfl, Nat.le_of_ble_eq_true rfl⟩ ⟨Nat.le_of_ble_eq_true rfl, Nat.le_of_ble_eq_true rfl⟩ hK hW hS hl.1 rfl (Nat.le_of_ble_eq_true rfl) dX8_isVersion_72 (fun H locs hW hS => ?_)
            refine lv_if_eq (tgt := 87) hx hb dX8_isVersion_75 (by decide) (fun c_18 => ?_) (fun c_18 => ?_)
            · refine lv_iconst (v := 0) hx hb dX8_isVersion_87 (by decide) ?_
              exact mm_zret hx hb hr hlk hK hW hS rfl (by rw [m_X8_isVersion, if_neg c_2, if_pos c_7, if_neg c_12, if_neg c_16, if_neg c_17, if_pos c_18]) dX8_isVersion_88
            · refine lv_iload hx hb dX8_isVersion_78 (lv_at hl 0 rfl) ?_
              refine lv_if_eq (tgt := 87) hx hb dX8_isVersion_80 (by decide) (fun h => absurd h (by decide)) (fun _ => ?_)
              refine lv_iconst (v := 1) hx hb dX8_isVersion_83 (by decide) ?_
              refine lv_goto (tgt := 88) hx hb dX8_isVersion_84 (by decide) ?_
              exact mm_zret hx hb hr hlk hK hW hS rfl (by rw [m_X8_isVersion, if_neg c_2, if_pos c_7, if_neg c_12, if_neg c_16, if_neg c_17, if_neg c_18]) dX8_isVersion_88
