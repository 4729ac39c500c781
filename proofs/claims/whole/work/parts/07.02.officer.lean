def m_X8_officer (q : qM) (k : Int32) (right : Int32) : qM := (if (m_X8_isIn k 0 7) = 0 then (mq_i q 0 0 1) else (if (m_X8_isIn right 0 7) = 0 then (mq_i q 0 0 2) else (mq_i (mq_i q 0 0 0) 1 (Int32.toNatClampNeg k) right)))
set_option maxHeartbeats 4000000 in
set_option maxRecDepth 100000 in
theorem c_X8_officer (l : Launch) (D : va_G) (b0 : Nat) (Pc : Nat → Nat → Option va_E) (cA : Nat → ClassId) (ad : Nat → Nat → Nat) (q : qM) (k : Int32) (right : Int32) : mc_v l yX8_officer wsX8_officer 1 22 D b0 Pc cA ad q [.ref (ad 20 0), .int k, .int right] (m_X8_officer q k right) := by
  refine mc_of (by decide) rfl (Nat.le_of_ble_eq_true rfl) ?_
  intro p e s m below meth c hx hb hml hr hlk hown hts hK hW ls hl
  have hown : s.vm.findClass RX8 = some m.cls := hown
  have hS : va_S (wA b0) s.heap s.heap [] := va_S.rf
  have hl : lv_has ls 3 [(0, .ref (ad 20 0)), (1, .int k), (2, .int right)] := hl
  have hin : ∀ w ∈ wsX80, w ∈ wsX8_officer := fun w h => List.mem_cons_of_mem _ (List.mem_append_right _ h)
  refine lv_aload_n hx hb dX8_officer_0 rfl (lv_at hl 0 rfl) ?_
  refine lv_iload_n hx hb dX8_officer_1 rfl (lv_at hl 1 rfl) ?_
  refine lv_iconst (v := 0) hx hb dX8_officer_2 (by decide) ?_
  refine lv_bipush (v := 7) hx hb dX8_officer_3 (by decide) ?_
  refine mm_callSi (n := 3) (As := [.int k, .int 0, .int 7]) (rest := [.ref (ad 20 0)]) (r := (m_X8_isIn k 0 7)) (q2 := q) ⟨hx, hb, hml, hown, hts⟩ (c_X8_isIn l D b0 Pc cA ad q k 0 7) gX8_officer_X8_isIn rfl (by decide +kernel) rfl ⟨Nat.le_of_ble_eq_true rfl, Nat.le_of_ble_eq_true rfl⟩ ⟨Nat.le_of_ble_eq_true rfl, Nat.le_of_ble_eq_true rfl⟩ hK hW hS hl.1 rfl (Nat.le_of_ble_eq_true rfl) dX8_officer_5 (fun H locs hW hS => ?_)
  refine lv_if_ne (tgt := 15) hx hb dX8_officer_8 (by decide) (fun c_1 => ?_) (fun c_1 => ?_)
  · refine lv_iload_n hx hb dX8_officer_15 rfl (lv_at hl 2 rfl) ?_
    refine lv_iconst (v := 0) hx hb dX8_officer_16 (by decide) ?_
    refine lv_bipush (v := 7) hx hb dX8_officer_17 (by decide) ?_
    refine mm_callSi (n := 3) (As := [.int right, .int 0, .int 7]) (rest := [.ref (ad 20 0)]) (r := (m_X8_isIn right 0 7)) (q2 := q) ⟨hx, hb, hml, hown, hts⟩ (c_X8_isIn l D b0 Pc cA ad q right 0 7) gX8_officer_X8_isIn rfl (by decide +kernel) rfl ⟨Nat.le_of_ble_eq_true rfl, Nat.le_of_ble_eq_true rfl⟩ ⟨Nat.le_of_ble_eq_true rfl, Nat.le_of_ble_eq_true rfl⟩ hK hW hS hl.1 rfl (Nat.le_of_ble_eq_true rfl) dX8_officer_19 (fun H locs hW hS => ?_)
    refine lv_if_eq (tgt := 29) hx hb dX8_officer_22 (by decide) (fun c_2 => ?_) (fun c_2 => ?_)
    · refine lv_iconst (v := 2) hx hb dX8_officer_29 (by decide) ?_
      refine mm_put hx hb hts hin hown hK hW hS 0 (by decide) (List.mem_of_getElem? (i := 1) rfl) rfl rfl (by decide +kernel) rfl (ws_0 ad _ _) dX8_officer_30 (fun H locs hW hS => ?_)
      refine lv_aload_n hx hb dX8_officer_33 rfl (lv_at hl 0 rfl) ?_
      refine mm_gets (v := 2) hx hb hts hin hown hK hW 0 (by decide) (List.mem_of_getElem? (i := 1) rfl) rfl rfl (mq_same q 0 0 2) dX8_officer_34 ?_
      refine lv_if_ne (tgt := 47) hx hb dX8_officer_37 (by decide) (fun _ => ?_) (fun h => absurd h (by decide))
      exact mm_vret hx hb hr hlk hK hW hS (by rw [m_X8_officer, if_neg c_1, if_pos c_2]) dX8_officer_47
    · refine lv_iconst (v := 0) hx hb dX8_officer_25 (by decide) ?_
      refine lv_goto (tgt := 30) hx hb dX8_officer_26 (by decide) ?_
      refine mm_put hx hb hts hin hown hK hW hS 0 (by decide) (List.mem_of_getElem? (i := 1) rfl) rfl rfl (by decide +kernel) rfl (ws_0 ad _ _) dX8_officer_30 (fun H locs hW hS => ?_)
      refine lv_aload_n hx hb dX8_officer_33 rfl (lv_at hl 0 rfl) ?_
      refine mm_gets (v := 0) hx hb hts hin hown hK hW 0 (by decide) (List.mem_of_getElem? (i := 1) rfl) rfl rfl (mq_same q 0 0 0) dX8_officer_34 ?_
      refine lv_if_ne (tgt := 47) hx hb dX8_officer_37 (by decide) (fun h => absurd h (by decide)) (fun _ => ?_)
      refine lv_aload_n hx hb dX8_officer_40 rfl (lv_at hl 0 rfl) ?_
      refine mm_get (v := .ref (ad 21 1)) hx hb hts hin hown hK hW 1 (by decide) (List.mem_of_getElem? (i := 2) rfl) rfl rfl dX8_officer_41 ?_
      refine lv_iload_n hx hb dX8_officer_44 rfl (lv_at hl 1 rfl) ?_
      refine lv_iload_n hx hb dX8_officer_45 rfl (lv_at hl 2 rfl) ?_
      have b_3 : vp_in k 8 := by
        have u_1 := rg_e k
        have u_2 := rg_e (m_X8_isIn k 0 7)
        have k_3 : (0 : Int32).toInt = 0 := rfl
        have v_4 := cv_ne c_1
        have k_5 : (7 : Int32).toInt = 7 := rfl
        have v_6 := is_t c_1
        have u_7 := rg_e (m_X8_isIn right 0 7)
        have v_8 := cv_ne c_2
        have u_9 := rg_e right
        have v_10 := is_t c_2
        exact vp_in_iff.mpr (by omega)
      refine mm_iast hx hb hK hW hS 1 8 rfl b_3 dX8_officer_46 (fun H locs hW hS => ?_)
      exact mm_vret hx hb hr hlk hK hW hS (by rw [m_X8_officer, if_neg c_1, if_neg c_2]) dX8_officer_47
  · refine lv_iconst (v := 1) hx hb dX8_officer_11 (by decide) ?_
    refine lv_goto (tgt := 30) hx hb dX8_officer_12 (by decide) ?_
    refine mm_put hx hb hts hin hown hK hW hS 0 (by decide) (List.mem_of_getElem? (i := 1) rfl) rfl rfl (by decide +kernel) rfl (ws_0 ad _ _) dX8_officer_30 (fun H locs hW hS => ?_)
    refine lv_aload_n hx hb dX8_officer_33 rfl (lv_at hl 0 rfl) ?_
    refine mm_gets (v := 1) hx hb hts hin hown hK hW 0 (by decide) (List.mem_of_getElem? (i := 1) rfl) rfl rfl (mq_same q 0 0 1) dX8_officer_34 ?_
    refine lv_if_ne (tgt := 47) hx hb dX8_officer_37 (by decide) (fun _ => ?_) (fun h => absurd h (by decide))
    exact mm_vret hx hb hr hlk hK hW hS (by rw [m_X8_officer, if_pos c_1]) dX8_officer_47
