def m_X8_fiscal (q : qM) (month : Int32) : qM := (if (m_X8_isIn month 1 12) = 0 then (mq_i (mq_i q 0 0 1) 2 0 (q.1 2 0)) else (if (q.1 12 0) ≤ 0 then (mq_i (mq_i q 0 0 0) 2 0 month) else (mq_i (mq_i q 0 0 2) 2 0 (q.1 2 0))))
set_option maxHeartbeats 4000000 in
set_option maxRecDepth 100000 in
theorem c_X8_fiscal (l : Launch) (D : va_G) (b0 : Nat) (Pc : Nat → Nat → Option va_E) (cA : Nat → ClassId) (ad : Nat → Nat → Nat) (q : qM) (month : Int32) : mc_v l yX8_fiscal wsX8_fiscal 1 22 D b0 Pc cA ad q [.ref (ad 20 0), .int month] (m_X8_fiscal q month) := by
  refine mc_of (by decide) rfl (Nat.le_of_ble_eq_true rfl) ?_
  intro p e s m below meth c hx hb hml hr hlk hown hts hK hW ls hl
  have hown : s.vm.findClass RX8 = some m.cls := hown
  have hS : va_S (wA b0) s.heap s.heap [] := va_S.rf
  have hl : lv_has ls 2 [(0, .ref (ad 20 0)), (1, .int month)] := hl
  have hin : ∀ w ∈ wsX80, w ∈ wsX8_fiscal := fun w h => List.mem_cons_of_mem _ (List.mem_append_right _ h)
  refine lv_aload_n hx hb dX8_fiscal_0 rfl (lv_at hl 0 rfl) ?_
  refine lv_iload_n hx hb dX8_fiscal_1 rfl (lv_at hl 1 rfl) ?_
  refine lv_iconst (v := 1) hx hb dX8_fiscal_2 (by decide) ?_
  refine lv_bipush (v := 12) hx hb dX8_fiscal_3 (by decide) ?_
  refine mm_callSi (n := 3) (As := [.int month, .int 1, .int 12]) (rest := [.ref (ad 20 0)]) (r := (m_X8_isIn month 1 12)) (q2 := q) ⟨hx, hb, hml, hown, hts⟩ (c_X8_isIn l D b0 Pc cA ad q month 1 12) gX8_fiscal_X8_isIn rfl (by decide +kernel) rfl ⟨Nat.le_of_ble_eq_true rfl, Nat.le_of_ble_eq_true rfl⟩ ⟨Nat.le_of_ble_eq_true rfl, Nat.le_of_ble_eq_true rfl⟩ hK hW hS hl.1 rfl (Nat.le_of_ble_eq_true rfl) dX8_fiscal_5 (fun H locs hW hS => ?_)
  refine lv_if_ne (tgt := 15) hx hb dX8_fiscal_8 (by decide) (fun c_1 => ?_) (fun c_1 => ?_)
  · refine lv_aload_n hx hb dX8_fiscal_15 rfl (lv_at hl 0 rfl) ?_
    refine mm_gets (v := (q.1 12 0)) hx hb hts hin hown hK hW 12 (by decide) (List.mem_of_getElem? (i := 1) rfl) rfl rfl (rfl) dX8_fiscal_16 ?_
    refine lv_if_le (tgt := 26) hx hb dX8_fiscal_19 (by decide) (fun c_2 => ?_) (fun c_2 => ?_)
    · refine lv_iconst (v := 0) hx hb dX8_fiscal_26 (by decide) ?_
      refine mm_put hx hb hts hin hown hK hW hS 0 (by decide) (List.mem_of_getElem? (i := 2) rfl) rfl rfl (by decide +kernel) rfl (ws_0 ad _ _) dX8_fiscal_27 (fun H locs hW hS => ?_)
      refine lv_aload_n hx hb dX8_fiscal_30 rfl (lv_at hl 0 rfl) ?_
      refine lv_aload_n hx hb dX8_fiscal_31 rfl (lv_at hl 0 rfl) ?_
      refine mm_gets (v := 0) hx hb hts hin hown hK hW 0 (by decide) (List.mem_of_getElem? (i := 2) rfl) rfl rfl (mq_same q 0 0 0) dX8_fiscal_32 ?_
      refine lv_if_le (tgt := 45) hx hb dX8_fiscal_35 (by decide) (fun _ => ?_) (fun h => absurd h (by decide))
      refine lv_iload_n hx hb dX8_fiscal_45 rfl (lv_at hl 1 rfl) ?_
      refine mm_put hx hb hts hin hown hK hW hS 2 (by decide) (List.mem_of_getElem? (i := 3) rfl) rfl rfl (by decide +kernel) rfl (ws_2 ad _ _) dX8_fiscal_46 (fun H locs hW hS => ?_)
      exact mm_vret hx hb hr hlk hK hW hS (by rw [m_X8_fiscal, if_neg c_1, if_pos c_2]) dX8_fiscal_49
    · refine lv_iconst (v := 2) hx hb dX8_fiscal_22 (by decide) ?_
      refine lv_goto (tgt := 27) hx hb dX8_fiscal_23 (by decide) ?_
      refine mm_put hx hb hts hin hown hK hW hS 0 (by decide) (List.mem_of_getElem? (i := 2) rfl) rfl rfl (by decide +kernel) rfl (ws_0 ad _ _) dX8_fiscal_27 (fun H locs hW hS => ?_)
      refine lv_aload_n hx hb dX8_fiscal_30 rfl (lv_at hl 0 rfl) ?_
      refine lv_aload_n hx hb dX8_fiscal_31 rfl (lv_at hl 0 rfl) ?_
      refine mm_gets (v := 2) hx hb hts hin hown hK hW 0 (by decide) (List.mem_of_getElem? (i := 2) rfl) rfl rfl (mq_same q 0 0 2) dX8_fiscal_32 ?_
      refine lv_if_le (tgt := 45) hx hb dX8_fiscal_35 (by decide) (fun h => absurd h (by decide)) (fun _ => ?_)
      refine lv_aload_n hx hb dX8_fiscal_38 rfl (lv_at hl 0 rfl) ?_
      refine mm_gets (v := (q.1 2 0)) hx hb hts hin hown hK hW 2 (by decide) (List.mem_of_getElem? (i := 3) rfl) rfl rfl (mq_ne (by decide)) dX8_fiscal_39 ?_
      refine lv_goto (tgt := 46) hx hb dX8_fiscal_42 (by decide) ?_
      refine mm_put hx hb hts hin hown hK hW hS 2 (by decide) (List.mem_of_getElem? (i := 3) rfl) rfl rfl (by decide +kernel) rfl (ws_2 ad _ _) dX8_fiscal_46 (fun H locs hW hS => ?_)
      exact mm_vret hx hb hr hlk hK hW hS (by rw [m_X8_fiscal, if_neg c_1, if_neg c_2]) dX8_fiscal_49
  · refine lv_iconst (v := 1) hx hb dX8_fiscal_11 (by decide) ?_
    refine lv_goto (tgt := 27) hx hb dX8_fiscal_12 (by decide) ?_
    refine mm_put hx hb hts hin hown hK hW hS 0 (by decide) (List.mem_of_getElem? (i := 2) rfl) rfl rfl (by decide +kernel) rfl (ws_0 ad _ _) dX8_fiscal_27 (fun H locs hW hS => ?_)
    refine lv_aload_n hx hb dX8_fiscal_30 rfl (lv_at hl 0 rfl) ?_
    refine lv_aload_n hx hb dX8_fiscal_31 rfl (lv_at hl 0 rfl) ?_
    refine mm_gets (v := 1) hx hb hts hin hown hK hW 0 (by decide) (List.mem_of_getElem? (i := 2) rfl) rfl rfl (mq_same q 0 0 1) dX8_fiscal_32 ?_
    refine lv_if_le (tgt := 45) hx hb dX8_fiscal_35 (by decide) (fun h => absurd h (by decide)) (fun _ => ?_)
    refine lv_aload_n hx hb dX8_fiscal_38 rfl (lv_at hl 0 rfl) ?_
    refine mm_gets (v := (q.1 2 0)) hx hb hts hin hown hK hW 2 (by decide) (List.mem_of_getElem? (i := 3) rfl) rfl rfl (mq_ne (by decide)) dX8_fiscal_39 ?_
    refine lv_goto (tgt := 46) hx hb dX8_fiscal_42 (by decide) ?_
    refine mm_put hx hb hts hin hown hK hW hS 2 (by decide) (List.mem_of_getElem? (i := 3) rfl) rfl rfl (by decide +kernel) rfl (ws_2 ad _ _) dX8_fiscal_46 (fun H locs hW hS => ?_)
    exact mm_vret hx hb hr hlk hK hW hS (by rw [m_X8_fiscal, if_pos c_1]) dX8_fiscal_49
