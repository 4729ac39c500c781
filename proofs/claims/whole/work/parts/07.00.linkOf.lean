def m_X8_linkOf (q : qM) (i : Int32) : Int64 := (if i = 0 then (if (q.1 32 (Int32.toNatClampNeg (4 * i))) = 5 then (if (m_X8_isIn (q.1 32 (Int32.toNatClampNeg ((4 * i) + 1))) 0 ((q.1 12 0) - 1)) = 0 then (m_X8_linked (m_X8_linked (m_X8_linked (m_X8_linked (m_X8_linked 0 ((q.1 32 (Int32.toNatClampNeg ((4 * i) + 0))) : Int32).toInt64) ((q.1 32 (Int32.toNatClampNeg ((4 * i) + 1))) : Int32).toInt64) ((q.1 32 (Int32.toNatClampNeg ((4 * i) + 2))) : Int32).toInt64) ((q.1 32 (Int32.toNatClampNeg ((4 * i) + 3))) : Int32).toInt64) 0) else (m_X8_linked (m_X8_linked (m_X8_linked (m_X8_linked (m_X8_linked 0 ((q.1 32 (Int32.toNatClampNeg ((4 * i) + 0))) : Int32).toInt64) ((q.1 32 (Int32.toNatClampNeg ((4 * i) + 1))) : Int32).toInt64) ((q.1 32 (Int32.toNatClampNeg ((4 * i) + 2))) : Int32).toInt64) ((q.1 32 (Int32.toNatClampNeg ((4 * i) + 3))) : Int32).toInt64) (q.2 16 (Int32.toNatClampNeg (q.1 32 (Int32.toNatClampNeg ((4 * i) + 1))))))) else (if (q.1 32 (Int32.toNatClampNeg (4 * i))) = 11 then (if (m_X8_isIn (q.1 32 (Int32.toNatClampNeg ((4 * i) + 1))) 0 ((q.1 12 0) - 1)) = 0 then (m_X8_linked (m_X8_linked (m_X8_linked (m_X8_linked (m_X8_linked 0 ((q.1 32 (Int32.toNatClampNeg ((4 * i) + 0))) : Int32).toInt64) ((q.1 32 (Int32.toNatClampNeg ((4 * i) + 1))) : Int32).toInt64) ((q.1 32 (Int32.toNatClampNeg ((4 * i) + 2))) : Int32).toInt64) ((q.1 32 (Int32.toNatClampNeg ((4 * i) + 3))) : Int32).toInt64) 0) else (m_X8_linked (m_X8_linked (m_X8_linked (m_X8_linked (m_X8_linked 0 ((q.1 32 (Int32.toNatClampNeg ((4 * i) + 0))) : Int32).toInt64) ((q.1 32 (Int32.toNatClampNeg ((4 * i) + 1))) : Int32).toInt64) ((q.1 32 (Int32.toNatClampNeg ((4 * i) + 2))) : Int32).toInt64) ((q.1 32 (Int32.toNatClampNeg ((4 * i) + 3))) : Int32).toInt64) (q.2 16 (Int32.toNatClampNeg (q.1 32 (Int32.toNatClampNeg ((4 * i) + 1))))))) else (m_X8_linked (m_X8_linked (m_X8_linked (m_X8_linked 0 ((q.1 32 (Int32.toNatClampNeg ((4 * i) + 0))) : Int32).toInt64) ((q.1 32 (Int32.toNatClampNeg ((4 * i) + 1))) : Int32).toInt64) ((q.1 32 (Int32.toNatClampNeg ((4 * i) + 2))) : Int32).toInt64) ((q.1 32 (Int32.toNatClampNeg ((4 * i) + 3))) : Int32).toInt64))) else (if (q.1 32 (Int32.toNatClampNeg (4 * i))) = 5 then (if (m_X8_isIn (q.1 32 (Int32.toNatClampNeg ((4 * i) + 1))) 0 ((q.1 12 0) - 1)) = 0 then (m_X8_linked (m_X8_linked (m_X8_linked (m_X8_linked (m_X8_linked (q.2 33 (Int32.toNatClampNeg (i - 1))) ((q.1 32 (Int32.toNatClampNeg ((4 * i) + 0))) : Int32).toInt64) ((q.1 32 (Int32.toNatClampNeg ((4 * i) + 1))) : Int32).toInt64) ((q.1 32 (Int32.toNatClampNeg ((4 * i) + 2))) : Int32).toInt64) ((q.1 32 (Int32.toNatClampNeg ((4 * i) + 3))) : Int32).toInt64) 0) else (m_X8_linked (m_X8_linked (m_X8_linked (m_X8_linked (m_X8_linked (q.2 33 (Int32.toNatClampNeg (i - 1))) ((q.1 32 (Int32.toNatClampNeg ((4 * i) + 0))) : Int32).toInt64) ((q.1 32 (Int32.toNatClampNeg ((4 * i) + 1))) : Int32).toInt64) ((q.1 32 (Int32.toNatClampNeg ((4 * i) + 2))) : Int32).toInt64) ((q.1 32 (Int32.toNatClampNeg ((4 * i) + 3))) : Int32).toInt64) (q.2 16 (Int32.toNatClampNeg (q.1 32 (Int32.toNatClampNeg ((4 * i) + 1))))))) else (if (q.1 32 (Int32.toNatClampNeg (4 * i))) = 11 then (if (m_X8_isIn (q.1 32 (Int32.toNatClampNeg ((4 * i) + 1))) 0 ((q.1 12 0) - 1)) = 0 then (m_X8_linked (m_X8_linked (m_X8_linked (m_X8_linked (m_X8_linked (q.2 33 (Int32.toNatClampNeg (i - 1))) ((q.1 32 (Int32.toNatClampNeg ((4 * i) + 0))) : Int32).toInt64) ((q.1 32 (Int32.toNatClampNeg ((4 * i) + 1))) : Int32).toInt64) ((q.1 32 (Int32.toNatClampNeg ((4 * i) + 2))) : Int32).toInt64) ((q.1 32 (Int32.toNatClampNeg ((4 * i) + 3))) : Int32).toInt64) 0) else (m_X8_linked (m_X8_linked (m_X8_linked (m_X8_linked (m_X8_linked (q.2 33 (Int32.toNatClampNeg (i - 1))) ((q.1 32 (Int32.toNatClampNeg ((4 * i) + 0))) : Int32).toInt64) ((q.1 32 (Int32.toNatClampNeg ((4 * i) + 1))) : Int32).toInt64) ((q.1 32 (Int32.toNatClampNeg ((4 * i) + 2))) : Int32).toInt64) ((q.1 32 (Int32.toNatClampNeg ((4 * i) + 3))) : Int32).toInt64) (q.2 16 (Int32.toNatClampNeg (q.1 32 (Int32.toNatClampNeg ((4 * i) + 1))))))) else (m_X8_linked (m_X8_linked (m_X8_linked (m_X8_linked (q.2 33 (Int32.toNatClampNeg (i - 1))) ((q.1 32 (Int32.toNatClampNeg ((4 * i) + 0))) : Int32).toInt64) ((q.1 32 (Int32.toNatClampNeg ((4 * i) + 1))) : Int32).toInt64) ((q.1 32 (Int32.toNatClampNeg ((4 * i) + 2))) : Int32).toInt64) ((q.1 32 (Int32.toNatClampNeg ((4 * i) + 3))) : Int32).toInt64))))
set_option maxHeartbeats 4000000 in
set_option maxRecDepth 100000 in
theorem c_X8_linkOf (l : Launch) (D : va_G) (b0 : Nat) (Pc : Nat → Nat → Option va_E) (cA : Nat → ClassId) (ad : Nat → Nat → Nat) (q : qM) (i : Int32) (hi : 0 ≤ (i : Int32).toInt ∧ (i : Int32).toInt ≤ 399) (hrc : 0 ≤ (q.1 12 0).toInt ∧ (q.1 12 0).toInt ≤ 64) : mc_l l yX8_linkOf wsX8_linkOf 1 25 D b0 Pc cA ad q [.ref (ad 20 0), .int i] (m_X8_linkOf q i, q) := by
  refine mc_of (by decide) rfl (Nat.le_of_ble_eq_true rfl) ?_
  intro p e s m below meth c hx hb hml hr hlk hown hts hK hW ls hl
  have hown : s.vm.findClass RX8 = some m.cls := hown
  have hS : va_S (wA b0) s.heap s.heap [] := va_S.rf
  have hl : lv_has ls 6 [(0, .ref (ad 20 0)), (1, .int i)] := hl
  have hin : ∀ w ∈ wsX80, w ∈ wsX8_linkOf := fun w h => List.mem_cons_of_mem _ (List.mem_append_right _ h)
  refine lv_iload_n hx hb dX8_linkOf_0 rfl (lv_at hl 1 rfl) ?_
  refine lv_if_ne (tgt := 8) hx hb dX8_linkOf_1 (by decide) (fun c_1 => ?_) (fun c_1 => ?_)
  · refine lv_aload_n hx hb dX8_linkOf_8 rfl (lv_at hl 0 rfl) ?_
    refine mm_get (v := .ref (ad 21 33)) hx hb hts hin hown hK hW 33 (by decide) (List.mem_of_getElem? (i := 1) rfl) rfl rfl dX8_linkOf_9 ?_
    refine lv_iload_n hx hb dX8_linkOf_12 rfl (lv_at hl 1 rfl) ?_
    refine lv_iconst (v := 1) hx hb dX8_linkOf_13 (by decide) ?_
    refine lv_isub hx hb dX8_linkOf_14 ?_
    have b_2 : vp_in (i - 1) 400 := by
      have u_1 := rg_e i
      have k_2 : (1 : Int32).toInt = 1 := rfl
      have k_4 : (0 : Int32).toInt = 0 := rfl
      have v_5 := cv_ne c_1
      have w_6 := hi
      have w_7 := hrc
      have u_3 := su_o i 1
      exact vp_in_iff.mpr (by omega)
    refine mm_lald (v := (q.2 33 (Int32.toNatClampNeg (i - 1)))) hx hb hK hW 33 400 rfl b_2 ((rfl)) dX8_linkOf_15 ?_
    refine lv_lstore_n (lv' := [(2, .long (q.2 33 (Int32.toNatClampNeg (i - 1)))), (0, .ref (ad 20 0)), (1, .int i)]) hx hb dX8_linkOf_16 rfl hl (by decide) rfl (fun ls hl => ?_)
    refine lv_iconst (v := 0) hx hb dX8_linkOf_17 (by decide) ?_
    refine lv_istore (lv' := [(4, .int 0), (2, .long (q.2 33 (Int32.toNatClampNeg (i - 1)))), (0, .ref (ad 20 0)), (1, .int i)]) hx hb dX8_linkOf_18 hl (by decide) rfl (fun ls hl => ?_)
    refine lv_iload hx hb dX8_linkOf_20 (lv_at hl 0 rfl) ?_
    refine lv_iconst (v := 4) hx hb dX8_linkOf_22 (by decide) ?_
    refine lv_icmp_ge (tgt := 49) hx hb dX8_linkOf_23 (by decide) (fun h => absurd h (by decide)) (fun _ => ?_)
    refine lv_lload_n hx hb dX8_linkOf_26 rfl (lv_at hl 1 rfl) ?_
    refine lv_aload_n hx hb dX8_linkOf_27 rfl (lv_at hl 2 rfl) ?_
    refine mm_get (v := .ref (ad 21 32)) hx hb hts hin hown hK hW 32 (by decide) (List.mem_of_getElem? (i := 2) rfl) rfl rfl dX8_linkOf_28 ?_
    refine lv_iconst (v := 4) hx hb dX8_linkOf_31 (by decide) ?_
    refine lv_iload_n hx hb dX8_linkOf_32 rfl (lv_at hl 3 rfl) ?_
    refine lv_imul hx hb dX8_linkOf_33 ?_
    refine lv_iload hx hb dX8_linkOf_34 (lv_at hl 0 rfl) ?_
    refine lv_iadd hx hb dX8_linkOf_36 ?_
    have b_3 : vp_in ((4 * i) + 0) 1600 := by
      have k_1 : (4 : Int32).toInt = 4 := rfl
      have u_2 := rg_e i
      have k_4 : (0 : Int32).toInt = 0 := rfl
      have v_6 := cv_ne c_1
      have w_7 := hi
      have w_8 := hrc
      have u_3 := mu_o 4 4 i rfl
      have u_5 := ad_o (4 * i) 0
      exact vp_in_iff.mpr (by omega)
    refine mm_iald (v := (q.1 32 (Int32.toNatClampNeg ((4 * i) + 0)))) hx hb hK hW 32 1600 rfl b_3 ((rfl)) dX8_linkOf_37 ?_
    refine lv_i2l (v := ((q.1 32 (Int32.toNatClampNeg ((4 * i) + 0))) : Int32).toInt64) hx hb dX8_linkOf_38 rfl ?_
    refine mm_callSl (n := 2) (As := [.long (q.2 33 (Int32.toNatClampNeg (i - 1))), .long ((q.1 32 (Int32.toNatClampNeg ((4 * i) + 0))) : Int32).toInt64]) (rest := []) (r := (m_X8_linked (q.2 33 (Int32.toNatClampNeg (i - 1))) ((q.1 32 (Int32.toNatClampNeg ((4 * i) + 0))) : Int32).toInt64)) (q2 := q) ⟨hx, hb, hml, hown, hts⟩ (c_X8_linked l D b0 Pc cA ad q (q.2 33 (Int32.toNatClampNeg (i - 1))) ((q.1 32 (Int32.toNatClampNeg ((4 * i) + 0))) : Int32).toInt64) gX8_linkOf_X8_linked rfl (by decide +kernel) rfl ⟨Nat.le_of_ble_eq_true rfl, Nat.le_of_ble_eq_true rfl⟩ ⟨Nat.le_of_ble_eq_true rfl, Nat.le_of_ble_eq_true rfl⟩ hK hW hS hl.1 rfl (Nat.le_of_ble_eq_true rfl) dX8_linkOf_39 (fun H locs hW hS => ?_)
    refine lv_lstore_n (lv' := [(2, .long (m_X8_linked (q.2 33 (Int32.toNatClampNeg (i - 1))) ((q.1 32 (Int32.toNatClampNeg ((4 * i) + 0))) : Int32).toInt64)), (4, .int 0), (0, .ref (ad 20 0)), (1, .int i)]) hx hb dX8_linkOf_42 rfl hl (by decide) rfl (fun ls hl => ?_)
    refine lv_iinc (v := 1) (lv' := [(4, .int 1), (2, .long (m_X8_linked (q.2 33 (Int32.toNatClampNeg (i - 1))) ((q.1 32 (Int32.toNatClampNeg ((4 * i) + 0))) : Int32).toInt64)), (0, .ref (ad 20 0)), (1, .int i)]) hx hb dX8_linkOf_43 hl (k := 1) rfl (by first | rfl | decide) (by decide) rfl (fun ls hl => ?_)
    refine lv_goto (tgt := 20) hx hb dX8_linkOf_46 (by decide) ?_
    refine lv_iload hx hb dX8_linkOf_20 (lv_at hl 0 rfl) ?_
    refine lv_iconst (v := 4) hx hb dX8_linkOf_22 (by decide) ?_
    refine lv_icmp_ge (tgt := 49) hx hb dX8_linkOf_23 (by decide) (fun h => absurd h (by decide)) (fun _ => ?_)
    refine lv_lload_n hx hb dX8_linkOf_26 rfl (lv_at hl 1 rfl) ?_
    refine lv_aload_n hx hb dX8_linkOf_27 rfl (lv_at hl 2 rfl) ?_
    refine mm_get (v := .ref (ad 21 32)) hx hb hts hin hown hK hW 32 (by decide) (List.mem_of_getElem? (i := 2) rfl) rfl rfl dX8_linkOf_28 ?_
    refine lv_iconst (v := 4) hx hb dX8_linkOf_31 (by decide) ?_
    refine lv_iload_n hx hb dX8_linkOf_32 rfl (lv_at hl 3 rfl) ?_
    refine lv_imul hx hb dX8_linkOf_33 ?_
    refine lv_iload hx hb dX8_linkOf_34 (lv_at hl 0 rfl) ?_
    refine lv_iadd hx hb dX8_linkOf_36 ?_
    have b_4 : vp_in ((4 * i) + 1) 1600 := by
      have k_1 : (4 : Int32).toInt = 4 := rfl
      have u_2 := rg_e i
      have k_4 : (1 : Int32).toInt = 1 := rfl
      have k_6 : (0 : Int32).toInt = 0 := rfl
      have v_7 := cv_ne c_1
      have w_8 := hi
      have w_9 := hrc
      have u_3 := mu_o 4 4 i rfl
      have u_5 := ad_o (4 * i) 1
      exact vp_in_iff.mpr (by omega)
    refine mm_iald (v := (q.1 32 (Int32.toNatClampNeg ((4 * i) + 1)))) hx hb hK hW 32 1600 rfl b_4 ((rfl)) dX8_linkOf_37 ?_
    refine lv_i2l (v := ((q.1 32 (Int32.toNatClampNeg ((4 * i) + 1))) : Int32).toInt64) hx hb dX8_linkOf_38 rfl ?_
    refine mm_callSl (n := 2) (As := [.long (m_X8_linked (q.2 33 (Int32.toNatClampNeg (i - 1))) ((q.1 32 (Int32.toNatClampNeg ((4 * i) + 0))) : Int32).toInt64), .long ((q.1 32 (Int32.toNatClampNeg ((4 * i) + 1))) : Int32).toInt64]) (rest := []) (r := (m_X8_linked (m_X8_linked (q.2 33 (Int32.toNatClampNeg (i - 1))) ((q.1 32 (Int32.toNatClampNeg ((4 * i) + 0))) : Int32).toInt64) ((q.1 32 (Int32.toNatClampNeg ((4 * i) + 1))) : Int32).toInt64)) (q2 := q) ⟨hx, hb, hml, hown, hts⟩ (c_X8_linked l D b0 Pc cA ad q (m_X8_linked (q.2 33 (Int32.toNatClampNeg (i - 1))) ((q.1 32 (Int32.toNatClampNeg ((4 * i) + 0))) : Int32).toInt64) ((q.1 32 (Int32.toNatClampNeg ((4 * i) + 1))) : Int32).toInt64) gX8_linkOf_X8_linked rfl (by decide +kernel) rfl ⟨Nat.le_of_ble_eq_true rfl, Nat.le_of_ble_eq_true rfl⟩ ⟨Nat.le_of_ble_eq_true rfl, Nat.le_of_ble_eq_true rfl⟩ hK hW hS hl.1 rfl (Nat.le_of_ble_eq_true rfl) dX8_linkOf_39 (fun H locs hW hS => ?_)
    refine lv_lstore_n (lv' := [(2, .long (m_X8_linked (m_X8_linked (q.2 33 (Int32.toNatClampNeg (i - 1))) ((q.1 32 (Int32.toNatClampNeg ((4 * i) + 0))) : Int32).toInt64) ((q.1 32 (Int32.toNatClampNeg ((4 * i) + 1))) : Int32).toInt64)), (4, .int 1), (0, .ref (ad 20 0)), (1, .int i)]) hx hb dX8_linkOf_42 rfl hl (by decide) rfl (fun ls hl => ?_)
    refine lv_iinc (v := 2) (lv' := [(4, .int 2), (2, .long (m_X8_linked (m_X8_linked (q.2 33 (Int32.toNatClampNeg (i - 1))) ((q.1 32 (Int32.toNatClampNeg ((4 * i) + 0))) : Int32).toInt64) ((q.1 32 (Int32.toNatClampNeg ((4 * i) + 1))) : Int32).toInt64)), (0, .ref (ad 20 0)), (1, .int i)]) hx hb dX8_linkOf_43 hl (k := 1) rfl (by first | rfl | decide) (by decide) rfl (fun ls hl => ?_)
    refine lv_goto (tgt := 20) hx hb dX8_linkOf_46 (by decide) ?_
    refine lv_iload hx hb dX8_linkOf_20 (lv_at hl 0 rfl) ?_
    refine lv_iconst (v := 4) hx hb dX8_linkOf_22 (by decide) ?_
    refine lv_icmp_ge (tgt := 49) hx hb dX8_linkOf_23 (by decide) (fun h => absurd h (by decide)) (fun _ => ?_)
    refine lv_lload_n hx hb dX8_linkOf_26 rfl (lv_at hl 1 rfl) ?_
    refine lv_aload_n hx hb dX8_linkOf_27 rfl (lv_at hl 2 rfl) ?_
    refine mm_get (v := .ref (ad 21 32)) hx hb hts hin hown hK hW 32 (by decide) (List.mem_of_getElem? (i := 2) rfl) rfl rfl dX8_linkOf_28 ?_
    refine lv_iconst (v := 4) hx hb dX8_linkOf_31 (by decide) ?_
    refine lv_iload_n hx hb dX8_linkOf_32 rfl (lv_at hl 3 rfl) ?_
    refine lv_imul hx hb dX8_linkOf_33 ?_
    refine lv_iload hx hb dX8_linkOf_34 (lv_at hl 0 rfl) ?_
    refine lv_iadd hx hb dX8_linkOf_36 ?_
    have b_5 : vp_in ((4 * i) + 2) 1600 := by
      have k_1 : (4 : Int32).toInt = 4 := rfl
      have u_2 := rg_e i
      have k_4 : (2 : Int32).toInt = 2 := rfl
      have k_6 : (0 : Int32).toInt = 0 := rfl
      have v_7 := cv_ne c_1
      have w_8 := hi
      have w_9 := hrc
      have u_3 := mu_o 4 4 i rfl
      have u_5 := ad_o (4 * i) 2
      exact vp_in_iff.mpr (by omega)
    refine mm_iald (v := (q.1 32 (Int32.toNatClampNeg ((4 * i) + 2)))) hx hb hK hW 32 1600 rfl b_5 ((rfl)) dX8_linkOf_37 ?_
    refine lv_i2l (v := ((q.1 32 (Int32.toNatClampNeg ((4 * i) + 2))) : Int32).toInt64) hx hb dX8_linkOf_38 rfl ?_
    refine mm_callSl (n := 2) (As := [.long (m_X8_linked (m_X8_linked (q.2 33 (Int32.toNatClampNeg (i - 1))) ((q.1 32 (Int32.toNatClampNeg ((4 * i) + 0))) : Int32).toInt64) ((q.1 32 (Int32.toNatClampNeg ((4 * i) + 1))) : Int32).toInt64), .long ((q.1 32 (Int32.toNatClampNeg ((4 * i) + 2))) : Int32).toInt64]) (rest := []) (r := (m_X8_linked (m_X8_linked (m_X8_linked (q.2 33 (Int32.toNatClampNeg (i - 1))) ((q.1 32 (Int32.toNatClampNeg ((4 * i) + 0))) : Int32).toInt64) ((q.1 32 (Int32.toNatClampNeg ((4 * i) + 1))) : Int32).toInt64) ((q.1 32 (Int32.toNatClampNeg ((4 * i) + 2))) : Int32).toInt64)) (q2 := q) ⟨hx, hb, hml, hown, hts⟩ (c_X8_linked l D b0 Pc cA ad q (m_X8_linked (m_X8_linked (q.2 33 (Int32.toNatClampNeg (i - 1))) ((q.1 32 (Int32.toNatClampNeg ((4 * i) + 0))) : Int32).toInt64) ((q.1 32 (Int32.toNatClampNeg ((4 * i) + 1))) : Int32).toInt64) ((q.1 32 (Int32.toNatClampNeg ((4 * i) + 2))) : Int32).toInt64) gX8_linkOf_X8_linked rfl (by decide +kernel) rfl ⟨Nat.le_of_ble_eq_true rfl, Nat.le_of_ble_eq_true rfl⟩ ⟨Nat.le_of_ble_eq_true rfl, Nat.le_of_ble_eq_true rfl⟩ hK hW hS hl.1 rfl (Nat.le_of_ble_eq_true rfl) dX8_linkOf_39 (fun H locs hW hS => ?_)
    refine lv_lstore_n (lv' := [(2, .long (m_X8_linked (m_X8_linked (m_X8_linked (q.2 33 (Int32.toNatClampNeg (i - 1))) ((q.1 32 (Int32.toNatClampNeg ((4 * i) + 0))) : Int32).toInt64) ((q.1 32 (Int32.toNatClampNeg ((4 * i) + 1))) : Int32).toInt64) ((q.1 32 (Int32.toNatClampNeg ((4 * i) + 2))) : Int32).toInt64)), (4, .int 2), (0, .ref (ad 20 0)), (1, .int i)]) hx hb dX8_linkOf_42 rfl hl (by decide) rfl (fun ls hl => ?_)
    refine lv_iinc (v := 3) (lv' := [(4, .int 3), (2, .long (m_X8_linked (m_X8_linked (m_X8_linked (q.2 33 (Int32.toNatClampNeg (i - 1))) ((q.1 32 (Int32.toNatClampNeg ((4 * i) + 0))) : Int32).toInt64) ((q.1 32 (Int32.toNatClampNeg ((4 * i) + 1))) : Int32).toInt64) ((q.1 32 (Int32.toNatClampNeg ((4 * i) + 2))) : Int32).toInt64)), (0, .ref (ad 20 0)), (1, .int i)]) hx hb dX8_linkOf_43 hl (k := 1) rfl (by first | rfl | decide) (by decide) rfl (fun ls hl => ?_)
    refine lv_goto (tgt := 20) hx hb dX8_linkOf_46 (by decide) ?_
    refine lv_iload hx hb dX8_linkOf_20 (lv_at hl 0 rfl) ?_
    refine lv_iconst (v := 4) hx hb dX8_linkOf_22 (by decide) ?_
    refine lv_icmp_ge (tgt := 49) hx hb dX8_linkOf_23 (by decide) (fun h => absurd h (by decide)) (fun _ => ?_)
    refine lv_lload_n hx hb dX8_linkOf_26 rfl (lv_at hl 1 rfl) ?_
    refine lv_aload_n hx hb dX8_linkOf_27 rfl (lv_at hl 2 rfl) ?_
    refine mm_get (v := .ref (ad 21 32)) hx hb hts hin hown hK hW 32 (by decide) (List.mem_of_getElem? (i := 2) rfl) rfl rfl dX8_linkOf_28 ?_
    refine lv_iconst (v := 4) hx hb dX8_linkOf_31 (by decide) ?_
    refine lv_iload_n hx hb dX8_linkOf_32 rfl (lv_at hl 3 rfl) ?_
    refine lv_imul hx hb dX8_linkOf_33 ?_
    refine lv_iload hx hb dX8_linkOf_34 (lv_at hl 0 rfl) ?_
    refine lv_iadd hx hb dX8_linkOf_36 ?_
    have b_6 : vp_in ((4 * i) + 3) 1600 := by
      have k_1 : (4 : Int32).toInt = 4 := rfl
      have u_2 := rg_e i
      have k_4 : (3 : Int32).toInt = 3 := rfl
      have k_6 : (0 : Int32).toInt = 0 := rfl
      have v_7 := cv_ne c_1
      have w_8 := hi
      have w_9 := hrc
      have u_3 := mu_o 4 4 i rfl
      have u_5 := ad_o (4 * i) 3
      exact vp_in_iff.mpr (by omega)
    refine mm_iald (v := (q.1 32 (Int32.toNatClampNeg ((4 * i) + 3)))) hx hb hK hW 32 1600 rfl b_6 ((rfl)) dX8_linkOf_37 ?_
    refine lv_i2l (v := ((q.1 32 (Int32.toNatClampNeg ((4 * i) + 3))) : Int32).toInt64) hx hb dX8_linkOf_38 rfl ?_
    refine mm_callSl (n := 2) (As := [.long (m_X8_linked (m_X8_linked (m_X8_linked (q.2 33 (Int32.toNatClampNeg (i - 1))) ((q.1 32 (Int32.toNatClampNeg ((4 * i) + 0))) : Int32).toInt64) ((q.1 32 (Int32.toNatClampNeg ((4 * i) + 1))) : Int32).toInt64) ((q.1 32 (Int32.toNatClampNeg ((4 * i) + 2))) : Int32).toInt64), .long ((q.1 32 (Int32.toNatClampNeg ((4 * i) + 3))) : Int32).toInt64]) (rest := []) (r := (m_X8_linked (m_X8_linked (m_X8_linked (m_X8_linked (q.2 33 (Int32.toNatClampNeg (i - 1))) ((q.1 32 (Int32.toNatClampNeg ((4 * i) + 0))) : Int32).toInt64) ((q.1 32 (Int32.toNatClampNeg ((4 * i) + 1))) : Int32).toInt64) ((q.1 32 (Int32.toNatClampNeg ((4 * i) + 2))) : Int32).toInt64) ((q.1 32 (Int32.toNatClampNeg ((4 * i) + 3))) : Int32).toInt64)) (q2 := q) ⟨hx, hb, hml, hown, hts⟩ (c_X8_linked l D b0 Pc cA ad q (m_X8_linked (m_X8_linked (m_X8_linked (q.2 33 (Int32.toNatClampNeg (i - 1))) ((q.1 32 (Int32.toNatClampNeg ((4 * i) + 0))) : Int32).toInt64) ((q.1 32 (Int32.toNatClampNeg ((4 * i) + 1))) : Int32).toInt64) ((q.1 32 (Int32.toNatClampNeg ((4 * i) + 2))) : Int32).toInt64) ((q.1 32 (Int32.toNatClampNeg ((4 * i) + 3))) : Int32).toInt64) gX8_linkOf_X8_linked rfl (by decide +kernel) rfl ⟨Nat.le_of_ble_eq_true rfl, Nat.le_of_ble_eq_true rfl⟩ ⟨Nat.le_of_ble_eq_true rfl, Nat.le_of_ble_eq_true rfl⟩ hK hW hS hl.1 rfl (Nat.le_of_ble_eq_true rfl) dX8_linkOf_39 (fun H locs hW hS => ?_)
    refine lv_lstore_n (lv' := [(2, .long (m_X8_linked (m_X8_linked (m_X8_linked (m_X8_linked (q.2 33 (Int32.toNatClampNeg (i - 1))) ((q.1 32 (Int32.toNatClampNeg ((4 * i) + 0))) : Int32).toInt64) ((q.1 32 (Int32.toNatClampNeg ((4 * i) + 1))) : Int32).toInt64) ((q.1 32 (Int32.toNatClampNeg ((4 * i) + 2))) : Int32).toInt64) ((q.1 32 (Int32.toNatClampNeg ((4 * i) + 3))) : Int32).toInt64)), (4, .int 3), (0, .ref (ad 20 0)), (1, .int i)]) hx hb dX8_linkOf_42 rfl hl (by decide) rfl (fun ls hl => ?_)
    refine lv_iinc (v := 4) (lv' := [(4, .int 4), (2, .long (m_X8_linked (m_X8_linked (m_X8_linked (m_X8_linked (q.2 33 (Int32.toNatClampNeg (i - 1))) ((q.1 32 (Int32.toNatClampNeg ((4 * i) + 0))) : Int32).toInt64) ((q.1 32 (Int32.toNatClampNeg ((4 * i) + 1))) : Int32).toInt64) ((q.1 32 (Int32.toNatClampNeg ((4 * i) + 2))) : Int32).toInt64) ((q.1 32 (Int32.toNatClampNeg ((4 * i) + 3))) : Int32).toInt64)), (0, .ref (ad 20 0)), (1, .int i)]) hx hb dX8_linkOf_43 hl (k := 1) rfl (by first | rfl | decide) (by decide) rfl (fun ls hl => ?_)
    refine lv_goto (tgt := 20) hx hb dX8_linkOf_46 (by decide) ?_
    refine lv_iload hx hb dX8_linkOf_20 (lv_at hl 0 rfl) ?_
    refine lv_iconst (v := 4) hx hb dX8_linkOf_22 (by decide) ?_
    refine lv_icmp_ge (tgt := 49) hx hb dX8_linkOf_23 (by decide) (fun _ => ?_) (fun h => absurd h (by decide))
    refine lv_aload_n hx hb dX8_linkOf_49 rfl (lv_at hl 2 rfl) ?_
    refine mm_get (v := .ref (ad 21 32)) hx hb hts hin hown hK hW 32 (by decide) (List.mem_of_getElem? (i := 2) rfl) rfl rfl dX8_linkOf_50 ?_
    refine lv_iconst (v := 4) hx hb dX8_linkOf_53 (by decide) ?_
    refine lv_iload_n hx hb dX8_linkOf_54 rfl (lv_at hl 3 rfl) ?_
    refine lv_imul hx hb dX8_linkOf_55 ?_
    have b_7 : vp_in (4 * i) 1600 := by
      have k_1 : (4 : Int32).toInt = 4 := rfl
      have u_2 := rg_e i
      have k_4 : (0 : Int32).toInt = 0 := rfl
      have v_5 := cv_ne c_1
      have w_6 := hi
      have w_7 := hrc
      have u_3 := mu_o 4 4 i rfl
      exact vp_in_iff.mpr (by omega)
    refine mm_iald (v := (q.1 32 (Int32.toNatClampNeg (4 * i)))) hx hb hK hW 32 1600 rfl b_7 ((rfl)) dX8_linkOf_56 ?_
    refine lv_istore (lv' := [(4, .int (q.1 32 (Int32.toNatClampNeg (4 * i)))), (2, .long (m_X8_linked (m_X8_linked (m_X8_linked (m_X8_linked (q.2 33 (Int32.toNatClampNeg (i - 1))) ((q.1 32 (Int32.toNatClampNeg ((4 * i) + 0))) : Int32).toInt64) ((q.1 32 (Int32.toNatClampNeg ((4 * i) + 1))) : Int32).toInt64) ((q.1 32 (Int32.toNatClampNeg ((4 * i) + 2))) : Int32).toInt64) ((q.1 32 (Int32.toNatClampNeg ((4 * i) + 3))) : Int32).toInt64)), (0, .ref (ad 20 0)), (1, .int i)]) hx hb dX8_linkOf_57 hl (by decide) rfl (fun ls hl => ?_)
    refine lv_aload_n hx hb dX8_linkOf_59 rfl (lv_at hl 2 rfl) ?_
    refine mm_get (v := .ref (ad 21 32)) hx hb hts hin hown hK hW 32 (by decide) (List.mem_of_getElem? (i := 2) rfl) rfl rfl dX8_linkOf_60 ?_
    refine lv_iconst (v := 4) hx hb dX8_linkOf_63 (by decide) ?_
    refine lv_iload_n hx hb dX8_linkOf_64 rfl (lv_at hl 3 rfl) ?_
    refine lv_imul hx hb dX8_linkOf_65 ?_
    refine lv_iconst (v := 1) hx hb dX8_linkOf_66 (by decide) ?_
    refine lv_iadd hx hb dX8_linkOf_67 ?_
    have b_8 : vp_in ((4 * i) + 1) 1600 := by
      have k_1 : (4 : Int32).toInt = 4 := rfl
      have u_2 := rg_e i
      have k_4 : (1 : Int32).toInt = 1 := rfl
      have k_6 : (0 : Int32).toInt = 0 := rfl
      have v_7 := cv_ne c_1
      have w_8 := hi
      have w_9 := hrc
      have u_3 := mu_o 4 4 i rfl
      have u_5 := ad_o (4 * i) 1
      exact vp_in_iff.mpr (by omega)
    refine mm_iald (v := (q.1 32 (Int32.toNatClampNeg ((4 * i) + 1)))) hx hb hK hW 32 1600 rfl b_8 ((rfl)) dX8_linkOf_68 ?_
    refine lv_istore (lv' := [(5, .int (q.1 32 (Int32.toNatClampNeg ((4 * i) + 1)))), (4, .int (q.1 32 (Int32.toNatClampNeg (4 * i)))), (2, .long (m_X8_linked (m_X8_linked (m_X8_linked (m_X8_linked (q.2 33 (Int32.toNatClampNeg (i - 1))) ((q.1 32 (Int32.toNatClampNeg ((4 * i) + 0))) : Int32).toInt64) ((q.1 32 (Int32.toNatClampNeg ((4 * i) + 1))) : Int32).toInt64) ((q.1 32 (Int32.toNatClampNeg ((4 * i) + 2))) : Int32).toInt64) ((q.1 32 (Int32.toNatClampNeg ((4 * i) + 3))) : Int32).toInt64)), (0, .ref (ad 20 0)), (1, .int i)]) hx hb dX8_linkOf_69 hl (by decide) rfl (fun ls hl => ?_)
    refine lv_iload hx hb dX8_linkOf_71 (lv_at hl 1 rfl) ?_
    refine lv_iconst (v := 5) hx hb dX8_linkOf_73 (by decide) ?_
    refine lv_icmp_eq (tgt := 84) hx hb dX8_linkOf_74 (by decide) (fun c_9 => ?_) (fun c_9 => ?_)
    · refine lv_lload_n hx hb dX8_linkOf_84 rfl (lv_at hl 2 rfl) ?_
      refine lv_iload hx hb dX8_linkOf_85 (lv_at hl 0 rfl) ?_
      refine lv_iconst (v := 0) hx hb dX8_linkOf_87 (by decide) ?_
      refine lv_aload_n hx hb dX8_linkOf_88 rfl (lv_at hl 3 rfl) ?_
      refine mm_gets (v := (q.1 12 0)) hx hb hts hin hown hK hW 12 (by decide) (List.mem_of_getElem? (i := 3) rfl) rfl rfl (rfl) dX8_linkOf_89 ?_
      refine lv_iconst (v := 1) hx hb dX8_linkOf_92 (by decide) ?_
      refine lv_isub hx hb dX8_linkOf_93 ?_
      refine mm_callSi (n := 3) (As := [.int (q.1 32 (Int32.toNatClampNeg ((4 * i) + 1))), .int 0, .int ((q.1 12 0) - 1)]) (rest := [.long (m_X8_linked (m_X8_linked (m_X8_linked (m_X8_linked (q.2 33 (Int32.toNatClampNeg (i - 1))) ((q.1 32 (Int32.toNatClampNeg ((4 * i) + 0))) : Int32).toInt64) ((q.1 32 (Int32.toNatClampNeg ((4 * i) + 1))) : Int32).toInt64) ((q.1 32 (Int32.toNatClampNeg ((4 * i) + 2))) : Int32).toInt64) ((q.1 32 (Int32.toNatClampNeg ((4 * i) + 3))) : Int32).toInt64)]) (r := (m_X8_isIn (q.1 32 (Int32.toNatClampNeg ((4 * i) + 1))) 0 ((q.1 12 0) - 1))) (q2 := q) ⟨hx, hb, hml, hown, hts⟩ (c_X8_isIn l D b0 Pc cA ad q (q.1 32 (Int32.toNatClampNeg ((4 * i) + 1))) 0 ((q.1 12 0) - 1)) gX8_linkOf_X8_isIn rfl (by decide +kernel) rfl ⟨Nat.le_of_ble_eq_true rfl, Nat.le_of_ble_eq_true rfl⟩ ⟨Nat.le_of_ble_eq_true rfl, Nat.le_of_ble_eq_true rfl⟩ hK hW hS hl.1 rfl (Nat.le_of_ble_eq_true rfl) dX8_linkOf_94 (fun H locs hW hS => ?_)
      refine lv_if_eq (tgt := 110) hx hb dX8_linkOf_97 (by decide) (fun c_10 => ?_) (fun c_10 => ?_)
      · refine lv_lconst (v := 0) hx hb dX8_linkOf_110 (by decide) ?_
        refine mm_callSl (n := 2) (As := [.long (m_X8_linked (m_X8_linked (m_X8_linked (m_X8_linked (q.2 33 (Int32.toNatClampNeg (i - 1))) ((q.1 32 (Int32.toNatClampNeg ((4 * i) + 0))) : Int32).toInt64) ((q.1 32 (Int32.toNatClampNeg ((4 * i) + 1))) : Int32).toInt64) ((q.1 32 (Int32.toNatClampNeg ((4 * i) + 2))) : Int32).toInt64) ((q.1 32 (Int32.toNatClampNeg ((4 * i) + 3))) : Int32).toInt64), .long 0]) (rest := []) (r := (m_X8_linked (m_X8_linked (m_X8_linked (m_X8_linked (m_X8_linked (q.2 33 (Int32.toNatClampNeg (i - 1))) ((q.1 32 (Int32.toNatClampNeg ((4 * i) + 0))) : Int32).toInt64) ((q.1 32 (Int32.toNatClampNeg ((4 * i) + 1))) : Int32).toInt64) ((q.1 32 (Int32.toNatClampNeg ((4 * i) + 2))) : Int32).toInt64) ((q.1 32 (Int32.toNatClampNeg ((4 * i) + 3))) : Int32).toInt64) 0)) (q2 := q) ⟨hx, hb, hml, hown, hts⟩ (c_X8_linked l D b0 Pc cA ad q (m_X8_linked (m_X8_linked (m_X8_linked (m_X8_linked (q.2 33 (Int32.toNatClampNeg (i - 1))) ((q.1 32 (Int32.toNatClampNeg ((4 * i) + 0))) : Int32).toInt64) ((q.1 32 (Int32.toNatClampNeg ((4 * i) + 1))) : Int32).toInt64) ((q.1 32 (Int32.toNatClampNeg ((4 * i) + 2))) : Int32).toInt64) ((q.1 32 (Int32.toNatClampNeg ((4 * i) + 3))) : Int32).toInt64) 0) gX8_linkOf_X8_linked rfl (by decide +kernel) rfl ⟨Nat.le_of_ble_eq_true rfl, Nat.le_of_ble_eq_true rfl⟩ ⟨Nat.le_of_ble_eq_true rfl, Nat.le_of_ble_eq_true rfl⟩ hK hW hS hl.1 rfl (Nat.le_of_ble_eq_true rfl) dX8_linkOf_111 (fun H locs hW hS => ?_)
        refine lv_goto (tgt := 118) hx hb dX8_linkOf_114 (by decide) ?_
        exact mm_lret hx hb hr hlk hK hW hS (by rw [m_X8_linkOf, if_neg c_1, if_pos c_9, if_pos c_10]) dX8_linkOf_118
      · refine lv_aload_n hx hb dX8_linkOf_100 rfl (lv_at hl 3 rfl) ?_
        refine mm_get (v := .ref (ad 21 16)) hx hb hts hin hown hK hW 16 (by decide) (List.mem_of_getElem? (i := 4) rfl) rfl rfl dX8_linkOf_101 ?_
        refine lv_iload hx hb dX8_linkOf_104 (lv_at hl 0 rfl) ?_
        have b_11 : vp_in (q.1 32 (Int32.toNatClampNeg ((4 * i) + 1))) 64 := by
          have k_1 : (4 : Int32).toInt = 4 := rfl
          have u_2 := rg_e i
          have k_4 : (1 : Int32).toInt = 1 := rfl
          have u_6 := rg_e (q.1 32 (Int32.toNatClampNeg ((4 * i) + 1)))
          have k_7 : (0 : Int32).toInt = 0 := rfl
          have v_8 := cv_ne c_1
          have u_9 := rg_e (q.1 32 (Int32.toNatClampNeg (4 * i)))
          have k_10 : (5 : Int32).toInt = 5 := rfl
          have v_11 := cv_eq c_9
          have u_12 := rg_e (m_X8_isIn (q.1 32 (Int32.toNatClampNeg ((4 * i) + 1))) 0 ((q.1 12 0) - 1))
          have v_13 := cv_ne c_10
          have u_14 := rg_e (q.1 12 0)
          have v_16 := is_t c_10
          have w_17 := hi
          have w_18 := hrc
          have u_3 := mu_o 4 4 i rfl
          have u_5 := ad_o (4 * i) 1
          have u_15 := su_o (q.1 12 0) 1
          exact vp_in_iff.mpr (by omega)
        refine mm_lald (v := (q.2 16 (Int32.toNatClampNeg (q.1 32 (Int32.toNatClampNeg ((4 * i) + 1)))))) hx hb hK hW 16 64 rfl b_11 ((rfl)) dX8_linkOf_106 ?_
        refine lv_goto (tgt := 111) hx hb dX8_linkOf_107 (by decide) ?_
        refine mm_callSl (n := 2) (As := [.long (m_X8_linked (m_X8_linked (m_X8_linked (m_X8_linked (q.2 33 (Int32.toNatClampNeg (i - 1))) ((q.1 32 (Int32.toNatClampNeg ((4 * i) + 0))) : Int32).toInt64) ((q.1 32 (Int32.toNatClampNeg ((4 * i) + 1))) : Int32).toInt64) ((q.1 32 (Int32.toNatClampNeg ((4 * i) + 2))) : Int32).toInt64) ((q.1 32 (Int32.toNatClampNeg ((4 * i) + 3))) : Int32).toInt64), .long (q.2 16 (Int32.toNatClampNeg (q.1 32 (Int32.toNatClampNeg ((4 * i) + 1)))))]) (rest := []) (r := (m_X8_linked (m_X8_linked (m_X8_linked (m_X8_linked (m_X8_linked (q.2 33 (Int32.toNatClampNeg (i - 1))) ((q.1 32 (Int32.toNatClampNeg ((4 * i) + 0))) : Int32).toInt64) ((q.1 32 (Int32.toNatClampNeg ((4 * i) + 1))) : Int32).toInt64) ((q.1 32 (Int32.toNatClampNeg ((4 * i) + 2))) : Int32).toInt64) ((q.1 32 (Int32.toNatClampNeg ((4 * i) + 3))) : Int32).toInt64) (q.2 16 (Int32.toNatClampNeg (q.1 32 (Int32.toNatClampNeg ((4 * i) + 1))))))) (q2 := q) ⟨hx, hb, hml, hown, hts⟩ (c_X8_linked l D b0 Pc cA ad q (m_X8_linked (m_X8_linked (m_X8_linked (m_X8_linked (q.2 33 (Int32.toNatClampNeg (i - 1))) ((q.1 32 (Int32.toNatClampNeg ((4 * i) + 0))) : Int32).toInt64) ((q.1 32 (Int32.toNatClampNeg ((4 * i) + 1))) : Int32).toInt64) ((q.1 32 (Int32.toNatClampNeg ((4 * i) + 2))) : Int32).toInt64) ((q.1 32 (Int32.toNatClampNeg ((4 * i) + 3))) : Int32).toInt64) (q.2 16 (Int32.toNatClampNeg (q.1 32 (Int32.toNatClampNeg ((4 * i) + 1)))))) gX8_linkOf_X8_linked rfl (by decide +kernel) rfl ⟨Nat.le_of_ble_eq_true rfl, Nat.le_of_ble_eq_true rfl⟩ ⟨Nat.le_of_ble_eq_true rfl, Nat.le_of_ble_eq_true rfl⟩ hK hW hS hl.1 rfl (Nat.le_of_ble_eq_true rfl) dX8_linkOf_111 (fun H locs hW hS => ?_)
        refine lv_goto (tgt := 118) hx hb dX8_linkOf_114 (by decide) ?_
        exact mm_lret hx hb hr hlk hK hW hS (by rw [m_X8_linkOf, if_neg c_1, if_pos c_9, if_neg c_10]) dX8_linkOf_118
    · refine lv_iload hx hb dX8_linkOf_77 (lv_at hl 1 rfl) ?_
      refine lv_bipush (v := 11) hx hb dX8_linkOf_79 (by decide) ?_
      refine lv_icmp_ne (tgt := 117) hx hb dX8_linkOf_81 (by decide) (fun c_12 => ?_) (fun c_12 => ?_)
      · refine lv_lload_n hx hb dX8_linkOf_117 rfl (lv_at hl 2 rfl) ?_
        exact mm_lret hx hb hr hlk hK hW hS (by rw [m_X8_linkOf, if_neg c_1, if_neg c_9, if_neg c_12]) dX8_linkOf_118
      · refine lv_lload_n hx hb dX8_linkOf_84 rfl (lv_at hl 2 rfl) ?_
        refine lv_iload hx hb dX8_linkOf_85 (lv_at hl 0 rfl) ?_
        refine lv_iconst (v := 0) hx hb dX8_linkOf_87 (by decide) ?_
        refine lv_aload_n hx hb dX8_linkOf_88 rfl (lv_at hl 3 rfl) ?_
        refine mm_gets (v := (q.1 12 0)) hx hb hts hin hown hK hW 12 (by decide) (List.mem_of_getElem? (i := 3) rfl) rfl rfl (rfl) dX8_linkOf_89 ?_
        refine lv_iconst (v := 1) hx hb dX8_linkOf_92 (by decide) ?_
        refine lv_isub hx hb dX8_linkOf_93 ?_
        refine mm_callSi (n := 3) (As := [.int (q.1 32 (Int32.toNatClampNeg ((4 * i) + 1))), .int 0, .int ((q.1 12 0) - 1)]) (rest := [.long (m_X8_linked (m_X8_linked (m_X8_linked (m_X8_linked (q.2 33 (Int32.toNatClampNeg (i - 1))) ((q.1 32 (Int32.toNatClampNeg ((4 * i) + 0))) : Int32).toInt64) ((q.1 32 (Int32.toNatClampNeg ((4 * i) + 1))) : Int32).toInt64) ((q.1 32 (Int32.toNatClampNeg ((4 * i) + 2))) : Int32).toInt64) ((q.1 32 (Int32.toNatClampNeg ((4 * i) + 3))) : Int32).toInt64)]) (r := (m_X8_isIn (q.1 32 (Int32.toNatClampNeg ((4 * i) + 1))) 0 ((q.1 12 0) - 1))) (q2 := q) ⟨hx, hb, hml, hown, hts⟩ (c_X8_isIn l D b0 Pc cA ad q (q.1 32 (Int32.toNatClampNeg ((4 * i) + 1))) 0 ((q.1 12 0) - 1)) gX8_linkOf_X8_isIn rfl (by decide +kernel) rfl ⟨Nat.le_of_ble_eq_true rfl, Nat.le_of_ble_eq_true rfl⟩ ⟨Nat.le_of_ble_eq_true rfl, Nat.le_of_ble_eq_true rfl⟩ hK hW hS hl.1 rfl (Nat.le_of_ble_eq_true rfl) dX8_linkOf_94 (fun H locs hW hS => ?_)
        refine lv_if_eq (tgt := 110) hx hb dX8_linkOf_97 (by decide) (fun c_13 => ?_) (fun c_13 => ?_)
        · refine lv_lconst (v := 0) hx hb dX8_linkOf_110 (by decide) ?_
          refine mm_callSl (n := 2) (As := [.long (m_X8_linked (m_X8_linked (m_X8_linked (m_X8_linked (q.2 33 (Int32.toNatClampNeg (i - 1))) ((q.1 32 (Int32.toNatClampNeg ((4 * i) + 0))) : Int32).toInt64) ((q.1 32 (Int32.toNatClampNeg ((4 * i) + 1))) : Int32).toInt64) ((q.1 32 (Int32.toNatClampNeg ((4 * i) + 2))) : Int32).toInt64) ((q.1 32 (Int32.toNatClampNeg ((4 * i) + 3))) : Int32).toInt64), .long 0]) (rest := []) (r := (m_X8_linked (m_X8_linked (m_X8_linked (m_X8_linked (m_X8_linked (q.2 33 (Int32.toNatClampNeg (i - 1))) ((q.1 32 (Int32.toNatClampNeg ((4 * i) + 0))) : Int32).toInt64) ((q.1 32 (Int32.toNatClampNeg ((4 * i) + 1))) : Int32).toInt64) ((q.1 32 (Int32.toNatClampNeg ((4 * i) + 2))) : Int32).toInt64) ((q.1 32 (Int32.toNatClampNeg ((4 * i) + 3))) : Int32).toInt64) 0)) (q2 := q) ⟨hx, hb, hml, hown, hts⟩ (c_X8_linked l D b0 Pc cA ad q (m_X8_linked (m_X8_linked (m_X8_linked (m_X8_linked (q.2 33 (Int32.toNatClampNeg (i - 1))) ((q.1 32 (Int32.toNatClampNeg ((4 * i) + 0))) : Int32).toInt64) ((q.1 32 (Int32.toNatClampNeg ((4 * i) + 1))) : Int32).toInt64) ((q.1 32 (Int32.toNatClampNeg ((4 * i) + 2))) : Int32).toInt64) ((q.1 32 (Int32.toNatClampNeg ((4 * i) + 3))) : Int32).toInt64) 0) gX8_linkOf_X8_linked rfl (by decide +kernel) rfl ⟨Nat.le_of_ble_eq_true rfl, Nat.le_of_ble_eq_true rfl⟩ ⟨Nat.le_of_ble_eq_true rfl, Nat.le_of_ble_eq_true rfl⟩ hK hW hS hl.1 rfl (Nat.le_of_ble_eq_true rfl) dX8_linkOf_111 (fun H locs hW hS => ?_)
          refine lv_goto (tgt := 118) hx hb dX8_linkOf_114 (by decide) ?_
          exact mm_lret hx hb hr hlk hK hW hS (by rw [m_X8_linkOf, if_neg c_1, if_neg c_9, if_pos c_12, if_pos c_13]) dX8_linkOf_118
        · refine lv_aload_n hx hb dX8_linkOf_100 rfl (lv_at hl 3 rfl) ?_
          refine mm_get (v := .ref (ad 21 16)) hx hb hts hin hown hK hW 16 (by decide) (List.mem_of_getElem? (i := 4) rfl) rfl rfl dX8_linkOf_101 ?_
          refine lv_iload hx hb dX8_linkOf_104 (lv_at hl 0 rfl) ?_
          have b_14 : vp_in (q.1 32 (Int32.toNatClampNeg ((4 * i) + 1))) 64 := by
            have k_1 : (4 : Int32).toInt = 4 := rfl
            have u_2 := rg_e i
            have k_4 : (1 : Int32).toInt = 1 := rfl
            have u_6 := rg_e (q.1 32 (Int32.toNatClampNeg ((4 * i) + 1)))
            have k_7 : (0 : Int32).toInt = 0 := rfl
            have v_8 := cv_ne c_1
            have u_9 := rg_e (q.1 32 (Int32.toNatClampNeg (4 * i)))
            have k_10 : (5 : Int32).toInt = 5 := rfl
            have v_11 := cv_ne c_9
            have k_12 : (11 : Int32).toInt = 11 := rfl
            have v_13 := cv_eq c_12
            have u_14 := rg_e (m_X8_isIn (q.1 32 (Int32.toNatClampNeg ((4 * i) + 1))) 0 ((q.1 12 0) - 1))
            have v_15 := cv_ne c_13
            have u_16 := rg_e (q.1 12 0)
            have v_18 := is_t c_13
            have w_19 := hi
            have w_20 := hrc
            have u_3 := mu_o 4 4 i rfl
            have u_5 := ad_o (4 * i) 1
            have u_17 := su_o (q.1 12 0) 1
            exact vp_in_iff.mpr (by omega)
          refine mm_lald (v := (q.2 16 (Int32.toNatClampNeg (q.1 32 (Int32.toNatClampNeg ((4 * i) + 1)))))) hx hb hK hW 16 64 rfl b_14 ((rfl)) dX8_linkOf_106 ?_
          refine lv_goto (tgt := 111) hx hb dX8_linkOf_107 (by decide) ?_
          refine mm_callSl (n := 2) (As := [.long (m_X8_linked (m_X8_linked (m_X8_linked (m_X8_linked (q.2 33 (Int32.toNatClampNeg (i - 1))) ((q.1 32 (Int32.toNatClampNeg ((4 * i) + 0))) : Int32).toInt64) ((q.1 32 (Int32.toNatClampNeg ((4 * i) + 1))) : Int32).toInt64) ((q.1 32 (Int32.toNatClampNeg ((4 * i) + 2))) : Int32).toInt64) ((q.1 32 (Int32.toNatClampNeg ((4 * i) + 3))) : Int32).toInt64), .long (q.2 16 (Int32.toNatClampNeg (q.1 32 (Int32.toNatClampNeg ((4 * i) + 1)))))]) (rest := []) (r := (m_X8_linked (m_X8_linked (m_X8_linked (m_X8_linked (m_X8_linked (q.2 33 (Int32.toNatClampNeg (i - 1))) ((q.1 32 (Int32.toNatClampNeg ((4 * i) + 0))) : Int32).toInt64) ((q.1 32 (Int32.toNatClampNeg ((4 * i) + 1))) : Int32).toInt64) ((q.1 32 (Int32.toNatClampNeg ((4 * i) + 2))) : Int32).toInt64) ((q.1 32 (Int32.toNatClampNeg ((4 * i) + 3))) : Int32).toInt64) (q.2 16 (Int32.toNatClampNeg (q.1 32 (Int32.toNatClampNeg ((4 * i) + 1))))))) (q2 := q) ⟨hx, hb, hml, hown, hts⟩ (c_X8_linked l D b0 Pc cA ad q (m_X8_linked (m_X8_linked (m_X8_linked (m_X8_linked (q.2 33 (Int32.toNatClampNeg (i - 1))) ((q.1 32 (Int32.toNatClampNeg ((4 * i) + 0))) : Int32).toInt64) ((q.1 32 (Int32.toNatClampNeg ((4 * i) + 1))) : Int32).toInt64) ((q.1 32 (Int32.toNatClampNeg ((4 * i) + 2))) : Int32).toInt64) ((q.1 32 (Int32.toNatClampNeg ((4 * i) + 3))) : Int32).toInt64) (q.2 16 (Int32.toNatClampNeg (q.1 32 (Int32.toNatClampNeg ((4 * i) + 1)))))) gX8_linkOf_X8_linked rfl (by decide +kernel) rfl ⟨Nat.le_of_ble_eq_true rfl, Nat.le_of_ble_eq_true rfl⟩ ⟨Nat.le_of_ble_eq_true rfl, Nat.le_of_ble_eq_true rfl⟩ hK hW hS hl.1 rfl (Nat.le_of_ble_eq_true rfl) dX8_linkOf_111 (fun H locs hW hS => ?_)
          refine lv_goto (tgt := 118) hx hb dX8_linkOf_114 (by decide) ?_
          exact mm_lret hx hb hr hlk hK hW hS (by rw [m_X8_linkOf, if_neg c_1, if_neg c_9, if_pos c_12, if_neg c_13]) dX8_linkOf_118
  · refine lv_lconst (v := 0) hx hb dX8_linkOf_4 (by decide) ?_
    refine lv_goto (tgt := 16) hx hb dX8_linkOf_5 (by decide) ?_
    refine lv_lstore_n (lv' := [(2, .long 0), (0, .ref (ad 20 0)), (1, .int i)]) hx hb dX8_linkOf_16 rfl hl (by decide) rfl (fun ls hl => ?_)
    refine lv_iconst (v := 0) hx hb dX8_linkOf_17 (by decide) ?_
    refine lv_istore (lv' := [(4, .int 0), (2, .long 0), (0, .ref (ad 20 0)), (1, .int i)]) hx hb dX8_linkOf_18 hl (by decide) rfl (fun ls hl => ?_)
    refine lv_iload hx hb dX8_linkOf_20 (lv_at hl 0 rfl) ?_
    refine lv_iconst (v := 4) hx hb dX8_linkOf_22 (by decide) ?_
    refine lv_icmp_ge (tgt := 49) hx hb dX8_linkOf_23 (by decide) (fun h => absurd h (by decide)) (fun _ => ?_)
    refine lv_lload_n hx hb dX8_linkOf_26 rfl (lv_at hl 1 rfl) ?_
    refine lv_aload_n hx hb dX8_linkOf_27 rfl (lv_at hl 2 rfl) ?_
    refine mm_get (v := .ref (ad 21 32)) hx hb hts hin hown hK hW 32 (by decide) (List.mem_of_getElem? (i := 2) rfl) rfl rfl dX8_linkOf_28 ?_
    refine lv_iconst (v := 4) hx hb dX8_linkOf_31 (by decide) ?_
    refine lv_iload_n hx hb dX8_linkOf_32 rfl (lv_at hl 3 rfl) ?_
    refine lv_imul hx hb dX8_linkOf_33 ?_
    refine lv_iload hx hb dX8_linkOf_34 (lv_at hl 0 rfl) ?_
    refine lv_iadd hx hb dX8_linkOf_36 ?_
    have b_15 : vp_in ((4 * i) + 0) 1600 := by
      have k_1 : (4 : Int32).toInt = 4 := rfl
      have u_2 := rg_e i
      have k_4 : (0 : Int32).toInt = 0 := rfl
      have v_6 := cv_eq c_1
      have w_7 := hi
      have w_8 := hrc
      have u_3 := mu_o 4 4 i rfl
      have u_5 := ad_o (4 * i) 0
      exact vp_in_iff.mpr (by omega)
    refine mm_iald (v := (q.1 32 (Int32.toNatClampNeg ((4 * i) + 0)))) hx hb hK hW 32 1600 rfl b_15 ((rfl)) dX8_linkOf_37 ?_
    refine lv_i2l (v := ((q.1 32 (Int32.toNatClampNeg ((4 * i) + 0))) : Int32).toInt64) hx hb dX8_linkOf_38 rfl ?_
    refine mm_callSl (n := 2) (As := [.long 0, .long ((q.1 32 (Int32.toNatClampNeg ((4 * i) + 0))) : Int32).toInt64]) (rest := []) (r := (m_X8_linked 0 ((q.1 32 (Int32.toNatClampNeg ((4 * i) + 0))) : Int32).toInt64)) (q2 := q) ⟨hx, hb, hml, hown, hts⟩ (c_X8_linked l D b0 Pc cA ad q 0 ((q.1 32 (Int32.toNatClampNeg ((4 * i) + 0))) : Int32).toInt64) gX8_linkOf_X8_linked rfl (by decide +kernel) rfl ⟨Nat.le_of_ble_eq_true rfl, Nat.le_of_ble_eq_true rfl⟩ ⟨Nat.le_of_ble_eq_true rfl, Nat.le_of_ble_eq_true rfl⟩ hK hW hS hl.1 rfl (Nat.le_of_ble_eq_true rfl) dX8_linkOf_39 (fun H locs hW hS => ?_)
    refine lv_lstore_n (lv' := [(2, .long (m_X8_linked 0 ((q.1 32 (Int32.toNatClampNeg ((4 * i) + 0))) : Int32).toInt64)), (4, .int 0), (0, .ref (ad 20 0)), (1, .int i)]) hx hb dX8_linkOf_42 rfl hl (by decide) rfl (fun ls hl => ?_)
    refine lv_iinc (v := 1) (lv' := [(4, .int 1), (2, .long (m_X8_linked 0 ((q.1 32 (Int32.toNatClampNeg ((4 * i) + 0))) : Int32).toInt64)), (0, .ref (ad 20 0)), (1, .int i)]) hx hb dX8_linkOf_43 hl (k := 1) rfl (by first | rfl | decide) (by decide) rfl (fun ls hl => ?_)
    refine lv_goto (tgt := 20) hx hb dX8_linkOf_46 (by decide) ?_
    refine lv_iload hx hb dX8_linkOf_20 (lv_at hl 0 rfl) ?_
    refine lv_iconst (v := 4) hx hb dX8_linkOf_22 (by decide) ?_
    refine lv_icmp_ge (tgt := 49) hx hb dX8_linkOf_23 (by decide) (fun h => absurd h (by decide)) (fun _ => ?_)
    refine lv_lload_n hx hb dX8_linkOf_26 rfl (lv_at hl 1 rfl) ?_
    refine lv_aload_n hx hb dX8_linkOf_27 rfl (lv_at hl 2 rfl) ?_
    refine mm_get (v := .ref (ad 21 32)) hx hb hts hin hown hK hW 32 (by decide) (List.mem_of_getElem? (i := 2) rfl) rfl rfl dX8_linkOf_28 ?_
    refine lv_iconst (v := 4) hx hb dX8_linkOf_31 (by decide) ?_
    refine lv_iload_n hx hb dX8_linkOf_32 rfl (lv_at hl 3 rfl) ?_
    refine lv_imul hx hb dX8_linkOf_33 ?_
    refine lv_iload hx hb dX8_linkOf_34 (lv_at hl 0 rfl) ?_
    refine lv_iadd hx hb dX8_linkOf_36 ?_
    have b_16 : vp_in ((4 * i) + 1) 1600 := by
      have k_1 : (4 : Int32).toInt = 4 := rfl
      have u_2 := rg_e i
      have k_4 : (1 : Int32).toInt = 1 := rfl
      have k_6 : (0 : Int32).toInt = 0 := rfl
      have v_7 := cv_eq c_1
      have w_8 := hi
      have w_9 := hrc
      have u_3 := mu_o 4 4 i rfl
      have u_5 := ad_o (4 * i) 1
      exact vp_in_iff.mpr (by omega)
    refine mm_iald (v := (q.1 32 (Int32.toNatClampNeg ((4 * i) + 1)))) hx hb hK hW 32 1600 rfl b_16 ((rfl)) dX8_linkOf_37 ?_
    refine lv_i2l (v := ((q.1 32 (Int32.toNatClampNeg ((4 * i) + 1))) : Int32).toInt64) hx hb dX8_linkOf_38 rfl ?_
    refine mm_callSl (n := 2) (As := [.long (m_X8_linked 0 ((q.1 32 (Int32.toNatClampNeg ((4 * i) + 0))) : Int32).toInt64), .long ((q.1 32 (Int32.toNatClampNeg ((4 * i) + 1))) : Int32).toInt64]) (rest := []) (r := (m_X8_linked (m_X8_linked 0 ((q.1 32 (Int32.toNatClampNeg ((4 * i) + 0))) : Int32).toInt64) ((q.1 32 (Int32.toNatClampNeg ((4 * i) + 1))) : Int32).toInt64)) (q2 := q) ⟨hx, hb, hml, hown, hts⟩ (c_X8_linked l D b0 Pc cA ad q (m_X8_linked 0 ((q.1 32 (Int32.toNatClampNeg ((4 * i) + 0))) : Int32).toInt64) ((q.1 32 (Int32.toNatClampNeg ((4 * i) + 1))) : Int32).toInt64) gX8_linkOf_X8_linked rfl (by decide +kernel) rfl ⟨Nat.le_of_ble_eq_true rfl, Nat.le_of_ble_eq_true rfl⟩ ⟨Nat.le_of_ble_eq_true rfl, Nat.le_of_ble_eq_true rfl⟩ hK hW hS hl.1 rfl (Nat.le_of_ble_eq_true rfl) dX8_linkOf_39 (fun H locs hW hS => ?_)
    refine lv_lstore_n (lv' := [(2, .long (m_X8_linked (m_X8_linked 0 ((q.1 32 (Int32.toNatClampNeg ((4 * i) + 0))) : Int32).toInt64) ((q.1 32 (Int32.toNatClampNeg ((4 * i) + 1))) : Int32).toInt64)), (4, .int 1), (0, .ref (ad 20 0)), (1, .int i)]) hx hb dX8_linkOf_42 rfl hl (by decide) rfl (fun ls hl => ?_)
    refine lv_iinc (v := 2) (lv' := [(4, .int 2), (2, .long (m_X8_linked (m_X8_linked 0 ((q.1 32 (Int32.toNatClampNeg ((4 * i) + 0))) : Int32).toInt64) ((q.1 32 (Int32.toNatClampNeg ((4 * i) + 1))) : Int32).toInt64)), (0, .ref (ad 20 0)), (1, .int i)]) hx hb dX8_linkOf_43 hl (k := 1) rfl (by first | rfl | decide) (by decide) rfl (fun ls hl => ?_)
    refine lv_goto (tgt := 20) hx hb dX8_linkOf_46 (by decide) ?_
    refine lv_iload hx hb dX8_linkOf_20 (lv_at hl 0 rfl) ?_
    refine lv_iconst (v := 4) hx hb dX8_linkOf_22 (by decide) ?_
    refine lv_icmp_ge (tgt := 49) hx hb dX8_linkOf_23 (by decide) (fun h => absurd h (by decide)) (fun _ => ?_)
    refine lv_lload_n hx hb dX8_linkOf_26 rfl (lv_at hl 1 rfl) ?_
    refine lv_aload_n hx hb dX8_linkOf_27 rfl (lv_at hl 2 rfl) ?_
    refine mm_get (v := .ref (ad 21 32)) hx hb hts hin hown hK hW 32 (by decide) (List.mem_of_getElem? (i := 2) rfl) rfl rfl dX8_linkOf_28 ?_
    refine lv_iconst (v := 4) hx hb dX8_linkOf_31 (by decide) ?_
    refine lv_iload_n hx hb dX8_linkOf_32 rfl (lv_at hl 3 rfl) ?_
    refine lv_imul hx hb dX8_linkOf_33 ?_
    refine lv_iload hx hb dX8_linkOf_34 (lv_at hl 0 rfl) ?_
    refine lv_iadd hx hb dX8_linkOf_36 ?_
    have b_17 : vp_in ((4 * i) + 2) 1600 := by
      have k_1 : (4 : Int32).toInt = 4 := rfl
      have u_2 := rg_e i
      have k_4 : (2 : Int32).toInt = 2 := rfl
      have k_6 : (0 : Int32).toInt = 0 := rfl
      have v_7 := cv_eq c_1
      have w_8 := hi
      have w_9 := hrc
      have u_3 := mu_o 4 4 i rfl
      have u_5 := ad_o (4 * i) 2
      exact vp_in_iff.mpr (by omega)
    refine mm_iald (v := (q.1 32 (Int32.toNatClampNeg ((4 * i) + 2)))) hx hb hK hW 32 1600 rfl b_17 ((rfl)) dX8_linkOf_37 ?_
    refine lv_i2l (v := ((q.1 32 (Int32.toNatClampNeg ((4 * i) + 2))) : Int32).toInt64) hx hb dX8_linkOf_38 rfl ?_
    refine mm_callSl (n := 2) (As := [.long (m_X8_linked (m_X8_linked 0 ((q.1 32 (Int32.toNatClampNeg ((4 * i) + 0))) : Int32).toInt64) ((q.1 32 (Int32.toNatClampNeg ((4 * i) + 1))) : Int32).toInt64), .long ((q.1 32 (Int32.toNatClampNeg ((4 * i) + 2))) : Int32).toInt64]) (rest := []) (r := (m_X8_linked (m_X8_linked (m_X8_linked 0 ((q.1 32 (Int32.toNatClampNeg ((4 * i) + 0))) : Int32).toInt64) ((q.1 32 (Int32.toNatClampNeg ((4 * i) + 1))) : Int32).toInt64) ((q.1 32 (Int32.toNatClampNeg ((4 * i) + 2))) : Int32).toInt64)) (q2 := q) ⟨hx, hb, hml, hown, hts⟩ (c_X8_linked l D b0 Pc cA ad q (m_X8_linked (m_X8_linked 0 ((q.1 32 (Int32.toNatClampNeg ((4 * i) + 0))) : Int32).toInt64) ((q.1 32 (Int32.toNatClampNeg ((4 * i) + 1))) : Int32).toInt64) ((q.1 32 (Int32.toNatClampNeg ((4 * i) + 2))) : Int32).toInt64) gX8_linkOf_X8_linked rfl (by decide +kernel) rfl ⟨Nat.le_of_ble_eq_true rfl, Nat.le_of_ble_eq_true rfl⟩ ⟨Nat.le_of_ble_eq_true rfl, Nat.le_of_ble_eq_true rfl⟩ hK hW hS hl.1 rfl (Nat.le_of_ble_eq_true rfl) dX8_linkOf_39 (fun H locs hW hS => ?_)
    refine lv_lstore_n (lv' := [(2, .long (m_X8_linked (m_X8_linked (m_X8_linked 0 ((q.1 32 (Int32.toNatClampNeg ((4 * i) + 0))) : Int32).toInt64) ((q.1 32 (Int32.toNatClampNeg ((4 * i) + 1))) : Int32).toInt64) ((q.1 32 (Int32.toNatClampNeg ((4 * i) + 2))) : Int32).toInt64)), (4, .int 2), (0, .ref (ad 20 0)), (1, .int i)]) hx hb dX8_linkOf_42 rfl hl (by decide) rfl (fun ls hl => ?_)
    refine lv_iinc (v := 3) (lv' := [(4, .int 3), (2, .long (m_X8_linked (m_X8_linked (m_X8_linked 0 ((q.1 32 (Int32.toNatClampNeg ((4 * i) + 0))) : Int32).toInt64) ((q.1 32 (Int32.toNatClampNeg ((4 * i) + 1))) : Int32).toInt64) ((q.1 32 (Int32.toNatClampNeg ((4 * i) + 2))) : Int32).toInt64)), (0, .ref (ad 20 0)), (1, .int i)]) hx hb dX8_linkOf_43 hl (k := 1) rfl (by first | rfl | decide) (by decide) rfl (fun ls hl => ?_)
    refine lv_goto (tgt := 20) hx hb dX8_linkOf_46 (by decide) ?_
    refine lv_iload hx hb dX8_linkOf_20 (lv_at hl 0 rfl) ?_
    refine lv_iconst (v := 4) hx hb dX8_linkOf_22 (by decide) ?_
    refine lv_icmp_ge (tgt := 49) hx hb dX8_linkOf_23 (by decide) (fun h => absurd h (by decide)) (fun _ => ?_)
    refine lv_lload_n hx hb dX8_linkOf_26 rfl (lv_at hl 1 rfl) ?_
    refine lv_aload_n hx hb dX8_linkOf_27 rfl (lv_at hl 2 rfl) ?_
    refine mm_get (v := .ref (ad 21 32)) hx hb hts hin hown hK hW 32 (by decide) (List.mem_of_getElem? (i := 2) rfl) rfl rfl dX8_linkOf_28 ?_
    refine lv_iconst (v := 4) hx hb dX8_linkOf_31 (by decide) ?_
    refine lv_iload_n hx hb dX8_linkOf_32 rfl (lv_at hl 3 rfl) ?_
    refine lv_imul hx hb dX8_linkOf_33 ?_
    refine lv_iload hx hb dX8_linkOf_34 (lv_at hl 0 rfl) ?_
    refine lv_iadd hx hb dX8_linkOf_36 ?_
    have b_18 : vp_in ((4 * i) + 3) 1600 := by
      have k_1 : (4 : Int32).toInt = 4 := rfl
      have u_2 := rg_e i
      have k_4 : (3 : Int32).toInt = 3 := rfl
      have k_6 : (0 : Int32).toInt = 0 := rfl
      have v_7 := cv_eq c_1
      have w_8 := hi
      have w_9 := hrc
      have u_3 := mu_o 4 4 i rfl
      have u_5 := ad_o (4 * i) 3
      exact vp_in_iff.mpr (by omega)
    refine mm_iald (v := (q.1 32 (Int32.toNatClampNeg ((4 * i) + 3)))) hx hb hK hW 32 1600 rfl b_18 ((rfl)) dX8_linkOf_37 ?_
    refine lv_i2l (v := ((q.1 32 (Int32.toNatClampNeg ((4 * i) + 3))) : Int32).toInt64) hx hb dX8_linkOf_38 rfl ?_
    refine mm_callSl (n := 2) (As := [.long (m_X8_linked (m_X8_linked (m_X8_linked 0 ((q.1 32 (Int32.toNatClampNeg ((4 * i) + 0))) : Int32).toInt64) ((q.1 32 (Int32.toNatClampNeg ((4 * i) + 1))) : Int32).toInt64) ((q.1 32 (Int32.toNatClampNeg ((4 * i) + 2))) : Int32).toInt64), .long ((q.1 32 (Int32.toNatClampNeg ((4 * i) + 3))) : Int32).toInt64]) (rest := []) (r := (m_X8_linked (m_X8_linked (m_X8_linked (m_X8_linked 0 ((q.1 32 (Int32.toNatClampNeg ((4 * i) + 0))) : Int32).toInt64) ((q.1 32 (Int32.toNatClampNeg ((4 * i) + 1))) : Int32).toInt64) ((q.1 32 (Int32.toNatClampNeg ((4 * i) + 2))) : Int32).toInt64) ((q.1 32 (Int32.toNatClampNeg ((4 * i) + 3))) : Int32).toInt64)) (q2 := q) ⟨hx, hb, hml, hown, hts⟩ (c_X8_linked l D b0 Pc cA ad q (m_X8_linked (m_X8_linked (m_X8_linked 0 ((q.1 32 (Int32.toNatClampNeg ((4 * i) + 0))) : Int32).toInt64) ((q.1 32 (Int32.toNatClampNeg ((4 * i) + 1))) : Int32).toInt64) ((q.1 32 (Int32.toNatClampNeg ((4 * i) + 2))) : Int32).toInt64) ((q.1 32 (Int32.toNatClampNeg ((4 * i) + 3))) : Int32).toInt64) gX8_linkOf_X8_linked rfl (by decide +kernel) rfl ⟨Nat.le_of_ble_eq_true rfl, Nat.le_of_ble_eq_true rfl⟩ ⟨Nat.le_of_ble_eq_true rfl, Nat.le_of_ble_eq_true rfl⟩ hK hW hS hl.1 rfl (Nat.le_of_ble_eq_true rfl) dX8_linkOf_39 (fun H locs hW hS => ?_)
    refine lv_lstore_n (lv' := [(2, .long (m_X8_linked (m_X8_linked (m_X8_linked (m_X8_linked 0 ((q.1 32 (Int32.toNatClampNeg ((4 * i) + 0))) : Int32).toInt64) ((q.1 32 (Int32.toNatClampNeg ((4 * i) + 1))) : Int32).toInt64) ((q.1 32 (Int32.toNatClampNeg ((4 * i) + 2))) : Int32).toInt64) ((q.1 32 (Int32.toNatClampNeg ((4 * i) + 3))) : Int32).toInt64)), (4, .int 3), (0, .ref (ad 20 0)), (1, .int i)]) hx hb dX8_linkOf_42 rfl hl (by decide) rfl (fun ls hl => ?_)
    refine lv_iinc (v := 4) (lv' := [(4, .int 4), (2, .long (m_X8_linked (m_X8_linked (m_X8_linked (m_X8_linked 0 ((q.1 32 (Int32.toNatClampNeg ((4 * i) + 0))) : Int32).toInt64) ((q.1 32 (Int32.toNatClampNeg ((4 * i) + 1))) : Int32).toInt64) ((q.1 32 (Int32.toNatClampNeg ((4 * i) + 2))) : Int32).toInt64) ((q.1 32 (Int32.toNatClampNeg ((4 * i) + 3))) : Int32).toInt64)), (0, .ref (ad 20 0)), (1, .int i)]) hx hb dX8_linkOf_43 hl (k := 1) rfl (by first | rfl | decide) (by decide) rfl (fun ls hl => ?_)
    refine lv_goto (tgt := 20) hx hb dX8_linkOf_46 (by decide) ?_
    refine lv_iload hx hb dX8_linkOf_20 (lv_at hl 0 rfl) ?_
    refine lv_iconst (v := 4) hx hb dX8_linkOf_22 (by decide) ?_
    refine lv_icmp_ge (tgt := 49) hx hb dX8_linkOf_23 (by decide) (fun _ => ?_) (fun h => absurd h (by decide))
    refine lv_aload_n hx hb dX8_linkOf_49 rfl (lv_at hl 2 rfl) ?_
    refine mm_get (v := .ref (ad 21 32)) hx hb hts hin hown hK hW 32 (by decide) (List.mem_of_getElem? (i := 2) rfl) rfl rfl dX8_linkOf_50 ?_
    refine lv_iconst (v := 4) hx hb dX8_linkOf_53 (by decide) ?_
    refine lv_iload_n hx hb dX8_linkOf_54 rfl (lv_at hl 3 rfl) ?_
    refine lv_imul hx hb dX8_linkOf_55 ?_
    have b_19 : vp_in (4 * i) 1600 := by
      have k_1 : (4 : Int32).toInt = 4 := rfl
      have u_2 := rg_e i
      have k_4 : (0 : Int32).toInt = 0 := rfl
      have v_5 := cv_eq c_1
      have w_6 := hi
      have w_7 := hrc
      have u_3 := mu_o 4 4 i rfl
      exact vp_in_iff.mpr (by omega)
    refine mm_iald (v := (q.1 32 (Int32.toNatClampNeg (4 * i)))) hx hb hK hW 32 1600 rfl b_19 ((rfl)) dX8_linkOf_56 ?_
    refine lv_istore (lv' := [(4, .int (q.1 32 (Int32.toNatClampNeg (4 * i)))), (2, .long (m_X8_linked (m_X8_linked (m_X8_linked (m_X8_linked 0 ((q.1 32 (Int32.toNatClampNeg ((4 * i) + 0))) : Int32).toInt64) ((q.1 32 (Int32.toNatClampNeg ((4 * i) + 1))) : Int32).toInt64) ((q.1 32 (Int32.toNatClampNeg ((4 * i) + 2))) : Int32).toInt64) ((q.1 32 (Int32.toNatClampNeg ((4 * i) + 3))) : Int32).toInt64)), (0, .ref (ad 20 0)), (1, .int i)]) hx hb dX8_linkOf_57 hl (by decide) rfl (fun ls hl => ?_)
    refine lv_aload_n hx hb dX8_linkOf_59 rfl (lv_at hl 2 rfl) ?_
    refine mm_get (v := .ref (ad 21 32)) hx hb hts hin hown hK hW 32 (by decide) (List.mem_of_getElem? (i := 2) rfl) rfl rfl dX8_linkOf_60 ?_
    refine lv_iconst (v := 4) hx hb dX8_linkOf_63 (by decide) ?_
    refine lv_iload_n hx hb dX8_linkOf_64 rfl (lv_at hl 3 rfl) ?_
    refine lv_imul hx hb dX8_linkOf_65 ?_
    refine lv_iconst (v := 1) hx hb dX8_linkOf_66 (by decide) ?_
    refine lv_iadd hx hb dX8_linkOf_67 ?_
    have b_20 : vp_in ((4 * i) + 1) 1600 := by
      have k_1 : (4 : Int32).toInt = 4 := rfl
      have u_2 := rg_e i
      have k_4 : (1 : Int32).toInt = 1 := rfl
      have k_6 : (0 : Int32).toInt = 0 := rfl
      have v_7 := cv_eq c_1
      have w_8 := hi
      have w_9 := hrc
      have u_3 := mu_o 4 4 i rfl
      have u_5 := ad_o (4 * i) 1
      exact vp_in_iff.mpr (by omega)
    refine mm_iald (v := (q.1 32 (Int32.toNatClampNeg ((4 * i) + 1)))) hx hb hK hW 32 1600 rfl b_20 ((rfl)) dX8_linkOf_68 ?_
    refine lv_istore (lv' := [(5, .int (q.1 32 (Int32.toNatClampNeg ((4 * i) + 1)))), (4, .int (q.1 32 (Int32.toNatClampNeg (4 * i)))), (2, .long (m_X8_linked (m_X8_linked (m_X8_linked (m_X8_linked 0 ((q.1 32 (Int32.toNatClampNeg ((4 * i) + 0))) : Int32).toInt64) ((q.1 32 (Int32.toNatClampNeg ((4 * i) + 1))) : Int32).toInt64) ((q.1 32 (Int32.toNatClampNeg ((4 * i) + 2))) : Int32).toInt64) ((q.1 32 (Int32.toNatClampNeg ((4 * i) + 3))) : Int32).toInt64)), (0, .ref (ad 20 0)), (1, .int i)]) hx hb dX8_linkOf_69 hl (by decide) rfl (fun ls hl => ?_)
    refine lv_iload hx hb dX8_linkOf_71 (lv_at hl 1 rfl) ?_
    refine lv_iconst (v := 5) hx hb dX8_linkOf_73 (by decide) ?_
    refine lv_icmp_eq (tgt := 84) hx hb dX8_linkOf_74 (by decide) (fun c_21 => ?_) (fun c_21 => ?_)
    · refine lv_lload_n hx hb dX8_linkOf_84 rfl (lv_at hl 2 rfl) ?_
      refine lv_iload hx hb dX8_linkOf_85 (lv_at hl 0 rfl) ?_
      refine lv_iconst (v := 0) hx hb dX8_linkOf_87 (by decide) ?_
      refine lv_aload_n hx hb dX8_linkOf_88 rfl (lv_at hl 3 rfl) ?_
      refine mm_gets (v := (q.1 12 0)) hx hb hts hin hown hK hW 12 (by decide) (List.mem_of_getElem? (i := 3) rfl) rfl rfl (rfl) dX8_linkOf_89 ?_
      refine lv_iconst (v := 1) hx hb dX8_linkOf_92 (by decide) ?_
      refine lv_isub hx hb dX8_linkOf_93 ?_
      refine mm_callSi (n := 3) (As := [.int (q.1 32 (Int32.toNatClampNeg ((4 * i) + 1))), .int 0, .int ((q.1 12 0) - 1)]) (rest := [.long (m_X8_linked (m_X8_linked (m_X8_linked (m_X8_linked 0 ((q.1 32 (Int32.toNatClampNeg ((4 * i) + 0))) : Int32).toInt64) ((q.1 32 (Int32.toNatClampNeg ((4 * i) + 1))) : Int32).toInt64) ((q.1 32 (Int32.toNatClampNeg ((4 * i) + 2))) : Int32).toInt64) ((q.1 32 (Int32.toNatClampNeg ((4 * i) + 3))) : Int32).toInt64)]) (r := (m_X8_isIn (q.1 32 (Int32.toNatClampNeg ((4 * i) + 1))) 0 ((q.1 12 0) - 1))) (q2 := q) ⟨hx, hb, hml, hown, hts⟩ (c_X8_isIn l D b0 Pc cA ad q (q.1 32 (Int32.toNatClampNeg ((4 * i) + 1))) 0 ((q.1 12 0) - 1)) gX8_linkOf_X8_isIn rfl (by decide +kernel) rfl ⟨Nat.le_of_ble_eq_true rfl, Nat.le_of_ble_eq_true rfl⟩ ⟨Nat.le_of_ble_eq_true rfl, Nat.le_of_ble_eq_true rfl⟩ hK hW hS hl.1 rfl (Nat.le_of_ble_eq_true rfl) dX8_linkOf_94 (fun H locs hW hS => ?_)
      refine lv_if_eq (tgt := 110) hx hb dX8_linkOf_97 (by decide) (fun c_22 => ?_) (fun c_22 => ?_)
      · refine lv_lconst (v := 0) hx hb dX8_linkOf_110 (by decide) ?_
        refine mm_callSl (n := 2) (As := [.long (m_X8_linked (m_X8_linked (m_X8_linked (m_X8_linked 0 ((q.1 32 (Int32.toNatClampNeg ((4 * i) + 0))) : Int32).toInt64) ((q.1 32 (Int32.toNatClampNeg ((4 * i) + 1))) : Int32).toInt64) ((q.1 32 (Int32.toNatClampNeg ((4 * i) + 2))) : Int32).toInt64) ((q.1 32 (Int32.toNatClampNeg ((4 * i) + 3))) : Int32).toInt64), .long 0]) (rest := []) (r := (m_X8_linked (m_X8_linked (m_X8_linked (m_X8_linked (m_X8_linked 0 ((q.1 32 (Int32.toNatClampNeg ((4 * i) + 0))) : Int32).toInt64) ((q.1 32 (Int32.toNatClampNeg ((4 * i) + 1))) : Int32).toInt64) ((q.1 32 (Int32.toNatClampNeg ((4 * i) + 2))) : Int32).toInt64) ((q.1 32 (Int32.toNatClampNeg ((4 * i) + 3))) : Int32).toInt64) 0)) (q2 := q) ⟨hx, hb, hml, hown, hts⟩ (c_X8_linked l D b0 Pc cA ad q (m_X8_linked (m_X8_linked (m_X8_linked (m_X8_linked 0 ((q.1 32 (Int32.toNatClampNeg ((4 * i) + 0))) : Int32).toInt64) ((q.1 32 (Int32.toNatClampNeg ((4 * i) + 1))) : Int32).toInt64) ((q.1 32 (Int32.toNatClampNeg ((4 * i) + 2))) : Int32).toInt64) ((q.1 32 (Int32.toNatClampNeg ((4 * i) + 3))) : Int32).toInt64) 0) gX8_linkOf_X8_linked rfl (by decide +kernel) rfl ⟨Nat.le_of_ble_eq_true rfl, Nat.le_of_ble_eq_true rfl⟩ ⟨Nat.le_of_ble_eq_true rfl, Nat.le_of_ble_eq_true rfl⟩ hK hW hS hl.1 rfl (Nat.le_of_ble_eq_true rfl) dX8_linkOf_111 (fun H locs hW hS => ?_)
        refine lv_goto (tgt := 118) hx hb dX8_linkOf_114 (by decide) ?_
        exact mm_lret hx hb hr hlk hK hW hS (by rw [m_X8_linkOf, if_pos c_1, if_pos c_21, if_pos c_22]) dX8_linkOf_118
      · refine lv_aload_n hx hb dX8_linkOf_100 rfl (lv_at hl 3 rfl) ?_
        refine mm_get (v := .ref (ad 21 16)) hx hb hts hin hown hK hW 16 (by decide) (List.mem_of_getElem? (i := 4) rfl) rfl rfl dX8_linkOf_101 ?_
        refine lv_iload hx hb dX8_linkOf_104 (lv_at hl 0 rfl) ?_
        have b_23 : vp_in (q.1 32 (Int32.toNatClampNeg ((4 * i) + 1))) 64 := by
          have k_1 : (4 : Int32).toInt = 4 := rfl
          have u_2 := rg_e i
          have k_4 : (1 : Int32).toInt = 1 := rfl
          have u_6 := rg_e (q.1 32 (Int32.toNatClampNeg ((4 * i) + 1)))
          have k_7 : (0 : Int32).toInt = 0 := rfl
          have v_8 := cv_eq c_1
          have u_9 := rg_e (q.1 32 (Int32.toNatClampNeg (4 * i)))
          have k_10 : (5 : Int32).toInt = 5 := rfl
          have v_11 := cv_eq c_21
          have u_12 := rg_e (m_X8_isIn (q.1 32 (Int32.toNatClampNeg ((4 * i) + 1))) 0 ((q.1 12 0) - 1))
          have v_13 := cv_ne c_22
          have u_14 := rg_e (q.1 12 0)
          have v_16 := is_t c_22
          have w_17 := hi
          have w_18 := hrc
          have u_3 := mu_o 4 4 i rfl
          have u_5 := ad_o (4 * i) 1
          have u_15 := su_o (q.1 12 0) 1
          exact vp_in_iff.mpr (by omega)
        refine mm_lald (v := (q.2 16 (Int32.toNatClampNeg (q.1 32 (Int32.toNatClampNeg ((4 * i) + 1)))))) hx hb hK hW 16 64 rfl b_23 ((rfl)) dX8_linkOf_106 ?_
        refine lv_goto (tgt := 111) hx hb dX8_linkOf_107 (by decide) ?_
        refine mm_callSl (n := 2) (As := [.long (m_X8_linked (m_X8_linked (m_X8_linked (m_X8_linked 0 ((q.1 32 (Int32.toNatClampNeg ((4 * i) + 0))) : Int32).toInt64) ((q.1 32 (Int32.toNatClampNeg ((4 * i) + 1))) : Int32).toInt64) ((q.1 32 (Int32.toNatClampNeg ((4 * i) + 2))) : Int32).toInt64) ((q.1 32 (Int32.toNatClampNeg ((4 * i) + 3))) : Int32).toInt64), .long (q.2 16 (Int32.toNatClampNeg (q.1 32 (Int32.toNatClampNeg ((4 * i) + 1)))))]) (rest := []) (r := (m_X8_linked (m_X8_linked (m_X8_linked (m_X8_linked (m_X8_linked 0 ((q.1 32 (Int32.toNatClampNeg ((4 * i) + 0))) : Int32).toInt64) ((q.1 32 (Int32.toNatClampNeg ((4 * i) + 1))) : Int32).toInt64) ((q.1 32 (Int32.toNatClampNeg ((4 * i) + 2))) : Int32).toInt64) ((q.1 32 (Int32.toNatClampNeg ((4 * i) + 3))) : Int32).toInt64) (q.2 16 (Int32.toNatClampNeg (q.1 32 (Int32.toNatClampNeg ((4 * i) + 1))))))) (q2 := q) ⟨hx, hb, hml, hown, hts⟩ (c_X8_linked l D b0 Pc cA ad q (m_X8_linked (m_X8_linked (m_X8_linked (m_X8_linked 0 ((q.1 32 (Int32.toNatClampNeg ((4 * i) + 0))) : Int32).toInt64) ((q.1 32 (Int32.toNatClampNeg ((4 * i) + 1))) : Int32).toInt64) ((q.1 32 (Int32.toNatClampNeg ((4 * i) + 2))) : Int32).toInt64) ((q.1 32 (Int32.toNatClampNeg ((4 * i) + 3))) : Int32).toInt64) (q.2 16 (Int32.toNatClampNeg (q.1 32 (Int32.toNatClampNeg ((4 * i) + 1)))))) gX8_linkOf_X8_linked rfl (by decide +kernel) rfl ⟨Nat.le_of_ble_eq_true rfl, Nat.le_of_ble_eq_true rfl⟩ ⟨Nat.le_of_ble_eq_true rfl, Nat.le_of_ble_eq_true rfl⟩ hK hW hS hl.1 rfl (Nat.le_of_ble_eq_true rfl) dX8_linkOf_111 (fun H locs hW hS => ?_)
        refine lv_goto (tgt := 118) hx hb dX8_linkOf_114 (by decide) ?_
        exact mm_lret hx hb hr hlk hK hW hS (by rw [m_X8_linkOf, if_pos c_1, if_pos c_21, if_neg c_22]) dX8_linkOf_118
    · refine lv_iload hx hb dX8_linkOf_77 (lv_at hl 1 rfl) ?_
      refine lv_bipush (v := 11) hx hb dX8_linkOf_79 (by decide) ?_
      refine lv_icmp_ne (tgt := 117) hx hb dX8_linkOf_81 (by decide) (fun c_24 => ?_) (fun c_24 => ?_)
      · refine lv_lload_n hx hb dX8_linkOf_117 rfl (lv_at hl 2 rfl) ?_
        exact mm_lret hx hb hr hlk hK hW hS (by rw [m_X8_linkOf, if_pos c_1, if_neg c_21, if_neg c_24]) dX8_linkOf_118
      · refine lv_lload_n hx hb dX8_linkOf_84 rfl (lv_at hl 2 rfl) ?_
        refine lv_iload hx hb dX8_linkOf_85 (lv_at hl 0 rfl) ?_
        refine lv_iconst (v := 0) hx hb dX8_linkOf_87 (by decide) ?_
        refine lv_aload_n hx hb dX8_linkOf_88 rfl (lv_at hl 3 rfl) ?_
        refine mm_gets (v := (q.1 12 0)) hx hb hts hin hown hK hW 12 (by decide) (List.mem_of_getElem? (i := 3) rfl) rfl rfl (rfl) dX8_linkOf_89 ?_
        refine lv_iconst (v := 1) hx hb dX8_linkOf_92 (by decide) ?_
        refine lv_isub hx hb dX8_linkOf_93 ?_
        refine mm_callSi (n := 3) (As := [.int (q.1 32 (Int32.toNatClampNeg ((4 * i) + 1))), .int 0, .int ((q.1 12 0) - 1)]) (rest := [.long (m_X8_linked (m_X8_linked (m_X8_linked (m_X8_linked 0 ((q.1 32 (Int32.toNatClampNeg ((4 * i) + 0))) : Int32).toInt64) ((q.1 32 (Int32.toNatClampNeg ((4 * i) + 1))) : Int32).toInt64) ((q.1 32 (Int32.toNatClampNeg ((4 * i) + 2))) : Int32).toInt64) ((q.1 32 (Int32.toNatClampNeg ((4 * i) + 3))) : Int32).toInt64)]) (r := (m_X8_isIn (q.1 32 (Int32.toNatClampNeg ((4 * i) + 1))) 0 ((q.1 12 0) - 1))) (q2 := q) ⟨hx, hb, hml, hown, hts⟩ (c_X8_isIn l D b0 Pc cA ad q (q.1 32 (Int32.toNatClampNeg ((4 * i) + 1))) 0 ((q.1 12 0) - 1)) gX8_linkOf_X8_isIn rfl (by decide +kernel) rfl ⟨Nat.le_of_ble_eq_true rfl, Nat.le_of_ble_eq_true rfl⟩ ⟨Nat.le_of_ble_eq_true rfl, Nat.le_of_ble_eq_true rfl⟩ hK hW hS hl.1 rfl (Nat.le_of_ble_eq_true rfl) dX8_linkOf_94 (fun H locs hW hS => ?_)
        refine lv_if_eq (tgt := 110) hx hb dX8_linkOf_97 (by decide) (fun c_25 => ?_) (fun c_25 => ?_)
        · refine lv_lconst (v := 0) hx hb dX8_linkOf_110 (by decide) ?_
          refine mm_callSl (n := 2) (As := [.long (m_X8_linked (m_X8_linked (m_X8_linked (m_X8_linked 0 ((q.1 32 (Int32.toNatClampNeg ((4 * i) + 0))) : Int32).toInt64) ((q.1 32 (Int32.toNatClampNeg ((4 * i) + 1))) : Int32).toInt64) ((q.1 32 (Int32.toNatClampNeg ((4 * i) + 2))) : Int32).toInt64) ((q.1 32 (Int32.toNatClampNeg ((4 * i) + 3))) : Int32).toInt64), .long 0]) (rest := []) (r := (m_X8_linked (m_X8_linked (m_X8_linked (m_X8_linked (m_X8_linked 0 ((q.1 32 (Int32.toNatClampNeg ((4 * i) + 0))) : Int32).toInt64) ((q.1 32 (Int32.toNatClampNeg ((4 * i) + 1))) : Int32).toInt64) ((q.1 32 (Int32.toNatClampNeg ((4 * i) + 2))) : Int32).toInt64) ((q.1 32 (Int32.toNatClampNeg ((4 * i) + 3))) : Int32).toInt64) 0)) (q2 := q) ⟨hx, hb, hml, hown, hts⟩ (c_X8_linked l D b0 Pc cA ad q (m_X8_linked (m_X8_linked (m_X8_linked (m_X8_linked 0 ((q.1 32 (Int32.toNatClampNeg ((4 * i) + 0))) : Int32).toInt64) ((q.1 32 (Int32.toNatClampNeg ((4 * i) + 1))) : Int32).toInt64) ((q.1 32 (Int32.toNatClampNeg ((4 * i) + 2))) : Int32).toInt64) ((q.1 32 (Int32.toNatClampNeg ((4 * i) + 3))) : Int32).toInt64) 0) gX8_linkOf_X8_linked rfl (by decide +kernel) rfl ⟨Nat.le_of_ble_eq_true rfl, Nat.le_of_ble_eq_true rfl⟩ ⟨Nat.le_of_ble_eq_true rfl, Nat.le_of_ble_eq_true rfl⟩ hK hW hS hl.1 rfl (Nat.le_of_ble_eq_true rfl) dX8_linkOf_111 (fun H locs hW hS => ?_)
          refine lv_goto (tgt := 118) hx hb dX8_linkOf_114 (by decide) ?_
          exact mm_lret hx hb hr hlk hK hW hS (by rw [m_X8_linkOf, if_pos c_1, if_neg c_21, if_pos c_24, if_pos c_25]) dX8_linkOf_118
        · refine lv_aload_n hx hb dX8_linkOf_100 rfl (lv_at hl 3 rfl) ?_
          refine mm_get (v := .ref (ad 21 16)) hx hb hts hin hown hK hW 16 (by decide) (List.mem_of_getElem? (i := 4) rfl) rfl rfl dX8_linkOf_101 ?_
          refine lv_iload hx hb dX8_linkOf_104 (lv_at hl 0 rfl) ?_
          have b_26 : vp_in (q.1 32 (Int32.toNatClampNeg ((4 * i) + 1))) 64 := by
            have k_1 : (4 : Int32).toInt = 4 := rfl
            have u_2 := rg_e i
            have k_4 : (1 : Int32).toInt = 1 := rfl
            have u_6 := rg_e (q.1 32 (Int32.toNatClampNeg ((4 * i) + 1)))
            have k_7 : (0 : Int32).toInt = 0 := rfl
            have v_8 := cv_eq c_1
            have u_9 := rg_e (q.1 32 (Int32.toNatClampNeg (4 * i)))
            have k_10 : (5 : Int32).toInt = 5 := rfl
            have v_11 := cv_ne c_21
            have k_12 : (11 : Int32).toInt = 11 := rfl
            have v_13 := cv_eq c_24
            have u_14 := rg_e (m_X8_isIn (q.1 32 (Int32.toNatClampNeg ((4 * i) + 1))) 0 ((q.1 12 0) - 1))
            have v_15 := cv_ne c_25
            have u_16 := rg_e (q.1 12 0)
            have v_18 := is_t c_25
            have w_19 := hi
            have w_20 := hrc
            have u_3 := mu_o 4 4 i rfl
            have u_5 := ad_o (4 * i) 1
            have u_17 := su_o (q.1 12 0) 1
            exact vp_in_iff.mpr (by omega)
          refine mm_lald (v := (q.2 16 (Int32.toNatClampNeg (q.1 32 (Int32.toNatClampNeg ((4 * i) + 1)))))) hx hb hK hW 16 64 rfl b_26 ((rfl)) dX8_linkOf_106 ?_
          refine lv_goto (tgt := 111) hx hb dX8_linkOf_107 (by decide) ?_
          refine mm_callSl (n := 2) (As := [.long (m_X8_linked (m_X8_linked (m_X8_linked (m_X8_linked 0 ((q.1 32 (Int32.toNatClampNeg ((4 * i) + 0))) : Int32).toInt64) ((q.1 32 (Int32.toNatClampNeg ((4 * i) + 1))) : Int32).toInt64) ((q.1 32 (Int32.toNatClampNeg ((4 * i) + 2))) : Int32).toInt64) ((q.1 32 (Int32.toNatClampNeg ((4 * i) + 3))) : Int32).toInt64), .long (q.2 16 (Int32.toNatClampNeg (q.1 32 (Int32.toNatClampNeg ((4 * i) + 1)))))]) (rest := []) (r := (m_X8_linked (m_X8_linked (m_X8_linked (m_X8_linked (m_X8_linked 0 ((q.1 32 (Int32.toNatClampNeg ((4 * i) + 0))) : Int32).toInt64) ((q.1 32 (Int32.toNatClampNeg ((4 * i) + 1))) : Int32).toInt64) ((q.1 32 (Int32.toNatClampNeg ((4 * i) + 2))) : Int32).toInt64) ((q.1 32 (Int32.toNatClampNeg ((4 * i) + 3))) : Int32).toInt64) (q.2 16 (Int32.toNatClampNeg (q.1 32 (Int32.toNatClampNeg ((4 * i) + 1))))))) (q2 := q) ⟨hx, hb, hml, hown, hts⟩ (c_X8_linked l D b0 Pc cA ad q (m_X8_linked (m_X8_linked (m_X8_linked (m_X8_linked 0 ((q.1 32 (Int32.toNatClampNeg ((4 * i) + 0))) : Int32).toInt64) ((q.1 32 (Int32.toNatClampNeg ((4 * i) + 1))) : Int32).toInt64) ((q.1 32 (Int32.toNatClampNeg ((4 * i) + 2))) : Int32).toInt64) ((q.1 32 (Int32.toNatClampNeg ((4 * i) + 3))) : Int32).toInt64) (q.2 16 (Int32.toNatClampNeg (q.1 32 (Int32.toNatClampNeg ((4 * i) + 1)))))) gX8_linkOf_X8_linked rfl (by decide +kernel) rfl ⟨Nat.le_of_ble_eq_true rfl, Nat.le_of_ble_eq_true rfl⟩ ⟨Nat.le_of_ble_eq_true rfl, Nat.le_of_ble_eq_true rfl⟩ hK hW hS hl.1 rfl (Nat.le_of_ble_eq_true rfl) dX8_linkOf_111 (fun H locs hW hS => ?_)
          refine lv_goto (tgt := 118) hx hb dX8_linkOf_114 (by decide) ?_
          exact mm_lret hx hb hr hlk hK hW hS (by rw [m_X8_linkOf, if_pos c_1, if_neg c_21, if_pos c_24, if_neg c_25]) dX8_linkOf_118
