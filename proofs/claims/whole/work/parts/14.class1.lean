/-! laid by wip/whole/tools/class1.py -/
def m_X0_mix (x : Int64) (it : Int64) : Int64 := (((x ^^^ it) * 7046029254386353131) ^^^ ((Int64.toUInt64 ((x ^^^ it) * 7046029254386353131) >>> ((Int32.toInt64 29).toUInt64 &&& Int64.toUInt64 63)).toInt64))
set_option maxHeartbeats 4000000 in
set_option maxRecDepth 100000 in
theorem c_X0_mix (l : Launch) (D : va_G) (b0 : Nat) (cA : Nat → ClassId) (ad : Nat → Nat → Nat) (mq : qM) (q : qC) (x : Int64) (it : Int64) : cc_l l yX0_mix wsX0_mix 0 0 D b0 cA ad mq q [.long x, .long it] (m_X0_mix x it, q) := by
  refine cc_of (by decide) rfl (Nat.le_of_ble_eq_true rfl) ?_
  intro p e s m below meth c hx hb hml hr hlk hown hts hK hW hKD ls hl
  have hown : s.vm.findClass RX0 = some m.cls := hown
  have hS : va_S (wA b0) s.heap s.heap [] := va_S.rf
  have hl : lv_has ls 6 [(0, .long x), (2, .long it)] := hl
  refine lv_lload_n hx hb dX0_mix_0 rfl (lv_at hl 0 rfl) ?_
  refine lv_lload_n hx hb dX0_mix_1 rfl (lv_at hl 1 rfl) ?_
  refine lv_lxor hx hb dX0_mix_2 ?_
  refine lv_ldc2 (v := 7046029254386353131) hx hb hown (hts _ (List.mem_of_getElem? (i := 1) rfl)) dX0_mix_3 ?_
  refine lv_lmul hx hb dX0_mix_6 ?_
  refine lv_lstore (lv' := [(4, .long ((x ^^^ it) * 7046029254386353131)), (0, .long x), (2, .long it)]) hx hb dX0_mix_7 hl (by decide) rfl (fun ls hl => ?_)
  refine lv_lload hx hb dX0_mix_9 (lv_at hl 0 rfl) ?_
  refine lv_lload hx hb dX0_mix_11 (lv_at hl 0 rfl) ?_
  refine lv_bipush (v := 29) hx hb dX0_mix_13 (by decide) ?_
  refine lv_lushr (v := (Int64.toUInt64 ((x ^^^ it) * 7046029254386353131) >>> ((Int32.toInt64 29).toUInt64 &&& Int64.toUInt64 63)).toInt64) hx hb dX0_mix_15 rfl ?_
  refine lv_lxor hx hb dX0_mix_16 ?_
  exact ow_lret hx hb hr hlk hK hW hS (by rw [m_X0_mix]) dX0_mix_17

def m_X0_number (q : qC) (i : Int32) (what : Int32) : Int32 := (q.1 8 0 (Int32.toNatClampNeg ((4 * i) + what)))
set_option maxHeartbeats 4000000 in
set_option maxRecDepth 100000 in
theorem c_X0_number (l : Launch) (D : va_G) (b0 : Nat) (cA : Nat → ClassId) (ad : Nat → Nat → Nat) (mq : qM) (q : qC) (i : Int32) (what : Int32) (hi : 0 ≤ (i : Int32).toInt ∧ (i : Int32).toInt ≤ 399) (hw : 0 ≤ (what : Int32).toInt ∧ (what : Int32).toInt ≤ 3) : cc_i l yX0_number wsX0_number 0 0 D b0 cA ad mq q [.ref (ad 7 0), .int i, .int what] (m_X0_number q i what, q) := by
  refine cc_of (by decide) rfl (Nat.le_of_ble_eq_true rfl) ?_
  intro p e s m below meth c hx hb hml hr hlk hown hts hK hW hKD ls hl
  have hown : s.vm.findClass RX0 = some m.cls := hown
  have hS : va_S (wA b0) s.heap s.heap [] := va_S.rf
  have hl : lv_has ls 3 [(0, .ref (ad 7 0)), (1, .int i), (2, .int what)] := hl
  have hin_X0 : ∀ w ∈ wsX00, w ∈ wsX0_number := fun w h => List.mem_cons_of_mem _ (List.mem_append_right _ h)
  refine lv_aload_n hx hb dX0_number_0 rfl (lv_at hl 0 rfl) ?_
  refine ow_get (v2 := .ref (ad 8 0)) (ci := 0) (C := RX0) (T := TX0) (N := 3) hx hb hts hin_X0 hown hK hW 7 0 (PO_k7) rfl 0 (by decide) (List.mem_of_getElem? (i := 1) rfl) rfl rfl rfl dX0_number_1 ?_
  refine lv_iconst (v := 4) hx hb dX0_number_4 (by decide) ?_
  refine lv_iload_n hx hb dX0_number_5 rfl (lv_at hl 1 rfl) ?_
  refine lv_imul hx hb dX0_number_6 ?_
  refine lv_iload_n hx hb dX0_number_7 rfl (lv_at hl 2 rfl) ?_
  refine lv_iadd hx hb dX0_number_8 ?_
  have b_1 : vp_in ((4 * i) + what) 1600 := by
    have k_1 : (4 : Int32).toInt = 4 := rfl
    have u_2 := rg_e i
    have u_4 := rg_e what
    have w_6 := hi
    have w_7 := hw
    have u_3 := mu_o 4 4 i rfl
    have u_5 := ad_o (4 * i) what
    exact vp_in_iff.mpr (by omega)
  refine ow_iald (v := (q.1 8 0 (Int32.toNatClampNeg ((4 * i) + what)))) hx hb hK hW 8 0 (PO_k8) b_1 (rfl) dX0_number_9 ?_
  exact ow_iret hx hb hr hlk hK hW hS (by rw [m_X0_number]) dX0_number_10

def m_X0_setNumber (q : qC) (i : Int32) (what : Int32) (v : Int32) : qC := (cq_i q 8 0 (Int32.toNatClampNeg ((4 * i) + what)) v)
set_option maxHeartbeats 4000000 in
set_option maxRecDepth 100000 in
theorem c_X0_setNumber (l : Launch) (D : va_G) (b0 : Nat) (cA : Nat → ClassId) (ad : Nat → Nat → Nat) (mq : qM) (q : qC) (i : Int32) (what : Int32) (v : Int32) (hi : 0 ≤ (i : Int32).toInt ∧ (i : Int32).toInt ≤ 399) (hw : 0 ≤ (what : Int32).toInt ∧ (what : Int32).toInt ≤ 3) : cc_v l yX0_setNumber wsX0_setNumber 0 0 D b0 cA ad mq q [.ref (ad 7 0), .int i, .int what, .int v] (m_X0_setNumber q i what v) := by
  refine cc_of (by decide) rfl (Nat.le_of_ble_eq_true rfl) ?_
  intro p e s m below meth c hx hb hml hr hlk hown hts hK hW hKD ls hl
  have hown : s.vm.findClass RX0 = some m.cls := hown
  have hS : va_S (wA b0) s.heap s.heap [] := va_S.rf
  have hl : lv_has ls 4 [(0, .ref (ad 7 0)), (1, .int i), (2, .int what), (3, .int v)] := hl
  have hin_X0 : ∀ w ∈ wsX00, w ∈ wsX0_setNumber := fun w h => List.mem_cons_of_mem _ (List.mem_append_right _ h)
  refine lv_aload_n hx hb dX0_setNumber_0 rfl (lv_at hl 0 rfl) ?_
  refine ow_get (v2 := .ref (ad 8 0)) (ci := 0) (C := RX0) (T := TX0) (N := 3) hx hb hts hin_X0 hown hK hW 7 0 (PO_k7) rfl 0 (by decide) (List.mem_of_getElem? (i := 1) rfl) rfl rfl rfl dX0_setNumber_1 ?_
  refine lv_iconst (v := 4) hx hb dX0_setNumber_4 (by decide) ?_
  refine lv_iload_n hx hb dX0_setNumber_5 rfl (lv_at hl 1 rfl) ?_
  refine lv_imul hx hb dX0_setNumber_6 ?_
  refine lv_iload_n hx hb dX0_setNumber_7 rfl (lv_at hl 2 rfl) ?_
  refine lv_iadd hx hb dX0_setNumber_8 ?_
  refine lv_iload_n hx hb dX0_setNumber_9 rfl (lv_at hl 3 rfl) ?_
  have b_1 : vp_in ((4 * i) + what) 1600 := by
    have k_1 : (4 : Int32).toInt = 4 := rfl
    have u_2 := rg_e i
    have u_4 := rg_e what
    have w_6 := hi
    have w_7 := hw
    have u_3 := mu_o 4 4 i rfl
    have u_5 := ad_o (4 * i) what
    exact vp_in_iff.mpr (by omega)
  refine ow_iast hx hb hK hW hS 8 0 (PO_k8) b_1 (by decide) (PO_w8) dX0_setNumber_10 (fun H locs hW hS => ?_)
  exact ow_vret hx hb hr hlk hK hW hS (by rw [m_X0_setNumber]) dX0_setNumber_11

def m_X0_linkFor (q : qC) (i : Int32) (digest : Int64) : Int64 := (if i = 0 then (if (m_X0_number q i 0) = 5 then (m_X0_mix (m_X0_mix (m_X0_mix (m_X0_mix (m_X0_mix 0 ((m_X0_number q i 0) : Int32).toInt64) ((m_X0_number q i 1) : Int32).toInt64) ((m_X0_number q i 2) : Int32).toInt64) ((m_X0_number q i 3) : Int32).toInt64) digest) else (if (m_X0_number q i 0) = 11 then (m_X0_mix (m_X0_mix (m_X0_mix (m_X0_mix (m_X0_mix 0 ((m_X0_number q i 0) : Int32).toInt64) ((m_X0_number q i 1) : Int32).toInt64) ((m_X0_number q i 2) : Int32).toInt64) ((m_X0_number q i 3) : Int32).toInt64) digest) else (m_X0_mix (m_X0_mix (m_X0_mix (m_X0_mix 0 ((m_X0_number q i 0) : Int32).toInt64) ((m_X0_number q i 1) : Int32).toInt64) ((m_X0_number q i 2) : Int32).toInt64) ((m_X0_number q i 3) : Int32).toInt64))) else (if (m_X0_number q i 0) = 5 then (m_X0_mix (m_X0_mix (m_X0_mix (m_X0_mix (m_X0_mix (q.2 9 0 (Int32.toNatClampNeg (i - 1))) ((m_X0_number q i 0) : Int32).toInt64) ((m_X0_number q i 1) : Int32).toInt64) ((m_X0_number q i 2) : Int32).toInt64) ((m_X0_number q i 3) : Int32).toInt64) digest) else (if (m_X0_number q i 0) = 11 then (m_X0_mix (m_X0_mix (m_X0_mix (m_X0_mix (m_X0_mix (q.2 9 0 (Int32.toNatClampNeg (i - 1))) ((m_X0_number q i 0) : Int32).toInt64) ((m_X0_number q i 1) : Int32).toInt64) ((m_X0_number q i 2) : Int32).toInt64) ((m_X0_number q i 3) : Int32).toInt64) digest) else (m_X0_mix (m_X0_mix (m_X0_mix (m_X0_mix (q.2 9 0 (Int32.toNatClampNeg (i - 1))) ((m_X0_number q i 0) : Int32).toInt64) ((m_X0_number q i 1) : Int32).toInt64) ((m_X0_number q i 2) : Int32).toInt64) ((m_X0_number q i 3) : Int32).toInt64))))
set_option maxHeartbeats 4000000 in
set_option maxRecDepth 100000 in
theorem c_X0_linkFor (l : Launch) (D : va_G) (b0 : Nat) (cA : Nat → ClassId) (ad : Nat → Nat → Nat) (mq : qM) (q : qC) (i : Int32) (digest : Int64) (hi : 0 ≤ (i : Int32).toInt ∧ (i : Int32).toInt ≤ 399) : cc_l l yX0_linkFor wsX0_linkFor 1 25 D b0 cA ad mq q [.ref (ad 7 0), .int i, .long digest] (m_X0_linkFor q i digest, q) := by
  refine cc_of (by decide) rfl (Nat.le_of_ble_eq_true rfl) ?_
  intro p e s m below meth c hx hb hml hr hlk hown hts hK hW hKD ls hl
  have hown : s.vm.findClass RX0 = some m.cls := hown
  have hS : va_S (wA b0) s.heap s.heap [] := va_S.rf
  have hl : lv_has ls 7 [(0, .ref (ad 7 0)), (1, .int i), (2, .long digest)] := hl
  have hin_X0 : ∀ w ∈ wsX00, w ∈ wsX0_linkFor := fun w h => List.mem_cons_of_mem _ (List.mem_append_right _ h)
  refine lv_iload_n hx hb dX0_linkFor_0 rfl (lv_at hl 1 rfl) ?_
  refine lv_if_ne (tgt := 8) hx hb dX0_linkFor_1 (by decide) (fun c_1 => ?_) (fun c_1 => ?_)
  · refine lv_aload_n hx hb dX0_linkFor_8 rfl (lv_at hl 0 rfl) ?_
    refine ow_get (v2 := .ref (ad 9 0)) (ci := 0) (C := RX0) (T := TX0) (N := 3) hx hb hts hin_X0 hown hK hW 7 0 (PO_k7) rfl 1 (by decide) (List.mem_of_getElem? (i := 1) rfl) rfl rfl rfl dX0_linkFor_9 ?_
    refine lv_iload_n hx hb dX0_linkFor_12 rfl (lv_at hl 1 rfl) ?_
    refine lv_iconst (v := 1) hx hb dX0_linkFor_13 (by decide) ?_
    refine lv_isub hx hb dX0_linkFor_14 ?_
    have b_2 : vp_in (i - 1) 400 := by
      have u_1 := rg_e i
      have k_2 : (1 : Int32).toInt = 1 := rfl
      have k_4 : (0 : Int32).toInt = 0 := rfl
      have v_5 := cv_ne c_1
      have w_6 := hi
      have u_3 := su_o i 1
      exact vp_in_iff.mpr (by omega)
    refine ow_lald (v := (q.2 9 0 (Int32.toNatClampNeg (i - 1)))) hx hb hK hW 9 0 (PO_k9) b_2 (rfl) dX0_linkFor_15 ?_
    refine lv_lstore (lv' := [(4, .long (q.2 9 0 (Int32.toNatClampNeg (i - 1)))), (0, .ref (ad 7 0)), (1, .int i), (2, .long digest)]) hx hb dX0_linkFor_16 hl (by decide) rfl (fun ls hl => ?_)
    refine lv_iconst (v := 0) hx hb dX0_linkFor_18 (by decide) ?_
    refine lv_istore (lv' := [(6, .int 0), (4, .long (q.2 9 0 (Int32.toNatClampNeg (i - 1)))), (0, .ref (ad 7 0)), (1, .int i), (2, .long digest)]) hx hb dX0_linkFor_19 hl (by decide) rfl (fun ls hl => ?_)
    refine lv_iload hx hb dX0_linkFor_21 (lv_at hl 0 rfl) ?_
    refine lv_iconst (v := 4) hx hb dX0_linkFor_23 (by decide) ?_
    refine lv_icmp_ge (tgt := 48) hx hb dX0_linkFor_24 (by decide) (fun h => absurd h (by decide)) (fun _ => ?_)
    refine lv_lload hx hb dX0_linkFor_27 (lv_at hl 1 rfl) ?_
    refine lv_aload_n hx hb dX0_linkFor_29 rfl (lv_at hl 2 rfl) ?_
    refine lv_iload_n hx hb dX0_linkFor_30 rfl (lv_at hl 3 rfl) ?_
    refine lv_iload hx hb dX0_linkFor_31 (lv_at hl 0 rfl) ?_
    have h_3 : 0 ≤ (i : Int32).toInt ∧ (i : Int32).toInt ≤ 399 := by
      have u_1 := rg_e i
      have k_2 : (0 : Int32).toInt = 0 := rfl
      have v_3 := cv_ne c_1
      have w_4 := hi
      exact by omega
    have h_4 : 0 ≤ (0 : Int32).toInt ∧ (0 : Int32).toInt ≤ 3 := by
      have u_1 := rg_e i
      have k_2 : (0 : Int32).toInt = 0 := rfl
      have v_3 := cv_ne c_1
      have w_4 := hi
      exact by omega
    refine ow_callVi (C := RX0) (T := TX0) (N := 3) (ci := 0) (k := 7) (j := 0) (n := 2) (As := [.int i, .int 0]) (rest := [.long (q.2 9 0 (Int32.toNatClampNeg (i - 1)))]) (r := (m_X0_number q i 0)) (z2 := q) ⟨hx, hb, hml, hown, hts⟩ (c_X0_number l D b0 cA ad mq q i 0 h_3 h_4) (PO_k7) rfl gX0_linkFor_X0_number rfl (by decide +kernel) rfl ⟨Nat.le_of_ble_eq_true rfl, Nat.le_of_ble_eq_true rfl⟩ ⟨Nat.le_of_ble_eq_true rfl, Nat.le_of_ble_eq_true rfl⟩ hK hW hS hKD hl.1 rfl (Nat.le_of_ble_eq_true rfl) dX0_linkFor_33 (fun H locs hW hS => ?_)
    refine lv_i2l (v := ((m_X0_number q i 0) : Int32).toInt64) hx hb dX0_linkFor_36 rfl ?_
    refine ow_callSl (n := 2) (As := [.long (q.2 9 0 (Int32.toNatClampNeg (i - 1))), .long ((m_X0_number q i 0) : Int32).toInt64]) (rest := []) (r := (m_X0_mix (q.2 9 0 (Int32.toNatClampNeg (i - 1))) ((m_X0_number q i 0) : Int32).toInt64)) (z2 := q) ⟨hx, hb, hml, hown, hts⟩ (c_X0_mix l D b0 cA ad mq q (q.2 9 0 (Int32.toNatClampNeg (i - 1))) ((m_X0_number q i 0) : Int32).toInt64) gX0_linkFor_X0_mix rfl (by decide +kernel) rfl ⟨Nat.le_of_ble_eq_true rfl, Nat.le_of_ble_eq_true rfl⟩ ⟨Nat.le_of_ble_eq_true rfl, Nat.le_of_ble_eq_true rfl⟩ hK hW hS hKD hl.1 rfl (Nat.le_of_ble_eq_true rfl) dX0_linkFor_37 (fun H locs hW hS => ?_)
    refine lv_lstore (lv' := [(4, .long (m_X0_mix (q.2 9 0 (Int32.toNatClampNeg (i - 1))) ((m_X0_number q i 0) : Int32).toInt64)), (6, .int 0), (0, .ref (ad 7 0)), (1, .int i), (2, .long digest)]) hx hb dX0_linkFor_40 hl (by decide) rfl (fun ls hl => ?_)
    refine lv_iinc (v := 1) (lv' := [(6, .int 1), (4, .long (m_X0_mix (q.2 9 0 (Int32.toNatClampNeg (i - 1))) ((m_X0_number q i 0) : Int32).toInt64)), (0, .ref (ad 7 0)), (1, .int i), (2, .long digest)]) hx hb dX0_linkFor_42 hl (k := 1) rfl (by first | rfl | decide) (by decide) rfl (fun ls hl => ?_)
    refine lv_goto (tgt := 21) hx hb dX0_linkFor_45 (by decide) ?_
    refine lv_iload hx hb dX0_linkFor_21 (lv_at hl 0 rfl) ?_
    refine lv_iconst (v := 4) hx hb dX0_linkFor_23 (by decide) ?_
    refine lv_icmp_ge (tgt := 48) hx hb dX0_linkFor_24 (by decide) (fun h => absurd h (by decide)) (fun _ => ?_)
    refine lv_lload hx hb dX0_linkFor_27 (lv_at hl 1 rfl) ?_
    refine lv_aload_n hx hb dX0_linkFor_29 rfl (lv_at hl 2 rfl) ?_
    refine lv_iload_n hx hb dX0_linkFor_30 rfl (lv_at hl 3 rfl) ?_
    refine lv_iload hx hb dX0_linkFor_31 (lv_at hl 0 rfl) ?_
    have h_5 : 0 ≤ (i : Int32).toInt ∧ (i : Int32).toInt ≤ 399 := by
      have u_1 := rg_e i
      have k_2 : (1 : Int32).toInt = 1 := rfl
      have k_3 : (0 : Int32).toInt = 0 := rfl
      have v_4 := cv_ne c_1
      have w_5 := hi
      exact by omega
    have h_6 : 0 ≤ (1 : Int32).toInt ∧ (1 : Int32).toInt ≤ 3 := by
      have u_1 := rg_e i
      have k_2 : (1 : Int32).toInt = 1 := rfl
      have k_3 : (0 : Int32).toInt = 0 := rfl
      have v_4 := cv_ne c_1
      have w_5 := hi
      exact by omega
    refine ow_callVi (C := RX0) (T := TX0) (N := 3) (ci := 0) (k := 7) (j := 0) (n := 2) (As := [.int i, .int 1]) (rest := [.long (m_X0_mix (q.2 9 0 (Int32.toNatClampNeg (i - 1))) ((m_X0_number q i 0) : Int32).toInt64)]) (r := (m_X0_number q i 1)) (z2 := q) ⟨hx, hb, hml, hown, hts⟩ (c_X0_number l D b0 cA ad mq q i 1 h_5 h_6) (PO_k7) rfl gX0_linkFor_X0_number rfl (by decide +kernel) rfl ⟨Nat.le_of_ble_eq_true rfl, Nat.le_of_ble_eq_true rfl⟩ ⟨Nat.le_of_ble_eq_true rfl, Nat.le_of_ble_eq_true rfl⟩ hK hW hS hKD hl.1 rfl (Nat.le_of_ble_eq_true rfl) dX0_linkFor_33 (fun H locs hW hS => ?_)
    refine lv_i2l (v := ((m_X0_number q i 1) : Int32).toInt64) hx hb dX0_linkFor_36 rfl ?_
    refine ow_callSl (n := 2) (As := [.long (m_X0_mix (q.2 9 0 (Int32.toNatClampNeg (i - 1))) ((m_X0_number q i 0) : Int32).toInt64), .long ((m_X0_number q i 1) : Int32).toInt64]) (rest := []) (r := (m_X0_mix (m_X0_mix (q.2 9 0 (Int32.toNatClampNeg (i - 1))) ((m_X0_number q i 0) : Int32).toInt64) ((m_X0_number q i 1) : Int32).toInt64)) (z2 := q) ⟨hx, hb, hml, hown, hts⟩ (c_X0_mix l D b0 cA ad mq q (m_X0_mix (q.2 9 0 (Int32.toNatClampNeg (i - 1))) ((m_X0_number q i 0) : Int32).toInt64) ((m_X0_number q i 1) : Int32).toInt64) gX0_linkFor_X0_mix rfl (by decide +kernel) rfl ⟨Nat.le_of_ble_eq_true rfl, Nat.le_of_ble_eq_true rfl⟩ ⟨Nat.le_of_ble_eq_true rfl, Nat.le_of_ble_eq_true rfl⟩ hK hW hS hKD hl.1 rfl (Nat.le_of_ble_eq_true rfl) dX0_linkFor_37 (fun H locs hW hS => ?_)
    refine lv_lstore (lv' := [(4, .long (m_X0_mix (m_X0_mix (q.2 9 0 (Int32.toNatClampNeg (i - 1))) ((m_X0_number q i 0) : Int32).toInt64) ((m_X0_number q i 1) : Int32).toInt64)), (6, .int 1), (0, .ref (ad 7 0)), (1, .int i), (2, .long digest)]) hx hb dX0_linkFor_40 hl (by decide) rfl (fun ls hl => ?_)
    refine lv_iinc (v := 2) (lv' := [(6, .int 2), (4, .long (m_X0_mix (m_X0_mix (q.2 9 0 (Int32.toNatClampNeg (i - 1))) ((m_X0_number q i 0) : Int32).toInt64) ((m_X0_number q i 1) : Int32).toInt64)), (0, .ref (ad 7 0)), (1, .int i), (2, .long digest)]) hx hb dX0_linkFor_42 hl (k := 1) rfl (by first | rfl | decide) (by decide) rfl (fun ls hl => ?_)
    refine lv_goto (tgt := 21) hx hb dX0_linkFor_45 (by decide) ?_
    refine lv_iload hx hb dX0_linkFor_21 (lv_at hl 0 rfl) ?_
    refine lv_iconst (v := 4) hx hb dX0_linkFor_23 (by decide) ?_
    refine lv_icmp_ge (tgt := 48) hx hb dX0_linkFor_24 (by decide) (fun h => absurd h (by decide)) (fun _ => ?_)
    refine lv_lload hx hb dX0_linkFor_27 (lv_at hl 1 rfl) ?_
    refine lv_aload_n hx hb dX0_linkFor_29 rfl (lv_at hl 2 rfl) ?_
    refine lv_iload_n hx hb dX0_linkFor_30 rfl (lv_at hl 3 rfl) ?_
    refine lv_iload hx hb dX0_linkFor_31 (lv_at hl 0 rfl) ?_
    have h_7 : 0 ≤ (i : Int32).toInt ∧ (i : Int32).toInt ≤ 399 := by
      have u_1 := rg_e i
      have k_2 : (2 : Int32).toInt = 2 := rfl
      have k_3 : (0 : Int32).toInt = 0 := rfl
      have v_4 := cv_ne c_1
      have w_5 := hi
      exact by omega
    have h_8 : 0 ≤ (2 : Int32).toInt ∧ (2 : Int32).toInt ≤ 3 := by
      have u_1 := rg_e i
      have k_2 : (2 : Int32).toInt = 2 := rfl
      have k_3 : (0 : Int32).toInt = 0 := rfl
      have v_4 := cv_ne c_1
      have w_5 := hi
      exact by omega
    refine ow_callVi (C := RX0) (T := TX0) (N := 3) (ci := 0) (k := 7) (j := 0) (n := 2) (As := [.int i, .int 2]) (rest := [.long (m_X0_mix (m_X0_mix (q.2 9 0 (Int32.toNatClampNeg (i - 1))) ((m_X0_number q i 0) : Int32).toInt64) ((m_X0_number q i 1) : Int32).toInt64)]) (r := (m_X0_number q i 2)) (z2 := q) ⟨hx, hb, hml, hown, hts⟩ (c_X0_number l D b0 cA ad mq q i 2 h_7 h_8) (PO_k7) rfl gX0_linkFor_X0_number rfl (by decide +kernel) rfl ⟨Nat.le_of_ble_eq_true rfl, Nat.le_of_ble_eq_true rfl⟩ ⟨Nat.le_of_ble_eq_true rfl, Nat.le_of_ble_eq_true rfl⟩ hK hW hS hKD hl.1 rfl (Nat.le_of_ble_eq_true rfl) dX0_linkFor_33 (fun H locs hW hS => ?_)
    refine lv_i2l (v := ((m_X0_number q i 2) : Int32).toInt64) hx hb dX0_linkFor_36 rfl ?_
    refine ow_callSl (n := 2) (As := [.long (m_X0_mix (m_X0_mix (q.2 9 0 (Int32.toNatClampNeg (i - 1))) ((m_X0_number q i 0) : Int32).toInt64) ((m_X0_number q i 1) : Int32).toInt64), .long ((m_X0_number q i 2) : Int32).toInt64]) (rest := []) (r := (m_X0_mix (m_X0_mix (m_X0_mix (q.2 9 0 (Int32.toNatClampNeg (i - 1))) ((m_X0_number q i 0) : Int32).toInt64) ((m_X0_number q i 1) : Int32).toInt64) ((m_X0_number q i 2) : Int32).toInt64)) (z2 := q) ⟨hx, hb, hml, hown, hts⟩ (c_X0_mix l D b0 cA ad mq q (m_X0_mix (m_X0_mix (q.2 9 0 (Int32.toNatClampNeg (i - 1))) ((m_X0_number q i 0) : Int32).toInt64) ((m_X0_number q i 1) : Int32).toInt64) ((m_X0_number q i 2) : Int32).toInt64) gX0_linkFor_X0_mix rfl (by decide +kernel) rfl ⟨Nat.le_of_ble_eq_true rfl, Nat.le_of_ble_eq_true rfl⟩ ⟨Nat.le_of_ble_eq_true rfl, Nat.le_of_ble_eq_true rfl⟩ hK hW hS hKD hl.1 rfl (Nat.le_of_ble_eq_true rfl) dX0_linkFor_37 (fun H locs hW hS => ?_)
    refine lv_lstore (lv' := [(4, .long (m_X0_mix (m_X0_mix (m_X0_mix (q.2 9 0 (Int32.toNatClampNeg (i - 1))) ((m_X0_number q i 0) : Int32).toInt64) ((m_X0_number q i 1) : Int32).toInt64) ((m_X0_number q i 2) : Int32).toInt64)), (6, .int 2), (0, .ref (ad 7 0)), (1, .int i), (2, .long digest)]) hx hb dX0_linkFor_40 hl (by decide) rfl (fun ls hl => ?_)
    refine lv_iinc (v := 3) (lv' := [(6, .int 3), (4, .long (m_X0_mix (m_X0_mix (m_X0_mix (q.2 9 0 (Int32.toNatClampNeg (i - 1))) ((m_X0_number q i 0) : Int32).toInt64) ((m_X0_number q i 1) : Int32).toInt64) ((m_X0_number q i 2) : Int32).toInt64)), (0, .ref (ad 7 0)), (1, .int i), (2, .long digest)]) hx hb dX0_linkFor_42 hl (k := 1) rfl (by first | rfl | decide) (by decide) rfl (fun ls hl => ?_)
    refine lv_goto (tgt := 21) hx hb dX0_linkFor_45 (by decide) ?_
    refine lv_iload hx hb dX0_linkFor_21 (lv_at hl 0 rfl) ?_
    refine lv_iconst (v := 4) hx hb dX0_linkFor_23 (by decide) ?_
    refine lv_icmp_ge (tgt := 48) hx hb dX0_linkFor_24 (by decide) (fun h => absurd h (by decide)) (fun _ => ?_)
    refine lv_lload hx hb dX0_linkFor_27 (lv_at hl 1 rfl) ?_
    refine lv_aload_n hx hb dX0_linkFor_29 rfl (lv_at hl 2 rfl) ?_
    refine lv_iload_n hx hb dX0_linkFor_30 rfl (lv_at hl 3 rfl) ?_
    refine lv_iload hx hb dX0_linkFor_31 (lv_at hl 0 rfl) ?_
    have h_9 : 0 ≤ (i : Int32).toInt ∧ (i : Int32).toInt ≤ 399 := by
      have u_1 := rg_e i
      have k_2 : (3 : Int32).toInt = 3 := rfl
      have k_3 : (0 : Int32).toInt = 0 := rfl
      have v_4 := cv_ne c_1
      have w_5 := hi
      exact by omega
    have h_10 : 0 ≤ (3 : Int32).toInt ∧ (3 : Int32).toInt ≤ 3 := by
      have u_1 := rg_e i
      have k_2 : (3 : Int32).toInt = 3 := rfl
      have k_3 : (0 : Int32).toInt = 0 := rfl
      have v_4 := cv_ne c_1
      have w_5 := hi
      exact by omega
    refine ow_callVi (C := RX0) (T := TX0) (N := 3) (ci := 0) (k := 7) (j := 0) (n := 2) (As := [.int i, .int 3]) (rest := [.long (m_X0_mix (m_X0_mix (m_X0_mix (q.2 9 0 (Int32.toNatClampNeg (i - 1))) ((m_X0_number q i 0) : Int32).toInt64) ((m_X0_number q i 1) : Int32).toInt64) ((m_X0_number q i 2) : Int32).toInt64)]) (r := (m_X0_number q i 3)) (z2 := q) ⟨hx, hb, hml, hown, hts⟩ (c_X0_number l D b0 cA ad mq q i 3 h_9 h_10) (PO_k7) rfl gX0_linkFor_X0_number rfl (by decide +kernel) rfl ⟨Nat.le_of_ble_eq_true rfl, Nat.le_of_ble_eq_true rfl⟩ ⟨Nat.le_of_ble_eq_true rfl, Nat.le_of_ble_eq_true rfl⟩ hK hW hS hKD hl.1 rfl (Nat.le_of_ble_eq_true rfl) dX0_linkFor_33 (fun H locs hW hS => ?_)
    refine lv_i2l (v := ((m_X0_number q i 3) : Int32).toInt64) hx hb dX0_linkFor_36 rfl ?_
    refine ow_callSl (n := 2) (As := [.long (m_X0_mix (m_X0_mix (m_X0_mix (q.2 9 0 (Int32.toNatClampNeg (i - 1))) ((m_X0_number q i 0) : Int32).toInt64) ((m_X0_number q i 1) : Int32).toInt64) ((m_X0_number q i 2) : Int32).toInt64), .long ((m_X0_number q i 3) : Int32).toInt64]) (rest := []) (r := (m_X0_mix (m_X0_mix (m_X0_mix (m_X0_mix (q.2 9 0 (Int32.toNatClampNeg (i - 1))) ((m_X0_number q i 0) : Int32).toInt64) ((m_X0_number q i 1) : Int32).toInt64) ((m_X0_number q i 2) : Int32).toInt64) ((m_X0_number q i 3) : Int32).toInt64)) (z2 := q) ⟨hx, hb, hml, hown, hts⟩ (c_X0_mix l D b0 cA ad mq q (m_X0_mix (m_X0_mix (m_X0_mix (q.2 9 0 (Int32.toNatClampNeg (i - 1))) ((m_X0_number q i 0) : Int32).toInt64) ((m_X0_number q i 1) : Int32).toInt64) ((m_X0_number q i 2) : Int32).toInt64) ((m_X0_number q i 3) : Int32).toInt64) gX0_linkFor_X0_mix rfl (by decide +kernel) rfl ⟨Nat.le_of_ble_eq_true rfl, Nat.le_of_ble_eq_true rfl⟩ ⟨Nat.le_of_ble_eq_true rfl, Nat.le_of_ble_eq_true rfl⟩ hK hW hS hKD hl.1 rfl (Nat.le_of_ble_eq_true rfl) dX0_linkFor_37 (fun H locs hW hS => ?_)
    refine lv_lstore (lv' := [(4, .long (m_X0_mix (m_X0_mix (m_X0_mix (m_X0_mix (q.2 9 0 (Int32.toNatClampNeg (i - 1))) ((m_X0_number q i 0) : Int32).toInt64) ((m_X0_number q i 1) : Int32).toInt64) ((m_X0_number q i 2) : Int32).toInt64) ((m_X0_number q i 3) : Int32).toInt64)), (6, .int 3), (0, .ref (ad 7 0)), (1, .int i), (2, .long digest)]) hx hb dX0_linkFor_40 hl (by decide) rfl (fun ls hl => ?_)
    refine lv_iinc (v := 4) (lv' := [(6, .int 4), (4, .long (m_X0_mix (m_X0_mix (m_X0_mix (m_X0_mix (q.2 9 0 (Int32.toNatClampNeg (i - 1))) ((m_X0_number q i 0) : Int32).toInt64) ((m_X0_number q i 1) : Int32).toInt64) ((m_X0_number q i 2) : Int32).toInt64) ((m_X0_number q i 3) : Int32).toInt64)), (0, .ref (ad 7 0)), (1, .int i), (2, .long digest)]) hx hb dX0_linkFor_42 hl (k := 1) rfl (by first | rfl | decide) (by decide) rfl (fun ls hl => ?_)
    refine lv_goto (tgt := 21) hx hb dX0_linkFor_45 (by decide) ?_
    refine lv_iload hx hb dX0_linkFor_21 (lv_at hl 0 rfl) ?_
    refine lv_iconst (v := 4) hx hb dX0_linkFor_23 (by decide) ?_
    refine lv_icmp_ge (tgt := 48) hx hb dX0_linkFor_24 (by decide) (fun _ => ?_) (fun h => absurd h (by decide))
    refine lv_aload_n hx hb dX0_linkFor_48 rfl (lv_at hl 2 rfl) ?_
    refine lv_iload_n hx hb dX0_linkFor_49 rfl (lv_at hl 3 rfl) ?_
    refine lv_iconst (v := 0) hx hb dX0_linkFor_50 (by decide) ?_
    have h_11 : 0 ≤ (i : Int32).toInt ∧ (i : Int32).toInt ≤ 399 := by
      have u_1 := rg_e i
      have k_2 : (0 : Int32).toInt = 0 := rfl
      have v_3 := cv_ne c_1
      have w_4 := hi
      exact by omega
    have h_12 : 0 ≤ (0 : Int32).toInt ∧ (0 : Int32).toInt ≤ 3 := by
      have u_1 := rg_e i
      have k_2 : (0 : Int32).toInt = 0 := rfl
      have v_3 := cv_ne c_1
      have w_4 := hi
      exact by omega
    refine ow_callVi (C := RX0) (T := TX0) (N := 3) (ci := 0) (k := 7) (j := 0) (n := 2) (As := [.int i, .int 0]) (rest := []) (r := (m_X0_number q i 0)) (z2 := q) ⟨hx, hb, hml, hown, hts⟩ (c_X0_number l D b0 cA ad mq q i 0 h_11 h_12) (PO_k7) rfl gX0_linkFor_X0_number rfl (by decide +kernel) rfl ⟨Nat.le_of_ble_eq_true rfl, Nat.le_of_ble_eq_true rfl⟩ ⟨Nat.le_of_ble_eq_true rfl, Nat.le_of_ble_eq_true rfl⟩ hK hW hS hKD hl.1 rfl (Nat.le_of_ble_eq_true rfl) dX0_linkFor_51 (fun H locs hW hS => ?_)
    refine lv_istore (lv' := [(6, .int (m_X0_number q i 0)), (4, .long (m_X0_mix (m_X0_mix (m_X0_mix (m_X0_mix (q.2 9 0 (Int32.toNatClampNeg (i - 1))) ((m_X0_number q i 0) : Int32).toInt64) ((m_X0_number q i 1) : Int32).toInt64) ((m_X0_number q i 2) : Int32).toInt64) ((m_X0_number q i 3) : Int32).toInt64)), (0, .ref (ad 7 0)), (1, .int i), (2, .long digest)]) hx hb dX0_linkFor_54 hl (by decide) rfl (fun ls hl => ?_)
    refine lv_iload hx hb dX0_linkFor_56 (lv_at hl 0 rfl) ?_
    refine lv_iconst (v := 5) hx hb dX0_linkFor_58 (by decide) ?_
    refine lv_icmp_eq (tgt := 69) hx hb dX0_linkFor_59 (by decide) (fun c_13 => ?_) (fun c_13 => ?_)
    · refine lv_lload hx hb dX0_linkFor_69 (lv_at hl 1 rfl) ?_
      refine lv_lload_n hx hb dX0_linkFor_71 rfl (lv_at hl 4 rfl) ?_
      refine ow_callSl (n := 2) (As := [.long (m_X0_mix (m_X0_mix (m_X0_mix (m_X0_mix (q.2 9 0 (Int32.toNatClampNeg (i - 1))) ((m_X0_number q i 0) : Int32).toInt64) ((m_X0_number q i 1) : Int32).toInt64) ((m_X0_number q i 2) : Int32).toInt64) ((m_X0_number q i 3) : Int32).toInt64), .long digest]) (rest := []) (r := (m_X0_mix (m_X0_mix (m_X0_mix (m_X0_mix (m_X0_mix (q.2 9 0 (Int32.toNatClampNeg (i - 1))) ((m_X0_number q i 0) : Int32).toInt64) ((m_X0_number q i 1) : Int32).toInt64) ((m_X0_number q i 2) : Int32).toInt64) ((m_X0_number q i 3) : Int32).toInt64) digest)) (z2 := q) ⟨hx, hb, hml, hown, hts⟩ (c_X0_mix l D b0 cA ad mq q (m_X0_mix (m_X0_mix (m_X0_mix (m_X0_mix (q.2 9 0 (Int32.toNatClampNeg (i - 1))) ((m_X0_number q i 0) : Int32).toInt64) ((m_X0_number q i 1) : Int32).toInt64) ((m_X0_number q i 2) : Int32).toInt64) ((m_X0_number q i 3) : Int32).toInt64) digest) gX0_linkFor_X0_mix rfl (by decide +kernel) rfl ⟨Nat.le_of_ble_eq_true rfl, Nat.le_of_ble_eq_true rfl⟩ ⟨Nat.le_of_ble_eq_true rfl, Nat.le_of_ble_eq_true rfl⟩ hK hW hS hKD hl.1 rfl (Nat.le_of_ble_eq_true rfl) dX0_linkFor_72 (fun H locs hW hS => ?_)
      refine lv_goto (tgt := 80) hx hb dX0_linkFor_75 (by decide) ?_
      exact ow_lret hx hb hr hlk hK hW hS (by rw [m_X0_linkFor, if_neg c_1, if_pos c_13]) dX0_linkFor_80
    · refine lv_iload hx hb dX0_linkFor_62 (lv_at hl 0 rfl) ?_
      refine lv_bipush (v := 11) hx hb dX0_linkFor_64 (by decide) ?_
      refine lv_icmp_ne (tgt := 78) hx hb dX0_linkFor_66 (by decide) (fun c_14 => ?_) (fun c_14 => ?_)
      · refine lv_lload hx hb dX0_linkFor_78 (lv_at hl 1 rfl) ?_
        exact ow_lret hx hb hr hlk hK hW hS (by rw [m_X0_linkFor, if_neg c_1, if_neg c_13, if_neg c_14]) dX0_linkFor_80
      · refine lv_lload hx hb dX0_linkFor_69 (lv_at hl 1 rfl) ?_
        refine lv_lload_n hx hb dX0_linkFor_71 rfl (lv_at hl 4 rfl) ?_
        refine ow_callSl (n := 2) (As := [.long (m_X0_mix (m_X0_mix (m_X0_mix (m_X0_mix (q.2 9 0 (Int32.toNatClampNeg (i - 1))) ((m_X0_number q i 0) : Int32).toInt64) ((m_X0_number q i 1) : Int32).toInt64) ((m_X0_number q i 2) : Int32).toInt64) ((m_X0_number q i 3) : Int32).toInt64), .long digest]) (rest := []) (r := (m_X0_mix (m_X0_mix (m_X0_mix (m_X0_mix (m_X0_mix (q.2 9 0 (Int32.toNatClampNeg (i - 1))) ((m_X0_number q i 0) : Int32).toInt64) ((m_X0_number q i 1) : Int32).toInt64) ((m_X0_number q i 2) : Int32).toInt64) ((m_X0_number q i 3) : Int32).toInt64) digest)) (z2 := q) ⟨hx, hb, hml, hown, hts⟩ (c_X0_mix l D b0 cA ad mq q (m_X0_mix (m_X0_mix (m_X0_mix (m_X0_mix (q.2 9 0 (Int32.toNatClampNeg (i - 1))) ((m_X0_number q i 0) : Int32).toInt64) ((m_X0_number q i 1) : Int32).toInt64) ((m_X0_number q i 2) : Int32).toInt64) ((m_X0_number q i 3) : Int32).toInt64) digest) gX0_linkFor_X0_mix rfl (by decide +kernel) rfl ⟨Nat.le_of_ble_eq_true rfl, Nat.le_of_ble_eq_true rfl⟩ ⟨Nat.le_of_ble_eq_true rfl, Nat.le_of_ble_eq_true rfl⟩ hK hW hS hKD hl.1 rfl (Nat.le_of_ble_eq_true rfl) dX0_linkFor_72 (fun H locs hW hS => ?_)
        refine lv_goto (tgt := 80) hx hb dX0_linkFor_75 (by decide) ?_
        exact ow_lret hx hb hr hlk hK hW hS (by rw [m_X0_linkFor, if_neg c_1, if_neg c_13, if_pos c_14]) dX0_linkFor_80
  · refine lv_lconst (v := 0) hx hb dX0_linkFor_4 (by decide) ?_
    refine lv_goto (tgt := 16) hx hb dX0_linkFor_5 (by decide) ?_
    refine lv_lstore (lv' := [(4, .long 0), (0, .ref (ad 7 0)), (1, .int i), (2, .long digest)]) hx hb dX0_linkFor_16 hl (by decide) rfl (fun ls hl => ?_)
    refine lv_iconst (v := 0) hx hb dX0_linkFor_18 (by decide) ?_
    refine lv_istore (lv' := [(6, .int 0), (4, .long 0), (0, .ref (ad 7 0)), (1, .int i), (2, .long digest)]) hx hb dX0_linkFor_19 hl (by decide) rfl (fun ls hl => ?_)
    refine lv_iload hx hb dX0_linkFor_21 (lv_at hl 0 rfl) ?_
    refine lv_iconst (v := 4) hx hb dX0_linkFor_23 (by decide) ?_
    refine lv_icmp_ge (tgt := 48) hx hb dX0_linkFor_24 (by decide) (fun h => absurd h (by decide)) (fun _ => ?_)
    refine lv_lload hx hb dX0_linkFor_27 (lv_at hl 1 rfl) ?_
    refine lv_aload_n hx hb dX0_linkFor_29 rfl (lv_at hl 2 rfl) ?_
    refine lv_iload_n hx hb dX0_linkFor_30 rfl (lv_at hl 3 rfl) ?_
    refine lv_iload hx hb dX0_linkFor_31 (lv_at hl 0 rfl) ?_
    have h_15 : 0 ≤ (i : Int32).toInt ∧ (i : Int32).toInt ≤ 399 := by
      have u_1 := rg_e i
      have k_2 : (0 : Int32).toInt = 0 := rfl
      have v_3 := cv_eq c_1
      have w_4 := hi
      exact by omega
    have h_16 : 0 ≤ (0 : Int32).toInt ∧ (0 : Int32).toInt ≤ 3 := by
      have u_1 := rg_e i
      have k_2 : (0 : Int32).toInt = 0 := rfl
      have v_3 := cv_eq c_1
      have w_4 := hi
      exact by omega
    refine ow_callVi (C := RX0) (T := TX0) (N := 3) (ci := 0) (k := 7) (j := 0) (n := 2) (As := [.int i, .int 0]) (rest := [.long 0]) (r := (m_X0_number q i 0)) (z2 := q) ⟨hx, hb, hml, hown, hts⟩ (c_X0_number l D b0 cA ad mq q i 0 h_15 h_16) (PO_k7) rfl gX0_linkFor_X0_number rfl (by decide +kernel) rfl ⟨Nat.le_of_ble_eq_true rfl, Nat.le_of_ble_eq_true rfl⟩ ⟨Nat.le_of_ble_eq_true rfl, Nat.le_of_ble_eq_true rfl⟩ hK hW hS hKD hl.1 rfl (Nat.le_of_ble_eq_true rfl) dX0_linkFor_33 (fun H locs hW hS => ?_)
    refine lv_i2l (v := ((m_X0_number q i 0) : Int32).toInt64) hx hb dX0_linkFor_36 rfl ?_
    refine ow_callSl (n := 2) (As := [.long 0, .long ((m_X0_number q i 0) : Int32).toInt64]) (rest := []) (r := (m_X0_mix 0 ((m_X0_number q i 0) : Int32).toInt64)) (z2 := q) ⟨hx, hb, hml, hown, hts⟩ (c_X0_mix l D b0 cA ad mq q 0 ((m_X0_number q i 0) : Int32).toInt64) gX0_linkFor_X0_mix rfl (by decide +kernel) rfl ⟨Nat.le_of_ble_eq_true rfl, Nat.le_of_ble_eq_true rfl⟩ ⟨Nat.le_of_ble_eq_true rfl, Nat.le_of_ble_eq_true rfl⟩ hK hW hS hKD hl.1 rfl (Nat.le_of_ble_eq_true rfl) dX0_linkFor_37 (fun H locs hW hS => ?_)
    refine lv_lstore (lv' := [(4, .long (m_X0_mix 0 ((m_X0_number q i 0) : Int32).toInt64)), (6, .int 0), (0, .ref (ad 7 0)), (1, .int i), (2, .long digest)]) hx hb dX0_linkFor_40 hl (by decide) rfl (fun ls hl => ?_)
    refine lv_iinc (v := 1) (lv' := [(6, .int 1), (4, .long (m_X0_mix 0 ((m_X0_number q i 0) : Int32).toInt64)), (0, .ref (ad 7 0)), (1, .int i), (2, .long digest)]) hx hb dX0_linkFor_42 hl (k := 1) rfl (by first | rfl | decide) (by decide) rfl (fun ls hl => ?_)
    refine lv_goto (tgt := 21) hx hb dX0_linkFor_45 (by decide) ?_
    refine lv_iload hx hb dX0_linkFor_21 (lv_at hl 0 rfl) ?_
    refine lv_iconst (v := 4) hx hb dX0_linkFor_23 (by decide) ?_
    refine lv_icmp_ge (tgt := 48) hx hb dX0_linkFor_24 (by decide) (fun h => absurd h (by decide)) (fun _ => ?_)
    refine lv_lload hx hb dX0_linkFor_27 (lv_at hl 1 rfl) ?_
    refine lv_aload_n hx hb dX0_linkFor_29 rfl (lv_at hl 2 rfl) ?_
    refine lv_iload_n hx hb dX0_linkFor_30 rfl (lv_at hl 3 rfl) ?_
    refine lv_iload hx hb dX0_linkFor_31 (lv_at hl 0 rfl) ?_
    have h_17 : 0 ≤ (i : Int32).toInt ∧ (i : Int32).toInt ≤ 399 := by
      have u_1 := rg_e i
      have k_2 : (1 : Int32).toInt = 1 := rfl
      have k_3 : (0 : Int32).toInt = 0 := rfl
      have v_4 := cv_eq c_1
      have w_5 := hi
      exact by omega
    have h_18 : 0 ≤ (1 : Int32).toInt ∧ (1 : Int32).toInt ≤ 3 := by
      have u_1 := rg_e i
      have k_2 : (1 : Int32).toInt = 1 := rfl
      have k_3 : (0 : Int32).toInt = 0 := rfl
      have v_4 := cv_eq c_1
      have w_5 := hi
      exact by omega
    refine ow_callVi (C := RX0) (T := TX0) (N := 3) (ci := 0) (k := 7) (j := 0) (n := 2) (As := [.int i, .int 1]) (rest := [.long (m_X0_mix 0 ((m_X0_number q i 0) : Int32).toInt64)]) (r := (m_X0_number q i 1)) (z2 := q) ⟨hx, hb, hml, hown, hts⟩ (c_X0_number l D b0 cA ad mq q i 1 h_17 h_18) (PO_k7) rfl gX0_linkFor_X0_number rfl (by decide +kernel) rfl ⟨Nat.le_of_ble_eq_true rfl, Nat.le_of_ble_eq_true rfl⟩ ⟨Nat.le_of_ble_eq_true rfl, Nat.le_of_ble_eq_true rfl⟩ hK hW hS hKD hl.1 rfl (Nat.le_of_ble_eq_true rfl) dX0_linkFor_33 (fun H locs hW hS => ?_)
    refine lv_i2l (v := ((m_X0_number q i 1) : Int32).toInt64) hx hb dX0_linkFor_36 rfl ?_
    refine ow_callSl (n := 2) (As := [.long (m_X0_mix 0 ((m_X0_number q i 0) : Int32).toInt64), .long ((m_X0_number q i 1) : Int32).toInt64]) (rest := []) (r := (m_X0_mix (m_X0_mix 0 ((m_X0_number q i 0) : Int32).toInt64) ((m_X0_number q i 1) : Int32).toInt64)) (z2 := q) ⟨hx, hb, hml, hown, hts⟩ (c_X0_mix l D b0 cA ad mq q (m_X0_mix 0 ((m_X0_number q i 0) : Int32).toInt64) ((m_X0_number q i 1) : Int32).toInt64) gX0_linkFor_X0_mix rfl (by decide +kernel) rfl ⟨Nat.le_of_ble_eq_true rfl, Nat.le_of_ble_eq_true rfl⟩ ⟨Nat.le_of_ble_eq_true rfl, Nat.le_of_ble_eq_true rfl⟩ hK hW hS hKD hl.1 rfl (Nat.le_of_ble_eq_true rfl) dX0_linkFor_37 (fun H locs hW hS => ?_)
    refine lv_lstore (lv' := [(4, .long (m_X0_mix (m_X0_mix 0 ((m_X0_number q i 0) : Int32).toInt64) ((m_X0_number q i 1) : Int32).toInt64)), (6, .int 1), (0, .ref (ad 7 0)), (1, .int i), (2, .long digest)]) hx hb dX0_linkFor_40 hl (by decide) rfl (fun ls hl => ?_)
    refine lv_iinc (v := 2) (lv' := [(6, .int 2), (4, .long (m_X0_mix (m_X0_mix 0 ((m_X0_number q i 0) : Int32).toInt64) ((m_X0_number q i 1) : Int32).toInt64)), (0, .ref (ad 7 0)), (1, .int i), (2, .long digest)]) hx hb dX0_linkFor_42 hl (k := 1) rfl (by first | rfl | decide) (by decide) rfl (fun ls hl => ?_)
    refine lv_goto (tgt := 21) hx hb dX0_linkFor_45 (by decide) ?_
    refine lv_iload hx hb dX0_linkFor_21 (lv_at hl 0 rfl) ?_
    refine lv_iconst (v := 4) hx hb dX0_linkFor_23 (by decide) ?_
    refine lv_icmp_ge (tgt := 48) hx hb dX0_linkFor_24 (by decide) (fun h => absurd h (by decide)) (fun _ => ?_)
    refine lv_lload hx hb dX0_linkFor_27 (lv_at hl 1 rfl) ?_
    refine lv_aload_n hx hb dX0_linkFor_29 rfl (lv_at hl 2 rfl) ?_
    refine lv_iload_n hx hb dX0_linkFor_30 rfl (lv_at hl 3 rfl) ?_
    refine lv_iload hx hb dX0_linkFor_31 (lv_at hl 0 rfl) ?_
    have h_19 : 0 ≤ (i : Int32).toInt ∧ (i : Int32).toInt ≤ 399 := by
      have u_1 := rg_e i
      have k_2 : (2 : Int32).toInt = 2 := rfl
      have k_3 : (0 : Int32).toInt = 0 := rfl
      have v_4 := cv_eq c_1
      have w_5 := hi
      exact by omega
    have h_20 : 0 ≤ (2 : Int32).toInt ∧ (2 : Int32).toInt ≤ 3 := by
      have u_1 := rg_e i
      have k_2 : (2 : Int32).toInt = 2 := rfl
      have k_3 : (0 : Int32).toInt = 0 := rfl
      have v_4 := cv_eq c_1
      have w_5 := hi
      exact by omega
    refine ow_callVi (C := RX0) (T := TX0) (N := 3) (ci := 0) (k := 7) (j := 0) (n := 2) (As := [.int i, .int 2]) (rest := [.long (m_X0_mix (m_X0_mix 0 ((m_X0_number q i 0) : Int32).toInt64) ((m_X0_number q i 1) : Int32).toInt64)]) (r := (m_X0_number q i 2)) (z2 := q) ⟨hx, hb, hml, hown, hts⟩ (c_X0_number l D b0 cA ad mq q i 2 h_19 h_20) (PO_k7) rfl gX0_linkFor_X0_number rfl (by decide +kernel) rfl ⟨Nat.le_of_ble_eq_true rfl, Nat.le_of_ble_eq_true rfl⟩ ⟨Nat.le_of_ble_eq_true rfl, Nat.le_of_ble_eq_true rfl⟩ hK hW hS hKD hl.1 rfl (Nat.le_of_ble_eq_true rfl) dX0_linkFor_33 (fun H locs hW hS => ?_)
    refine lv_i2l (v := ((m_X0_number q i 2) : Int32).toInt64) hx hb dX0_linkFor_36 rfl ?_
    refine ow_callSl (n := 2) (As := [.long (m_X0_mix (m_X0_mix 0 ((m_X0_number q i 0) : Int32).toInt64) ((m_X0_number q i 1) : Int32).toInt64), .long ((m_X0_number q i 2) : Int32).toInt64]) (rest := []) (r := (m_X0_mix (m_X0_mix (m_X0_mix 0 ((m_X0_number q i 0) : Int32).toInt64) ((m_X0_number q i 1) : Int32).toInt64) ((m_X0_number q i 2) : Int32).toInt64)) (z2 := q) ⟨hx, hb, hml, hown, hts⟩ (c_X0_mix l D b0 cA ad mq q (m_X0_mix (m_X0_mix 0 ((m_X0_number q i 0) : Int32).toInt64) ((m_X0_number q i 1) : Int32).toInt64) ((m_X0_number q i 2) : Int32).toInt64) gX0_linkFor_X0_mix rfl (by decide +kernel) rfl ⟨Nat.le_of_ble_eq_true rfl, Nat.le_of_ble_eq_true rfl⟩ ⟨Nat.le_of_ble_eq_true rfl, Nat.le_of_ble_eq_true rfl⟩ hK hW hS hKD hl.1 rfl (Nat.le_of_ble_eq_true rfl) dX0_linkFor_37 (fun H locs hW hS => ?_)
    refine lv_lstore (lv' := [(4, .long (m_X0_mix (m_X0_mix (m_X0_mix 0 ((m_X0_number q i 0) : Int32).toInt64) ((m_X0_number q i 1) : Int32).toInt64) ((m_X0_number q i 2) : Int32).toInt64)), (6, .int 2), (0, .ref (ad 7 0)), (1, .int i), (2, .long digest)]) hx hb dX0_linkFor_40 hl (by decide) rfl (fun ls hl => ?_)
    refine lv_iinc (v := 3) (lv' := [(6, .int 3), (4, .long (m_X0_mix (m_X0_mix (m_X0_mix 0 ((m_X0_number q i 0) : Int32).toInt64) ((m_X0_number q i 1) : Int32).toInt64) ((m_X0_number q i 2) : Int32).toInt64)), (0, .ref (ad 7 0)), (1, .int i), (2, .long digest)]) hx hb dX0_linkFor_42 hl (k := 1) rfl (by first | rfl | decide) (by decide) rfl (fun ls hl => ?_)
    refine lv_goto (tgt := 21) hx hb dX0_linkFor_45 (by decide) ?_
    refine lv_iload hx hb dX0_linkFor_21 (lv_at hl 0 rfl) ?_
    refine lv_iconst (v := 4) hx hb dX0_linkFor_23 (by decide) ?_
    refine lv_icmp_ge (tgt := 48) hx hb dX0_linkFor_24 (by decide) (fun h => absurd h (by decide)) (fun _ => ?_)
    refine lv_lload hx hb dX0_linkFor_27 (lv_at hl 1 rfl) ?_
    refine lv_aload_n hx hb dX0_linkFor_29 rfl (lv_at hl 2 rfl) ?_
    refine lv_iload_n hx hb dX0_linkFor_30 rfl (lv_at hl 3 rfl) ?_
    refine lv_iload hx hb dX0_linkFor_31 (lv_at hl 0 rfl) ?_
    have h_21 : 0 ≤ (i : Int32).toInt ∧ (i : Int32).toInt ≤ 399 := by
      have u_1 := rg_e i
      have k_2 : (3 : Int32).toInt = 3 := rfl
      have k_3 : (0 : Int32).toInt = 0 := rfl
      have v_4 := cv_eq c_1
      have w_5 := hi
      exact by omega
    have h_22 : 0 ≤ (3 : Int32).toInt ∧ (3 : Int32).toInt ≤ 3 := by
      have u_1 := rg_e i
      have k_2 : (3 : Int32).toInt = 3 := rfl
      have k_3 : (0 : Int32).toInt = 0 := rfl
      have v_4 := cv_eq c_1
      have w_5 := hi
      exact by omega
    refine ow_callVi (C := RX0) (T := TX0) (N := 3) (ci := 0) (k := 7) (j := 0) (n := 2) (As := [.int i, .int 3]) (rest := [.long (m_X0_mix (m_X0_mix (m_X0_mix 0 ((m_X0_number q i 0) : Int32).toInt64) ((m_X0_number q i 1) : Int32).toInt64) ((m_X0_number q i 2) : Int32).toInt64)]) (r := (m_X0_number q i 3)) (z2 := q) ⟨hx, hb, hml, hown, hts⟩ (c_X0_number l D b0 cA ad mq q i 3 h_21 h_22) (PO_k7) rfl gX0_linkFor_X0_number rfl (by decide +kernel) rfl ⟨Nat.le_of_ble_eq_true rfl, Nat.le_of_ble_eq_true rfl⟩ ⟨Nat.le_of_ble_eq_true rfl, Nat.le_of_ble_eq_true rfl⟩ hK hW hS hKD hl.1 rfl (Nat.le_of_ble_eq_true rfl) dX0_linkFor_33 (fun H locs hW hS => ?_)
    refine lv_i2l (v := ((m_X0_number q i 3) : Int32).toInt64) hx hb dX0_linkFor_36 rfl ?_
    refine ow_callSl (n := 2) (As := [.long (m_X0_mix (m_X0_mix (m_X0_mix 0 ((m_X0_number q i 0) : Int32).toInt64) ((m_X0_number q i 1) : Int32).toInt64) ((m_X0_number q i 2) : Int32).toInt64), .long ((m_X0_number q i 3) : Int32).toInt64]) (rest := []) (r := (m_X0_mix (m_X0_mix (m_X0_mix (m_X0_mix 0 ((m_X0_number q i 0) : Int32).toInt64) ((m_X0_number q i 1) : Int32).toInt64) ((m_X0_number q i 2) : Int32).toInt64) ((m_X0_number q i 3) : Int32).toInt64)) (z2 := q) ⟨hx, hb, hml, hown, hts⟩ (c_X0_mix l D b0 cA ad mq q (m_X0_mix (m_X0_mix (m_X0_mix 0 ((m_X0_number q i 0) : Int32).toInt64) ((m_X0_number q i 1) : Int32).toInt64) ((m_X0_number q i 2) : Int32).toInt64) ((m_X0_number q i 3) : Int32).toInt64) gX0_linkFor_X0_mix rfl (by decide +kernel) rfl ⟨Nat.le_of_ble_eq_true rfl, Nat.le_of_ble_eq_true rfl⟩ ⟨Nat.le_of_ble_eq_true rfl, Nat.le_of_ble_eq_true rfl⟩ hK hW hS hKD hl.1 rfl (Nat.le_of_ble_eq_true rfl) dX0_linkFor_37 (fun H locs hW hS => ?_)
    refine lv_lstore (lv' := [(4, .long (m_X0_mix (m_X0_mix (m_X0_mix (m_X0_mix 0 ((m_X0_number q i 0) : Int32).toInt64) ((m_X0_number q i 1) : Int32).toInt64) ((m_X0_number q i 2) : Int32).toInt64) ((m_X0_number q i 3) : Int32).toInt64)), (6, .int 3), (0, .ref (ad 7 0)), (1, .int i), (2, .long digest)]) hx hb dX0_linkFor_40 hl (by decide) rfl (fun ls hl => ?_)
    refine lv_iinc (v := 4) (lv' := [(6, .int 4), (4, .long (m_X0_mix (m_X0_mix (m_X0_mix (m_X0_mix 0 ((m_X0_number q i 0) : Int32).toInt64) ((m_X0_number q i 1) : Int32).toInt64) ((m_X0_number q i 2) : Int32).toInt64) ((m_X0_number q i 3) : Int32).toInt64)), (0, .ref (ad 7 0)), (1, .int i), (2, .long digest)]) hx hb dX0_linkFor_42 hl (k := 1) rfl (by first | rfl | decide) (by decide) rfl (fun ls hl => ?_)
    refine lv_goto (tgt := 21) hx hb dX0_linkFor_45 (by decide) ?_
    refine lv_iload hx hb dX0_linkFor_21 (lv_at hl 0 rfl) ?_
    refine lv_iconst (v := 4) hx hb dX0_linkFor_23 (by decide) ?_
    refine lv_icmp_ge (tgt := 48) hx hb dX0_linkFor_24 (by decide) (fun _ => ?_) (fun h => absurd h (by decide))
    refine lv_aload_n hx hb dX0_linkFor_48 rfl (lv_at hl 2 rfl) ?_
    refine lv_iload_n hx hb dX0_linkFor_49 rfl (lv_at hl 3 rfl) ?_
    refine lv_iconst (v := 0) hx hb dX0_linkFor_50 (by decide) ?_
    have h_23 : 0 ≤ (i : Int32).toInt ∧ (i : Int32).toInt ≤ 399 := by
      have u_1 := rg_e i
      have k_2 : (0 : Int32).toInt = 0 := rfl
      have v_3 := cv_eq c_1
      have w_4 := hi
      exact by omega
    have h_24 : 0 ≤ (0 : Int32).toInt ∧ (0 : Int32).toInt ≤ 3 := by
      have u_1 := rg_e i
      have k_2 : (0 : Int32).toInt = 0 := rfl
      have v_3 := cv_eq c_1
      have w_4 := hi
      exact by omega
    refine ow_callVi (C := RX0) (T := TX0) (N := 3) (ci := 0) (k := 7) (j := 0) (n := 2) (As := [.int i, .int 0]) (rest := []) (r := (m_X0_number q i 0)) (z2 := q) ⟨hx, hb, hml, hown, hts⟩ (c_X0_number l D b0 cA ad mq q i 0 h_23 h_24) (PO_k7) rfl gX0_linkFor_X0_number rfl (by decide +kernel) rfl ⟨Nat.le_of_ble_eq_true rfl, Nat.le_of_ble_eq_true rfl⟩ ⟨Nat.le_of_ble_eq_true rfl, Nat.le_of_ble_eq_true rfl⟩ hK hW hS hKD hl.1 rfl (Nat.le_of_ble_eq_true rfl) dX0_linkFor_51 (fun H locs hW hS => ?_)
    refine lv_istore (lv' := [(6, .int (m_X0_number q i 0)), (4, .long (m_X0_mix (m_X0_mix (m_X0_mix (m_X0_mix 0 ((m_X0_number q i 0) : Int32).toInt64) ((m_X0_number q i 1) : Int32).toInt64) ((m_X0_number q i 2) : Int32).toInt64) ((m_X0_number q i 3) : Int32).toInt64)), (0, .ref (ad 7 0)), (1, .int i), (2, .long digest)]) hx hb dX0_linkFor_54 hl (by decide) rfl (fun ls hl => ?_)
    refine lv_iload hx hb dX0_linkFor_56 (lv_at hl 0 rfl) ?_
    refine lv_iconst (v := 5) hx hb dX0_linkFor_58 (by decide) ?_
    refine lv_icmp_eq (tgt := 69) hx hb dX0_linkFor_59 (by decide) (fun c_25 => ?_) (fun c_25 => ?_)
    · refine lv_lload hx hb dX0_linkFor_69 (lv_at hl 1 rfl) ?_
      refine lv_lload_n hx hb dX0_linkFor_71 rfl (lv_at hl 4 rfl) ?_
      refine ow_callSl (n := 2) (As := [.long (m_X0_mix (m_X0_mix (m_X0_mix (m_X0_mix 0 ((m_X0_number q i 0) : Int32).toInt64) ((m_X0_number q i 1) : Int32).toInt64) ((m_X0_number q i 2) : Int32).toInt64) ((m_X0_number q i 3) : Int32).toInt64), .long digest]) (rest := []) (r := (m_X0_mix (m_X0_mix (m_X0_mix (m_X0_mix (m_X0_mix 0 ((m_X0_number q i 0) : Int32).toInt64) ((m_X0_number q i 1) : Int32).toInt64) ((m_X0_number q i 2) : Int32).toInt64) ((m_X0_number q i 3) : Int32).toInt64) digest)) (z2 := q) ⟨hx, hb, hml, hown, hts⟩ (c_X0_mix l D b0 cA ad mq q (m_X0_mix (m_X0_mix (m_X0_mix (m_X0_mix 0 ((m_X0_number q i 0) : Int32).toInt64) ((m_X0_number q i 1) : Int32).toInt64) ((m_X0_number q i 2) : Int32).toInt64) ((m_X0_number q i 3) : Int32).toInt64) digest) gX0_linkFor_X0_mix rfl (by decide +kernel) rfl ⟨Nat.le_of_ble_eq_true rfl, Nat.le_of_ble_eq_true rfl⟩ ⟨Nat.le_of_ble_eq_true rfl, Nat.le_of_ble_eq_true rfl⟩ hK hW hS hKD hl.1 rfl (Nat.le_of_ble_eq_true rfl) dX0_linkFor_72 (fun H locs hW hS => ?_)
      refine lv_goto (tgt := 80) hx hb dX0_linkFor_75 (by decide) ?_
      exact ow_lret hx hb hr hlk hK hW hS (by rw [m_X0_linkFor, if_pos c_1, if_pos c_25]) dX0_linkFor_80
    · refine lv_iload hx hb dX0_linkFor_62 (lv_at hl 0 rfl) ?_
      refine lv_bipush (v := 11) hx hb dX0_linkFor_64 (by decide) ?_
      refine lv_icmp_ne (tgt := 78) hx hb dX0_linkFor_66 (by decide) (fun c_26 => ?_) (fun c_26 => ?_)
      · refine lv_lload hx hb dX0_linkFor_78 (lv_at hl 1 rfl) ?_
        exact ow_lret hx hb hr hlk hK hW hS (by rw [m_X0_linkFor, if_pos c_1, if_neg c_25, if_neg c_26]) dX0_linkFor_80
      · refine lv_lload hx hb dX0_linkFor_69 (lv_at hl 1 rfl) ?_
        refine lv_lload_n hx hb dX0_linkFor_71 rfl (lv_at hl 4 rfl) ?_
        refine ow_callSl (n := 2) (As := [.long (m_X0_mix (m_X0_mix (m_X0_mix (m_X0_mix 0 ((m_X0_number q i 0) : Int32).toInt64) ((m_X0_number q i 1) : Int32).toInt64) ((m_X0_number q i 2) : Int32).toInt64) ((m_X0_number q i 3) : Int32).toInt64), .long digest]) (rest := []) (r := (m_X0_mix (m_X0_mix (m_X0_mix (m_X0_mix (m_X0_mix 0 ((m_X0_number q i 0) : Int32).toInt64) ((m_X0_number q i 1) : Int32).toInt64) ((m_X0_number q i 2) : Int32).toInt64) ((m_X0_number q i 3) : Int32).toInt64) digest)) (z2 := q) ⟨hx, hb, hml, hown, hts⟩ (c_X0_mix l D b0 cA ad mq q (m_X0_mix (m_X0_mix (m_X0_mix (m_X0_mix 0 ((m_X0_number q i 0) : Int32).toInt64) ((m_X0_number q i 1) : Int32).toInt64) ((m_X0_number q i 2) : Int32).toInt64) ((m_X0_number q i 3) : Int32).toInt64) digest) gX0_linkFor_X0_mix rfl (by decide +kernel) rfl ⟨Nat.le_of_ble_eq_true rfl, Nat.le_of_ble_eq_true rfl⟩ ⟨Nat.le_of_ble_eq_true rfl, Nat.le_of_ble_eq_true rfl⟩ hK hW hS hKD hl.1 rfl (Nat.le_of_ble_eq_true rfl) dX0_linkFor_72 (fun H locs hW hS => ?_)
        refine lv_goto (tgt := 80) hx hb dX0_linkFor_75 (by decide) ?_
        exact ow_lret hx hb hr hlk hK hW hS (by rw [m_X0_linkFor, if_pos c_1, if_neg c_25, if_pos c_26]) dX0_linkFor_80

def m_X0_write (q : qC) (kind : Int32) (na : Int32) (nb : Int32) (nc : Int32) (digest : Int64) : qC := (cq_i (cq_l (m_X0_setNumber (m_X0_setNumber (m_X0_setNumber (m_X0_setNumber q (q.1 7 0 2) 0 kind) (q.1 7 0 2) 1 na) (q.1 7 0 2) 2 nb) (q.1 7 0 2) 3 nc) 9 0 (Int32.toNatClampNeg (q.1 7 0 2)) (m_X0_linkFor (m_X0_setNumber (m_X0_setNumber (m_X0_setNumber (m_X0_setNumber q (q.1 7 0 2) 0 kind) (q.1 7 0 2) 1 na) (q.1 7 0 2) 2 nb) (q.1 7 0 2) 3 nc) (q.1 7 0 2) digest)) 7 0 2 (((m_X0_setNumber (m_X0_setNumber (m_X0_setNumber (m_X0_setNumber q (q.1 7 0 2) 0 kind) (q.1 7 0 2) 1 na) (q.1 7 0 2) 2 nb) (q.1 7 0 2) 3 nc).1 7 0 2) + 1))
set_option maxHeartbeats 4000000 in
set_option maxRecDepth 100000 in
theorem c_X0_write (l : Launch) (D : va_G) (b0 : Nat) (cA : Nat → ClassId) (ad : Nat → Nat → Nat) (mq : qM) (q : qC) (kind : Int32) (na : Int32) (nb : Int32) (nc : Int32) (digest : Int64) (hs : 0 ≤ (q.1 7 0 2).toInt ∧ (q.1 7 0 2).toInt ≤ 399) : cc_v l yX0_write wsX0_write 2 51 D b0 cA ad mq q [.ref (ad 7 0), .int kind, .int na, .int nb, .int nc, .long digest] (m_X0_write q kind na nb nc digest) := by
  refine cc_of (by decide) rfl (Nat.le_of_ble_eq_true rfl) ?_
  intro p e s m below meth c hx hb hml hr hlk hown hts hK hW hKD ls hl
  have hown : s.vm.findClass RX0 = some m.cls := hown
  have hS : va_S (wA b0) s.heap s.heap [] := va_S.rf
  have hl : lv_has ls 8 [(0, .ref (ad 7 0)), (1, .int kind), (2, .int na), (3, .int nb), (4, .int nc), (5, .long digest)] := hl
  have hin_X0 : ∀ w ∈ wsX00, w ∈ wsX0_write := fun w h => List.mem_cons_of_mem _ (List.mem_append_right _ h)
  refine lv_aload_n hx hb dX0_write_0 rfl (lv_at hl 0 rfl) ?_
  refine ow_get (v2 := .int (q.1 7 0 2)) (ci := 0) (C := RX0) (T := TX0) (N := 3) hx hb hts hin_X0 hown hK hW 7 0 (PO_k7) rfl 2 (by decide) (List.mem_of_getElem? (i := 1) rfl) rfl rfl rfl dX0_write_1 ?_
  refine lv_istore (lv' := [(7, .int (q.1 7 0 2)), (0, .ref (ad 7 0)), (1, .int kind), (2, .int na), (3, .int nb), (4, .int nc), (5, .long digest)]) hx hb dX0_write_4 hl (by decide) rfl (fun ls hl => ?_)
  refine lv_aload_n hx hb dX0_write_6 rfl (lv_at hl 1 rfl) ?_
  refine lv_iload hx hb dX0_write_7 (lv_at hl 0 rfl) ?_
  refine lv_iconst (v := 0) hx hb dX0_write_9 (by decide) ?_
  refine lv_iload_n hx hb dX0_write_10 rfl (lv_at hl 2 rfl) ?_
  have h_1 : 0 ≤ ((q.1 7 0 2) : Int32).toInt ∧ ((q.1 7 0 2) : Int32).toInt ≤ 399 := by
    have u_1 := rg_e (q.1 7 0 2)
    have k_2 : (0 : Int32).toInt = 0 := rfl
    have u_3 := rg_e kind
    have w_4 := hs
    exact by omega
  have h_2 : 0 ≤ (0 : Int32).toInt ∧ (0 : Int32).toInt ≤ 3 := by
    have u_1 := rg_e (q.1 7 0 2)
    have k_2 : (0 : Int32).toInt = 0 := rfl
    have u_3 := rg_e kind
    have w_4 := hs
    exact by omega
  refine ow_callVv (C := RX0) (T := TX0) (N := 3) (ci := 0) (k := 7) (j := 0) (n := 3) (As := [.int (q.1 7 0 2), .int 0, .int kind]) (rest := []) (z2 := (m_X0_setNumber q (q.1 7 0 2) 0 kind)) ⟨hx, hb, hml, hown, hts⟩ (c_X0_setNumber l D b0 cA ad mq q (q.1 7 0 2) 0 kind h_1 h_2) (PO_k7) rfl gX0_write_X0_setNumber rfl (by decide +kernel) rfl ⟨Nat.le_of_ble_eq_true rfl, Nat.le_of_ble_eq_true rfl⟩ ⟨Nat.le_of_ble_eq_true rfl, Nat.le_of_ble_eq_true rfl⟩ hK hW hS hKD hl.1 rfl (Nat.le_of_ble_eq_true rfl) dX0_write_11 (fun H locs hW hS => ?_)
  refine lv_aload_n hx hb dX0_write_14 rfl (lv_at hl 1 rfl) ?_
  refine lv_iload hx hb dX0_write_15 (lv_at hl 0 rfl) ?_
  refine lv_iconst (v := 1) hx hb dX0_write_17 (by decide) ?_
  refine lv_iload_n hx hb dX0_write_18 rfl (lv_at hl 3 rfl) ?_
  have h_3 : 0 ≤ ((q.1 7 0 2) : Int32).toInt ∧ ((q.1 7 0 2) : Int32).toInt ≤ 399 := by
    have u_1 := rg_e (q.1 7 0 2)
    have k_2 : (1 : Int32).toInt = 1 := rfl
    have u_3 := rg_e na
    have w_4 := hs
    exact by omega
  have h_4 : 0 ≤ (1 : Int32).toInt ∧ (1 : Int32).toInt ≤ 3 := by
    have u_1 := rg_e (q.1 7 0 2)
    have k_2 : (1 : Int32).toInt = 1 := rfl
    have u_3 := rg_e na
    have w_4 := hs
    exact by omega
  refine ow_callVv (C := RX0) (T := TX0) (N := 3) (ci := 0) (k := 7) (j := 0) (n := 3) (As := [.int (q.1 7 0 2), .int 1, .int na]) (rest := []) (z2 := (m_X0_setNumber (m_X0_setNumber q (q.1 7 0 2) 0 kind) (q.1 7 0 2) 1 na)) ⟨hx, hb, hml, hown, hts⟩ (c_X0_setNumber l D b0 cA ad mq (m_X0_setNumber q (q.1 7 0 2) 0 kind) (q.1 7 0 2) 1 na h_3 h_4) (PO_k7) rfl gX0_write_X0_setNumber rfl (by decide +kernel) rfl ⟨Nat.le_of_ble_eq_true rfl, Nat.le_of_ble_eq_true rfl⟩ ⟨Nat.le_of_ble_eq_true rfl, Nat.le_of_ble_eq_true rfl⟩ hK hW hS hKD hl.1 rfl (Nat.le_of_ble_eq_true rfl) dX0_write_19 (fun H locs hW hS => ?_)
  refine lv_aload_n hx hb dX0_write_22 rfl (lv_at hl 1 rfl) ?_
  refine lv_iload hx hb dX0_write_23 (lv_at hl 0 rfl) ?_
  refine lv_iconst (v := 2) hx hb dX0_write_25 (by decide) ?_
  refine lv_iload_n hx hb dX0_write_26 rfl (lv_at hl 4 rfl) ?_
  have h_5 : 0 ≤ ((q.1 7 0 2) : Int32).toInt ∧ ((q.1 7 0 2) : Int32).toInt ≤ 399 := by
    have u_1 := rg_e (q.1 7 0 2)
    have k_2 : (2 : Int32).toInt = 2 := rfl
    have u_3 := rg_e nb
    have w_4 := hs
    exact by omega
  have h_6 : 0 ≤ (2 : Int32).toInt ∧ (2 : Int32).toInt ≤ 3 := by
    have u_1 := rg_e (q.1 7 0 2)
    have k_2 : (2 : Int32).toInt = 2 := rfl
    have u_3 := rg_e nb
    have w_4 := hs
    exact by omega
  refine ow_callVv (C := RX0) (T := TX0) (N := 3) (ci := 0) (k := 7) (j := 0) (n := 3) (As := [.int (q.1 7 0 2), .int 2, .int nb]) (rest := []) (z2 := (m_X0_setNumber (m_X0_setNumber (m_X0_setNumber q (q.1 7 0 2) 0 kind) (q.1 7 0 2) 1 na) (q.1 7 0 2) 2 nb)) ⟨hx, hb, hml, hown, hts⟩ (c_X0_setNumber l D b0 cA ad mq (m_X0_setNumber (m_X0_setNumber q (q.1 7 0 2) 0 kind) (q.1 7 0 2) 1 na) (q.1 7 0 2) 2 nb h_5 h_6) (PO_k7) rfl gX0_write_X0_setNumber rfl (by decide +kernel) rfl ⟨Nat.le_of_ble_eq_true rfl, Nat.le_of_ble_eq_true rfl⟩ ⟨Nat.le_of_ble_eq_true rfl, Nat.le_of_ble_eq_true rfl⟩ hK hW hS hKD hl.1 rfl (Nat.le_of_ble_eq_true rfl) dX0_write_27 (fun H locs hW hS => ?_)
  refine lv_aload_n hx hb dX0_write_30 rfl (lv_at hl 1 rfl) ?_
  refine lv_iload hx hb dX0_write_31 (lv_at hl 0 rfl) ?_
  refine lv_iconst (v := 3) hx hb dX0_write_33 (by decide) ?_
  refine lv_iload hx hb dX0_write_34 (lv_at hl 5 rfl) ?_
  have h_7 : 0 ≤ ((q.1 7 0 2) : Int32).toInt ∧ ((q.1 7 0 2) : Int32).toInt ≤ 399 := by
    have u_1 := rg_e (q.1 7 0 2)
    have k_2 : (3 : Int32).toInt = 3 := rfl
    have u_3 := rg_e nc
    have w_4 := hs
    exact by omega
  have h_8 : 0 ≤ (3 : Int32).toInt ∧ (3 : Int32).toInt ≤ 3 := by
    have u_1 := rg_e (q.1 7 0 2)
    have k_2 : (3 : Int32).toInt = 3 := rfl
    have u_3 := rg_e nc
    have w_4 := hs
    exact by omega
  refine ow_callVv (C := RX0) (T := TX0) (N := 3) (ci := 0) (k := 7) (j := 0) (n := 3) (As := [.int (q.1 7 0 2), .int 3, .int nc]) (rest := []) (z2 := (m_X0_setNumber (m_X0_setNumber (m_X0_setNumber (m_X0_setNumber q (q.1 7 0 2) 0 kind) (q.1 7 0 2) 1 na) (q.1 7 0 2) 2 nb) (q.1 7 0 2) 3 nc)) ⟨hx, hb, hml, hown, hts⟩ (c_X0_setNumber l D b0 cA ad mq (m_X0_setNumber (m_X0_setNumber (m_X0_setNumber q (q.1 7 0 2) 0 kind) (q.1 7 0 2) 1 na) (q.1 7 0 2) 2 nb) (q.1 7 0 2) 3 nc h_7 h_8) (PO_k7) rfl gX0_write_X0_setNumber rfl (by decide +kernel) rfl ⟨Nat.le_of_ble_eq_true rfl, Nat.le_of_ble_eq_true rfl⟩ ⟨Nat.le_of_ble_eq_true rfl, Nat.le_of_ble_eq_true rfl⟩ hK hW hS hKD hl.1 rfl (Nat.le_of_ble_eq_true rfl) dX0_write_36 (fun H locs hW hS => ?_)
  refine lv_aload_n hx hb dX0_write_39 rfl (lv_at hl 1 rfl) ?_
  refine ow_get (v2 := .ref (ad 9 0)) (ci := 0) (C := RX0) (T := TX0) (N := 3) hx hb hts hin_X0 hown hK hW 7 0 (PO_k7) rfl 1 (by decide) (List.mem_of_getElem? (i := 2) rfl) rfl rfl rfl dX0_write_40 ?_
  refine lv_iload hx hb dX0_write_43 (lv_at hl 0 rfl) ?_
  refine lv_aload_n hx hb dX0_write_45 rfl (lv_at hl 1 rfl) ?_
  refine lv_iload hx hb dX0_write_46 (lv_at hl 0 rfl) ?_
  refine lv_lload hx hb dX0_write_48 (lv_at hl 6 rfl) ?_
  have h_9 : 0 ≤ ((q.1 7 0 2) : Int32).toInt ∧ ((q.1 7 0 2) : Int32).toInt ≤ 399 := by
    have u_1 := rg_e (q.1 7 0 2)
    have w_2 := hs
    exact by omega
  refine ow_callVl (C := RX0) (T := TX0) (N := 3) (ci := 0) (k := 7) (j := 0) (n := 2) (As := [.int (q.1 7 0 2), .long digest]) (rest := [.int (q.1 7 0 2), .ref (ad 9 0)]) (r := (m_X0_linkFor (m_X0_setNumber (m_X0_setNumber (m_X0_setNumber (m_X0_setNumber q (q.1 7 0 2) 0 kind) (q.1 7 0 2) 1 na) (q.1 7 0 2) 2 nb) (q.1 7 0 2) 3 nc) (q.1 7 0 2) digest)) (z2 := (m_X0_setNumber (m_X0_setNumber (m_X0_setNumber (m_X0_setNumber q (q.1 7 0 2) 0 kind) (q.1 7 0 2) 1 na) (q.1 7 0 2) 2 nb) (q.1 7 0 2) 3 nc)) ⟨hx, hb, hml, hown, hts⟩ (c_X0_linkFor l D b0 cA ad mq (m_X0_setNumber (m_X0_setNumber (m_X0_setNumber (m_X0_setNumber q (q.1 7 0 2) 0 kind) (q.1 7 0 2) 1 na) (q.1 7 0 2) 2 nb) (q.1 7 0 2) 3 nc) (q.1 7 0 2) digest h_9) (PO_k7) rfl gX0_write_X0_linkFor rfl (by decide +kernel) rfl ⟨Nat.le_of_ble_eq_true rfl, Nat.le_of_ble_eq_true rfl⟩ ⟨Nat.le_of_ble_eq_true rfl, Nat.le_of_ble_eq_true rfl⟩ hK hW hS hKD hl.1 rfl (Nat.le_of_ble_eq_true rfl) dX0_write_50 (fun H locs hW hS => ?_)
  have b_10 : vp_in (q.1 7 0 2) 400 := by
    have u_1 := rg_e (q.1 7 0 2)
    have w_2 := hs
    exact vp_in_iff.mpr (by omega)
  refine ow_last hx hb hK hW hS 9 0 (PO_k9) b_10 (PO_w9) dX0_write_53 (fun H locs hW hS => ?_)
  refine lv_aload_n hx hb dX0_write_54 rfl (lv_at hl 1 rfl) ?_
  refine lv_dup hx hb dX0_write_55 rfl ?_
  refine ow_get (v2 := .int ((m_X0_setNumber (m_X0_setNumber (m_X0_setNumber (m_X0_setNumber q (q.1 7 0 2) 0 kind) (q.1 7 0 2) 1 na) (q.1 7 0 2) 2 nb) (q.1 7 0 2) 3 nc).1 7 0 2)) (ci := 0) (C := RX0) (T := TX0) (N := 3) hx hb hts hin_X0 hown hK hW 7 0 (PO_k7) rfl 2 (by decide) (List.mem_of_getElem? (i := 1) rfl) rfl rfl (congrArg Value.int (cq_nel)) dX0_write_56 ?_
  refine lv_iconst (v := 1) hx hb dX0_write_59 (by decide) ?_
  refine lv_iadd hx hb dX0_write_60 ?_
  refine ow_puti (ci := 0) (C := RX0) (T := TX0) (N := 3) (ty := .int) hx hb hts hin_X0 tyX0 tyX0_ok nmX0 hown hK hW hS 7 0 (PO_k7) rfl 2 (by decide) (List.mem_of_getElem? (i := 1) rfl) rfl rfl (by decide +kernel) rfl rfl (Nat.le_of_ble_eq_true rfl) (by decide) (PO_w7_2) dX0_write_61 (fun H locs hW hS => ?_)
  exact ow_vret hx hb hr hlk hK hW hS (by rw [m_X0_write]) dX0_write_64
