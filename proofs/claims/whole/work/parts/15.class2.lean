/-! laid by wip/whole/tools/class2.py -/
def m_J6_bitCount_0f7a4 (x : Int32) : Int32 := (let y_1 : Int32 := (x - (((Int32.toUInt32 x >>> (Int32.toUInt32 1 &&& Int32.toUInt32 31)).toInt32) &&& 1431655765)); (let y_2 : Int32 := ((y_1 &&& 858993459) + (((Int32.toUInt32 y_1 >>> (Int32.toUInt32 2 &&& Int32.toUInt32 31)).toInt32) &&& 858993459)); (let y_3 : Int32 := ((y_2 + ((Int32.toUInt32 y_2 >>> (Int32.toUInt32 4 &&& Int32.toUInt32 31)).toInt32)) &&& 252645135); (let y_4 : Int32 := (y_3 + ((Int32.toUInt32 y_3 >>> (Int32.toUInt32 8 &&& Int32.toUInt32 31)).toInt32)); (let y_5 : Int32 := (y_4 + ((Int32.toUInt32 y_4 >>> (Int32.toUInt32 16 &&& Int32.toUInt32 31)).toInt32)); (y_5 &&& 63))))))
set_option maxHeartbeats 4000000 in
set_option maxRecDepth 100000 in
theorem c_J6_bitCount_0f7a4 (l : Launch) (D : va_G) (b0 : Nat) (cA : Nat → ClassId) (ad : Nat → Nat → Nat) (mq : qM) (q : qC) (x : Int32) : cc_i l yJ6_bitCount_0f7a4 wsJ6_bitCount_0f7a4 0 0 D b0 cA ad mq q [.int x] (m_J6_bitCount_0f7a4 x, q) := by
  refine cc_of (by decide) rfl (Nat.le_of_ble_eq_true rfl) ?_
  intro p e s m below meth c hx hb hml hr hlk hown hts hK hW hKD ls hl
  have hown : s.vm.findClass RJ6 = some m.cls := hown
  have hS : va_S (wA b0) s.heap s.heap [] := va_S.rf
  have hl : lv_has ls 1 [(0, .int x)] := hl
  refine lv_iload_n hx hb dJ6_bitCount_0f7a4_0 rfl (lv_at hl 0 rfl) ?_
  refine lv_iload_n hx hb dJ6_bitCount_0f7a4_1 rfl (lv_at hl 0 rfl) ?_
  refine lv_iconst (v := 1) hx hb dJ6_bitCount_0f7a4_2 (by decide) ?_
  refine lv_iushr (v := (Int32.toUInt32 x >>> (Int32.toUInt32 1 &&& Int32.toUInt32 31)).toInt32) hx hb dJ6_bitCount_0f7a4_3 rfl ?_
  refine lv_ldcw (v := 1431655765) hx hb hown (hts _ (List.mem_of_getElem? (i := 1) rfl)) dJ6_bitCount_0f7a4_4 ?_
  refine lv_iand hx hb dJ6_bitCount_0f7a4_7 ?_
  refine lv_isub hx hb dJ6_bitCount_0f7a4_8 ?_
  refine lv_topi (fun y_1 ey_1 => ?_)
  refine lv_istore_n (lv' := [(0, .int y_1)]) hx hb dJ6_bitCount_0f7a4_9 rfl hl (by decide) rfl (fun ls hl => ?_)
  refine lv_iload_n hx hb dJ6_bitCount_0f7a4_10 rfl (lv_at hl 0 rfl) ?_
  refine lv_ldcw (v := 858993459) hx hb hown (hts _ (List.mem_of_getElem? (i := 2) rfl)) dJ6_bitCount_0f7a4_11 ?_
  refine lv_iand hx hb dJ6_bitCount_0f7a4_14 ?_
  refine lv_iload_n hx hb dJ6_bitCount_0f7a4_15 rfl (lv_at hl 0 rfl) ?_
  refine lv_iconst (v := 2) hx hb dJ6_bitCount_0f7a4_16 (by decide) ?_
  refine lv_iushr (v := (Int32.toUInt32 y_1 >>> (Int32.toUInt32 2 &&& Int32.toUInt32 31)).toInt32) hx hb dJ6_bitCount_0f7a4_17 rfl ?_
  refine lv_ldcw (v := 858993459) hx hb hown (hts _ (List.mem_of_getElem? (i := 2) rfl)) dJ6_bitCount_0f7a4_18 ?_
  refine lv_iand hx hb dJ6_bitCount_0f7a4_21 ?_
  refine lv_iadd hx hb dJ6_bitCount_0f7a4_22 ?_
  refine lv_topi (fun y_2 ey_2 => ?_)
  refine lv_istore_n (lv' := [(0, .int y_2)]) hx hb dJ6_bitCount_0f7a4_23 rfl hl (by decide) rfl (fun ls hl => ?_)
  refine lv_iload_n hx hb dJ6_bitCount_0f7a4_24 rfl (lv_at hl 0 rfl) ?_
  refine lv_iload_n hx hb dJ6_bitCount_0f7a4_25 rfl (lv_at hl 0 rfl) ?_
  refine lv_iconst (v := 4) hx hb dJ6_bitCount_0f7a4_26 (by decide) ?_
  refine lv_iushr (v := (Int32.toUInt32 y_2 >>> (Int32.toUInt32 4 &&& Int32.toUInt32 31)).toInt32) hx hb dJ6_bitCount_0f7a4_27 rfl ?_
  refine lv_iadd hx hb dJ6_bitCount_0f7a4_28 ?_
  refine lv_ldcw (v := 252645135) hx hb hown (hts _ (List.mem_of_getElem? (i := 3) rfl)) dJ6_bitCount_0f7a4_29 ?_
  refine lv_iand hx hb dJ6_bitCount_0f7a4_32 ?_
  refine lv_topi (fun y_3 ey_3 => ?_)
  refine lv_istore_n (lv' := [(0, .int y_3)]) hx hb dJ6_bitCount_0f7a4_33 rfl hl (by decide) rfl (fun ls hl => ?_)
  refine lv_iload_n hx hb dJ6_bitCount_0f7a4_34 rfl (lv_at hl 0 rfl) ?_
  refine lv_iload_n hx hb dJ6_bitCount_0f7a4_35 rfl (lv_at hl 0 rfl) ?_
  refine lv_bipush (v := 8) hx hb dJ6_bitCount_0f7a4_36 (by decide) ?_
  refine lv_iushr (v := (Int32.toUInt32 y_3 >>> (Int32.toUInt32 8 &&& Int32.toUInt32 31)).toInt32) hx hb dJ6_bitCount_0f7a4_38 rfl ?_
  refine lv_iadd hx hb dJ6_bitCount_0f7a4_39 ?_
  refine lv_topi (fun y_4 ey_4 => ?_)
  refine lv_istore_n (lv' := [(0, .int y_4)]) hx hb dJ6_bitCount_0f7a4_40 rfl hl (by decide) rfl (fun ls hl => ?_)
  refine lv_iload_n hx hb dJ6_bitCount_0f7a4_41 rfl (lv_at hl 0 rfl) ?_
  refine lv_iload_n hx hb dJ6_bitCount_0f7a4_42 rfl (lv_at hl 0 rfl) ?_
  refine lv_bipush (v := 16) hx hb dJ6_bitCount_0f7a4_43 (by decide) ?_
  refine lv_iushr (v := (Int32.toUInt32 y_4 >>> (Int32.toUInt32 16 &&& Int32.toUInt32 31)).toInt32) hx hb dJ6_bitCount_0f7a4_45 rfl ?_
  refine lv_iadd hx hb dJ6_bitCount_0f7a4_46 ?_
  refine lv_topi (fun y_5 ey_5 => ?_)
  refine lv_istore_n (lv' := [(0, .int y_5)]) hx hb dJ6_bitCount_0f7a4_47 rfl hl (by decide) rfl (fun ls hl => ?_)
  refine lv_iload_n hx hb dJ6_bitCount_0f7a4_48 rfl (lv_at hl 0 rfl) ?_
  refine lv_bipush (v := 63) hx hb dJ6_bitCount_0f7a4_49 (by decide) ?_
  refine lv_iand hx hb dJ6_bitCount_0f7a4_51 ?_
  exact ow_iret hx hb hr hlk hK hW hS (by subst_vars; rfl) dJ6_bitCount_0f7a4_52

def m_J13_bitCount_95d88 (x : Int64) : Int32 := (let y_1 : Int64 := (x - (((Int64.toUInt64 x >>> ((Int32.toInt64 1).toUInt64 &&& Int64.toUInt64 63)).toInt64) &&& 6148914691236517205)); (let y_2 : Int64 := ((y_1 &&& 3689348814741910323) + (((Int64.toUInt64 y_1 >>> ((Int32.toInt64 2).toUInt64 &&& Int64.toUInt64 63)).toInt64) &&& 3689348814741910323)); (let y_3 : Int64 := ((y_2 + ((Int64.toUInt64 y_2 >>> ((Int32.toInt64 4).toUInt64 &&& Int64.toUInt64 63)).toInt64)) &&& 1085102592571150095); (let y_4 : Int64 := (y_3 + ((Int64.toUInt64 y_3 >>> ((Int32.toInt64 8).toUInt64 &&& Int64.toUInt64 63)).toInt64)); (let y_5 : Int64 := (y_4 + ((Int64.toUInt64 y_4 >>> ((Int32.toInt64 16).toUInt64 &&& Int64.toUInt64 63)).toInt64)); (let y_6 : Int64 := (y_5 + ((Int64.toUInt64 y_5 >>> ((Int32.toInt64 32).toUInt64 &&& Int64.toUInt64 63)).toInt64)); ((y_6 : Int64).toInt32 &&& 127)))))))
set_option maxHeartbeats 4000000 in
set_option maxRecDepth 100000 in
theorem c_J13_bitCount_95d88 (l : Launch) (D : va_G) (b0 : Nat) (cA : Nat → ClassId) (ad : Nat → Nat → Nat) (mq : qM) (q : qC) (x : Int64) : cc_i l yJ13_bitCount_95d88 wsJ13_bitCount_95d88 0 0 D b0 cA ad mq q [.long x] (m_J13_bitCount_95d88 x, q) := by
  refine cc_of (by decide) rfl (Nat.le_of_ble_eq_true rfl) ?_
  intro p e s m below meth c hx hb hml hr hlk hown hts hK hW hKD ls hl
  have hown : s.vm.findClass RJ13 = some m.cls := hown
  have hS : va_S (wA b0) s.heap s.heap [] := va_S.rf
  have hl : lv_has ls 2 [(0, .long x)] := hl
  refine lv_lload_n hx hb dJ13_bitCount_95d88_0 rfl (lv_at hl 0 rfl) ?_
  refine lv_lload_n hx hb dJ13_bitCount_95d88_1 rfl (lv_at hl 0 rfl) ?_
  refine lv_iconst (v := 1) hx hb dJ13_bitCount_95d88_2 (by decide) ?_
  refine lv_lushr (v := (Int64.toUInt64 x >>> ((Int32.toInt64 1).toUInt64 &&& Int64.toUInt64 63)).toInt64) hx hb dJ13_bitCount_95d88_3 rfl ?_
  refine lv_ldc2 (v := 6148914691236517205) hx hb hown (hts _ (List.mem_of_getElem? (i := 1) rfl)) dJ13_bitCount_95d88_4 ?_
  refine lv_land hx hb dJ13_bitCount_95d88_7 ?_
  refine lv_lsub hx hb dJ13_bitCount_95d88_8 ?_
  refine lv_topl (fun y_1 ey_1 => ?_)
  refine lv_lstore_n (lv' := [(0, .long y_1)]) hx hb dJ13_bitCount_95d88_9 rfl hl (by decide) rfl (fun ls hl => ?_)
  refine lv_lload_n hx hb dJ13_bitCount_95d88_10 rfl (lv_at hl 0 rfl) ?_
  refine lv_ldc2 (v := 3689348814741910323) hx hb hown (hts _ (List.mem_of_getElem? (i := 2) rfl)) dJ13_bitCount_95d88_11 ?_
  refine lv_land hx hb dJ13_bitCount_95d88_14 ?_
  refine lv_lload_n hx hb dJ13_bitCount_95d88_15 rfl (lv_at hl 0 rfl) ?_
  refine lv_iconst (v := 2) hx hb dJ13_bitCount_95d88_16 (by decide) ?_
  refine lv_lushr (v := (Int64.toUInt64 y_1 >>> ((Int32.toInt64 2).toUInt64 &&& Int64.toUInt64 63)).toInt64) hx hb dJ13_bitCount_95d88_17 rfl ?_
  refine lv_ldc2 (v := 3689348814741910323) hx hb hown (hts _ (List.mem_of_getElem? (i := 2) rfl)) dJ13_bitCount_95d88_18 ?_
  refine lv_land hx hb dJ13_bitCount_95d88_21 ?_
  refine lv_ladd hx hb dJ13_bitCount_95d88_22 ?_
  refine lv_topl (fun y_2 ey_2 => ?_)
  refine lv_lstore_n (lv' := [(0, .long y_2)]) hx hb dJ13_bitCount_95d88_23 rfl hl (by decide) rfl (fun ls hl => ?_)
  refine lv_lload_n hx hb dJ13_bitCount_95d88_24 rfl (lv_at hl 0 rfl) ?_
  refine lv_lload_n hx hb dJ13_bitCount_95d88_25 rfl (lv_at hl 0 rfl) ?_
  refine lv_iconst (v := 4) hx hb dJ13_bitCount_95d88_26 (by decide) ?_
  refine lv_lushr (v := (Int64.toUInt64 y_2 >>> ((Int32.toInt64 4).toUInt64 &&& Int64.toUInt64 63)).toInt64) hx hb dJ13_bitCount_95d88_27 rfl ?_
  refine lv_ladd hx hb dJ13_bitCount_95d88_28 ?_
  refine lv_ldc2 (v := 1085102592571150095) hx hb hown (hts _ (List.mem_of_getElem? (i := 3) rfl)) dJ13_bitCount_95d88_29 ?_
  refine lv_land hx hb dJ13_bitCount_95d88_32 ?_
  refine lv_topl (fun y_3 ey_3 => ?_)
  refine lv_lstore_n (lv' := [(0, .long y_3)]) hx hb dJ13_bitCount_95d88_33 rfl hl (by decide) rfl (fun ls hl => ?_)
  refine lv_lload_n hx hb dJ13_bitCount_95d88_34 rfl (lv_at hl 0 rfl) ?_
  refine lv_lload_n hx hb dJ13_bitCount_95d88_35 rfl (lv_at hl 0 rfl) ?_
  refine lv_bipush (v := 8) hx hb dJ13_bitCount_95d88_36 (by decide) ?_
  refine lv_lushr (v := (Int64.toUInt64 y_3 >>> ((Int32.toInt64 8).toUInt64 &&& Int64.toUInt64 63)).toInt64) hx hb dJ13_bitCount_95d88_38 rfl ?_
  refine lv_ladd hx hb dJ13_bitCount_95d88_39 ?_
  refine lv_topl (fun y_4 ey_4 => ?_)
  refine lv_lstore_n (lv' := [(0, .long y_4)]) hx hb dJ13_bitCount_95d88_40 rfl hl (by decide) rfl (fun ls hl => ?_)
  refine lv_lload_n hx hb dJ13_bitCount_95d88_41 rfl (lv_at hl 0 rfl) ?_
  refine lv_lload_n hx hb dJ13_bitCount_95d88_42 rfl (lv_at hl 0 rfl) ?_
  refine lv_bipush (v := 16) hx hb dJ13_bitCount_95d88_43 (by decide) ?_
  refine lv_lushr (v := (Int64.toUInt64 y_4 >>> ((Int32.toInt64 16).toUInt64 &&& Int64.toUInt64 63)).toInt64) hx hb dJ13_bitCount_95d88_45 rfl ?_
  refine lv_ladd hx hb dJ13_bitCount_95d88_46 ?_
  refine lv_topl (fun y_5 ey_5 => ?_)
  refine lv_lstore_n (lv' := [(0, .long y_5)]) hx hb dJ13_bitCount_95d88_47 rfl hl (by decide) rfl (fun ls hl => ?_)
  refine lv_lload_n hx hb dJ13_bitCount_95d88_48 rfl (lv_at hl 0 rfl) ?_
  refine lv_lload_n hx hb dJ13_bitCount_95d88_49 rfl (lv_at hl 0 rfl) ?_
  refine lv_bipush (v := 32) hx hb dJ13_bitCount_95d88_50 (by decide) ?_
  refine lv_lushr (v := (Int64.toUInt64 y_5 >>> ((Int32.toInt64 32).toUInt64 &&& Int64.toUInt64 63)).toInt64) hx hb dJ13_bitCount_95d88_52 rfl ?_
  refine lv_ladd hx hb dJ13_bitCount_95d88_53 ?_
  refine lv_topl (fun y_6 ey_6 => ?_)
  refine lv_lstore_n (lv' := [(0, .long y_6)]) hx hb dJ13_bitCount_95d88_54 rfl hl (by decide) rfl (fun ls hl => ?_)
  refine lv_lload_n hx hb dJ13_bitCount_95d88_55 rfl (lv_at hl 0 rfl) ?_
  refine lv_l2i (v := (y_6 : Int64).toInt32) hx hb dJ13_bitCount_95d88_56 rfl ?_
  refine lv_bipush (v := 127) hx hb dJ13_bitCount_95d88_57 (by decide) ?_
  refine lv_iand hx hb dJ13_bitCount_95d88_59 ?_
  exact ow_iret hx hb hr hlk hK hW hS (by subst_vars; rfl) dJ13_bitCount_95d88_60

def m_X2_size (q : qC) (j : Nat) : Int32 := (m_J13_bitCount_95d88 (q.2 17 j 1))
set_option maxHeartbeats 4000000 in
set_option maxRecDepth 100000 in
theorem c_X2_size (l : Launch) (D : va_G) (b0 : Nat) (cA : Nat → ClassId) (ad : Nat → Nat → Nat) (mq : qM) (q : qC) (j : Nat) (hp : ¬ q.1 6 0 j = 0) : cc_i l yX2_size wsX2_size 1 21 D b0 cA ad mq q [.ref (ad 17 j)] (m_X2_size q j, q) := by
  refine cc_of (by decide) rfl (Nat.le_of_ble_eq_true rfl) ?_
  intro p e s m below meth c hx hb hml hr hlk hown hts hK hW hKD ls hl
  have hown : s.vm.findClass RX2 = some m.cls := hown
  have hS : va_S (wA b0) s.heap s.heap [] := va_S.rf
  have hl : lv_has ls 1 [(0, .ref (ad 17 j))] := hl
  have hin_X2 : ∀ w ∈ wsX20, w ∈ wsX2_size := fun w h => List.mem_cons_of_mem _ (List.mem_append_right _ h)
  refine lv_aload_n hx hb dX2_size_0 rfl (lv_at hl 0 rfl) ?_
  refine ow_get (v2 := .long (q.2 17 j 1)) (ci := 1) (C := RX2) (T := TX2) (N := 4) hx hb hts hin_X2 hown hK hW 17 j (PO_k17 hp) rfl 1 (by decide) (List.mem_of_getElem? (i := 1) rfl) rfl rfl rfl dX2_size_1 ?_
  refine ow_callSi (n := 1) (As := [.long (q.2 17 j 1)]) (rest := []) (r := (m_J13_bitCount_95d88 (q.2 17 j 1))) (z2 := q) ⟨hx, hb, hml, hown, hts⟩ (c_J13_bitCount_95d88 l D b0 cA ad mq q (q.2 17 j 1)) gX2_size_J13_bitCount_95d88 rfl (by decide +kernel) rfl ⟨Nat.le_of_ble_eq_true rfl, Nat.le_of_ble_eq_true rfl⟩ ⟨Nat.le_of_ble_eq_true rfl, Nat.le_of_ble_eq_true rfl⟩ hK hW hS hKD hl.1 rfl (Nat.le_of_ble_eq_true rfl) dX2_size_4 (fun H locs hW hS => ?_)
  exact ow_iret hx hb hr hlk hK hW hS (by rw [m_X2_size]) dX2_size_7

def m_X2_has (q : qC) (j : Nat) (r : Int32) : Int32 := (if r < 0 then 0 else (if 64 ≤ r then 0 else (if (lg_cmp (((Int64.toUInt64 (q.2 17 j 1) >>> ((Int32.toInt64 r).toUInt64 &&& Int64.toUInt64 63)).toInt64) &&& 1) 0) = 0 then 0 else 1)))
set_option maxHeartbeats 4000000 in
set_option maxRecDepth 100000 in
theorem c_X2_has (l : Launch) (D : va_G) (b0 : Nat) (cA : Nat → ClassId) (ad : Nat → Nat → Nat) (mq : qM) (q : qC) (j : Nat) (r : Int32) (hp : ¬ q.1 6 0 j = 0) : cc_i l yX2_has wsX2_has 0 0 D b0 cA ad mq q [.ref (ad 17 j), .int r] (m_X2_has q j r, q) := by
  refine cc_of (by decide) rfl (Nat.le_of_ble_eq_true rfl) ?_
  intro p e s m below meth c hx hb hml hr hlk hown hts hK hW hKD ls hl
  have hown : s.vm.findClass RX2 = some m.cls := hown
  have hS : va_S (wA b0) s.heap s.heap [] := va_S.rf
  have hl : lv_has ls 2 [(0, .ref (ad 17 j)), (1, .int r)] := hl
  have hin_X2 : ∀ w ∈ wsX20, w ∈ wsX2_has := fun w h => List.mem_cons_of_mem _ (List.mem_append_right _ h)
  refine lv_iload_n hx hb dX2_has_0 rfl (lv_at hl 1 rfl) ?_
  refine lv_if_lt (tgt := 27) hx hb dX2_has_1 (by decide) (fun c_1 => ?_) (fun c_1 => ?_)
  · refine lv_iconst (v := 0) hx hb dX2_has_27 (by decide) ?_
    exact ow_zret hx hb hr hlk hK hW hS rfl (by rw [m_X2_has, if_pos c_1]) dX2_has_28
  · refine lv_iload_n hx hb dX2_has_4 rfl (lv_at hl 1 rfl) ?_
    refine lv_bipush (v := 64) hx hb dX2_has_5 (by decide) ?_
    refine lv_icmp_ge (tgt := 27) hx hb dX2_has_7 (by decide) (fun c_2 => ?_) (fun c_2 => ?_)
    · refine lv_iconst (v := 0) hx hb dX2_has_27 (by decide) ?_
      exact ow_zret hx hb hr hlk hK hW hS rfl (by rw [m_X2_has, if_neg c_1, if_pos c_2]) dX2_has_28
    · refine lv_aload_n hx hb dX2_has_10 rfl (lv_at hl 0 rfl) ?_
      refine ow_get (v2 := .long (q.2 17 j 1)) (ci := 1) (C := RX2) (T := TX2) (N := 4) hx hb hts hin_X2 hown hK hW 17 j (PO_k17 hp) rfl 1 (by decide) (List.mem_of_getElem? (i := 1) rfl) rfl rfl rfl dX2_has_11 ?_
      refine lv_iload_n hx hb dX2_has_14 rfl (lv_at hl 1 rfl) ?_
      refine lv_lushr (v := (Int64.toUInt64 (q.2 17 j 1) >>> ((Int32.toInt64 r).toUInt64 &&& Int64.toUInt64 63)).toInt64) hx hb dX2_has_15 rfl ?_
      refine lv_lconst (v := 1) hx hb dX2_has_16 (by decide) ?_
      refine lv_land hx hb dX2_has_17 ?_
      refine lv_lconst (v := 0) hx hb dX2_has_18 (by decide) ?_
      refine W.lcmp hx hb dX2_has_19 ?_
      refine lv_if_eq (tgt := 27) hx hb dX2_has_20 (by decide) (fun c_3 => ?_) (fun c_3 => ?_)
      · refine lv_iconst (v := 0) hx hb dX2_has_27 (by decide) ?_
        exact ow_zret hx hb hr hlk hK hW hS rfl (by rw [m_X2_has, if_neg c_1, if_neg c_2, if_pos c_3]) dX2_has_28
      · refine lv_iconst (v := 1) hx hb dX2_has_23 (by decide) ?_
        refine lv_goto (tgt := 28) hx hb dX2_has_24 (by decide) ?_
        exact ow_zret hx hb hr hlk hK hW hS rfl (by rw [m_X2_has, if_neg c_1, if_neg c_2, if_neg c_3]) dX2_has_28

def m_X2_remove (q : qC) (j : Nat) (r : Int32) : qC := (cq_l q 17 j 1 ((q.2 17 j 1) &&& (((1 <<< (Int32.toInt64 r &&& 63))) ^^^ (-1))))
set_option maxHeartbeats 4000000 in
set_option maxRecDepth 100000 in
theorem c_X2_remove (l : Launch) (D : va_G) (b0 : Nat) (cA : Nat → ClassId) (ad : Nat → Nat → Nat) (mq : qM) (q : qC) (j : Nat) (r : Int32) (hp : ¬ q.1 6 0 j = 0) : cc_v l yX2_remove wsX2_remove 0 0 D b0 cA ad mq q [.ref (ad 17 j), .int r] (m_X2_remove q j r) := by
  refine cc_of (by decide) rfl (Nat.le_of_ble_eq_true rfl) ?_
  intro p e s m below meth c hx hb hml hr hlk hown hts hK hW hKD ls hl
  have hown : s.vm.findClass RX2 = some m.cls := hown
  have hS : va_S (wA b0) s.heap s.heap [] := va_S.rf
  have hl : lv_has ls 2 [(0, .ref (ad 17 j)), (1, .int r)] := hl
  have hin_X2 : ∀ w ∈ wsX20, w ∈ wsX2_remove := fun w h => List.mem_cons_of_mem _ (List.mem_append_right _ h)
  refine lv_aload_n hx hb dX2_remove_0 rfl (lv_at hl 0 rfl) ?_
  refine lv_dup hx hb dX2_remove_1 rfl ?_
  refine ow_get (v2 := .long (q.2 17 j 1)) (ci := 1) (C := RX2) (T := TX2) (N := 4) hx hb hts hin_X2 hown hK hW 17 j (PO_k17 hp) rfl 1 (by decide) (List.mem_of_getElem? (i := 1) rfl) rfl rfl rfl dX2_remove_2 ?_
  refine lv_lconst (v := 1) hx hb dX2_remove_5 (by decide) ?_
  refine lv_iload_n hx hb dX2_remove_6 rfl (lv_at hl 1 rfl) ?_
  refine lv_lshl (v := (1 <<< (Int32.toInt64 r &&& 63))) hx hb dX2_remove_7 rfl ?_
  refine lv_ldc2 (v := (-1)) hx hb hown (hts _ (List.mem_of_getElem? (i := 2) rfl)) dX2_remove_8 ?_
  refine lv_lxor hx hb dX2_remove_11 ?_
  refine lv_land hx hb dX2_remove_12 ?_
  refine ow_putl (ci := 1) (C := RX2) (T := TX2) (N := 4) hx hb hts hin_X2 tyX2 tyX2_ok nmX2 hown hK hW hS 17 j (PO_k17 hp) rfl 1 (by decide) (List.mem_of_getElem? (i := 1) rfl) rfl rfl (by decide +kernel) (Nat.le_of_ble_eq_true rfl) (PO_w17_1 hp) dX2_remove_13 (fun H locs hW hS => ?_)
  exact ow_vret hx hb hr hlk hK hW hS (by rw [m_X2_remove]) dX2_remove_16

def m_X2_isApprovedBy (q : qC) (j : Nat) (o : Int32) : Int32 := (if (((Int32.toUInt32 (q.1 17 j 2) >>> (Int32.toUInt32 o &&& Int32.toUInt32 31)).toInt32) &&& 1) = 0 then 0 else 1)
set_option maxHeartbeats 4000000 in
set_option maxRecDepth 100000 in
theorem c_X2_isApprovedBy (l : Launch) (D : va_G) (b0 : Nat) (cA : Nat → ClassId) (ad : Nat → Nat → Nat) (mq : qM) (q : qC) (j : Nat) (o : Int32) (hp : ¬ q.1 6 0 j = 0) : cc_i l yX2_isApprovedBy wsX2_isApprovedBy 0 0 D b0 cA ad mq q [.ref (ad 17 j), .int o] (m_X2_isApprovedBy q j o, q) := by
  refine cc_of (by decide) rfl (Nat.le_of_ble_eq_true rfl) ?_
  intro p e s m below meth c hx hb hml hr hlk hown hts hK hW hKD ls hl
  have hown : s.vm.findClass RX2 = some m.cls := hown
  have hS : va_S (wA b0) s.heap s.heap [] := va_S.rf
  have hl : lv_has ls 2 [(0, .ref (ad 17 j)), (1, .int o)] := hl
  have hin_X2 : ∀ w ∈ wsX20, w ∈ wsX2_isApprovedBy := fun w h => List.mem_cons_of_mem _ (List.mem_append_right _ h)
  refine lv_aload_n hx hb dX2_isApprovedBy_0 rfl (lv_at hl 0 rfl) ?_
  refine ow_get (v2 := .int (q.1 17 j 2)) (ci := 1) (C := RX2) (T := TX2) (N := 4) hx hb hts hin_X2 hown hK hW 17 j (PO_k17 hp) rfl 2 (by decide) (List.mem_of_getElem? (i := 1) rfl) rfl rfl rfl dX2_isApprovedBy_1 ?_
  refine lv_iload_n hx hb dX2_isApprovedBy_4 rfl (lv_at hl 1 rfl) ?_
  refine lv_iushr (v := (Int32.toUInt32 (q.1 17 j 2) >>> (Int32.toUInt32 o &&& Int32.toUInt32 31)).toInt32) hx hb dX2_isApprovedBy_5 rfl ?_
  refine lv_iconst (v := 1) hx hb dX2_isApprovedBy_6 (by decide) ?_
  refine lv_iand hx hb dX2_isApprovedBy_7 ?_
  refine lv_if_eq (tgt := 15) hx hb dX2_isApprovedBy_8 (by decide) (fun c_1 => ?_) (fun c_1 => ?_)
  · refine lv_iconst (v := 0) hx hb dX2_isApprovedBy_15 (by decide) ?_
    exact ow_zret hx hb hr hlk hK hW hS rfl (by rw [m_X2_isApprovedBy, if_pos c_1]) dX2_isApprovedBy_16
  · refine lv_iconst (v := 1) hx hb dX2_isApprovedBy_11 (by decide) ?_
    refine lv_goto (tgt := 16) hx hb dX2_isApprovedBy_12 (by decide) ?_
    exact ow_zret hx hb hr hlk hK hW hS rfl (by rw [m_X2_isApprovedBy, if_neg c_1]) dX2_isApprovedBy_16

def m_X2_addApproval (q : qC) (j : Nat) (o : Int32) : qC := (cq_i q 17 j 2 ((q.1 17 j 2) ||| ((1 : Int32) <<< (o &&& 31))))
set_option maxHeartbeats 4000000 in
set_option maxRecDepth 100000 in
theorem c_X2_addApproval (l : Launch) (D : va_G) (b0 : Nat) (cA : Nat → ClassId) (ad : Nat → Nat → Nat) (mq : qM) (q : qC) (j : Nat) (o : Int32) (hp : ¬ q.1 6 0 j = 0) : cc_v l yX2_addApproval wsX2_addApproval 0 0 D b0 cA ad mq q [.ref (ad 17 j), .int o] (m_X2_addApproval q j o) := by
  refine cc_of (by decide) rfl (Nat.le_of_ble_eq_true rfl) ?_
  intro p e s m below meth c hx hb hml hr hlk hown hts hK hW hKD ls hl
  have hown : s.vm.findClass RX2 = some m.cls := hown
  have hS : va_S (wA b0) s.heap s.heap [] := va_S.rf
  have hl : lv_has ls 2 [(0, .ref (ad 17 j)), (1, .int o)] := hl
  have hin_X2 : ∀ w ∈ wsX20, w ∈ wsX2_addApproval := fun w h => List.mem_cons_of_mem _ (List.mem_append_right _ h)
  refine lv_aload_n hx hb dX2_addApproval_0 rfl (lv_at hl 0 rfl) ?_
  refine lv_dup hx hb dX2_addApproval_1 rfl ?_
  refine ow_get (v2 := .int (q.1 17 j 2)) (ci := 1) (C := RX2) (T := TX2) (N := 4) hx hb hts hin_X2 hown hK hW 17 j (PO_k17 hp) rfl 2 (by decide) (List.mem_of_getElem? (i := 1) rfl) rfl rfl rfl dX2_addApproval_2 ?_
  refine lv_iconst (v := 1) hx hb dX2_addApproval_5 (by decide) ?_
  refine lv_iload_n hx hb dX2_addApproval_6 rfl (lv_at hl 1 rfl) ?_
  refine lv_ishl hx hb dX2_addApproval_7 ?_
  refine lv_ior hx hb dX2_addApproval_8 ?_
  refine ow_puti (ci := 1) (C := RX2) (T := TX2) (N := 4) (ty := .int) hx hb hts hin_X2 tyX2 tyX2_ok nmX2 hown hK hW hS 17 j (PO_k17 hp) rfl 2 (by decide) (List.mem_of_getElem? (i := 1) rfl) rfl rfl (by decide +kernel) rfl rfl (Nat.le_of_ble_eq_true rfl) (by decide) (PO_w17_2 hp) dX2_addApproval_9 (fun H locs hW hS => ?_)
  exact ow_vret hx hb hr hlk hK hW hS (by rw [m_X2_addApproval]) dX2_addApproval_12

def m_X2_approvals (q : qC) (j : Nat) : Int32 := (m_J6_bitCount_0f7a4 (q.1 17 j 2))
set_option maxHeartbeats 4000000 in
set_option maxRecDepth 100000 in
theorem c_X2_approvals (l : Launch) (D : va_G) (b0 : Nat) (cA : Nat → ClassId) (ad : Nat → Nat → Nat) (mq : qM) (q : qC) (j : Nat) (hp : ¬ q.1 6 0 j = 0) : cc_i l yX2_approvals wsX2_approvals 1 20 D b0 cA ad mq q [.ref (ad 17 j)] (m_X2_approvals q j, q) := by
  refine cc_of (by decide) rfl (Nat.le_of_ble_eq_true rfl) ?_
  intro p e s m below meth c hx hb hml hr hlk hown hts hK hW hKD ls hl
  have hown : s.vm.findClass RX2 = some m.cls := hown
  have hS : va_S (wA b0) s.heap s.heap [] := va_S.rf
  have hl : lv_has ls 1 [(0, .ref (ad 17 j))] := hl
  have hin_X2 : ∀ w ∈ wsX20, w ∈ wsX2_approvals := fun w h => List.mem_cons_of_mem _ (List.mem_append_right _ h)
  refine lv_aload_n hx hb dX2_approvals_0 rfl (lv_at hl 0 rfl) ?_
  refine ow_get (v2 := .int (q.1 17 j 2)) (ci := 1) (C := RX2) (T := TX2) (N := 4) hx hb hts hin_X2 hown hK hW 17 j (PO_k17 hp) rfl 2 (by decide) (List.mem_of_getElem? (i := 1) rfl) rfl rfl rfl dX2_approvals_1 ?_
  refine ow_callSi (n := 1) (As := [.int (q.1 17 j 2)]) (rest := []) (r := (m_J6_bitCount_0f7a4 (q.1 17 j 2))) (z2 := q) ⟨hx, hb, hml, hown, hts⟩ (c_J6_bitCount_0f7a4 l D b0 cA ad mq q (q.1 17 j 2)) gX2_approvals_J6_bitCount_0f7a4 rfl (by decide +kernel) rfl ⟨Nat.le_of_ble_eq_true rfl, Nat.le_of_ble_eq_true rfl⟩ ⟨Nat.le_of_ble_eq_true rfl, Nat.le_of_ble_eq_true rfl⟩ hK hW hS hKD hl.1 rfl (Nat.le_of_ble_eq_true rfl) dX2_approvals_4 (fun H locs hW hS => ?_)
  exact ow_iret hx hb hr hlk hK hW hS (by rw [m_X2_approvals]) dX2_approvals_7

def m_X2_recordAtPlace_lp (q : qC) (j : Nat) (pl : Int32) : Nat → Int32 → Int32 → Int32
  | 0, _, _ => 0
  | n + 1, bf, r => (if 64 ≤ r then (-1) else (if (m_X2_has q j r) = 0 then (m_X2_recordAtPlace_lp q j pl n bf (r + 1)) else (if bf = pl then r else (m_X2_recordAtPlace_lp q j pl n (bf + 1) (r + 1)))))
def m_X2_recordAtPlace (q : qC) (j : Nat) (pl : Int32) : Int32 := (m_X2_recordAtPlace_lp q j pl 66 0 0)
set_option maxHeartbeats 4000000 in
set_option maxRecDepth 100000 in
theorem c_X2_recordAtPlace (l : Launch) (D : va_G) (b0 : Nat) (cA : Nat → ClassId) (ad : Nat → Nat → Nat) (mq : qM) (q : qC) (j : Nat) (pl : Int32) (hp : ¬ q.1 6 0 j = 0) : cc_i l yX2_recordAtPlace wsX2_recordAtPlace 1 21 D b0 cA ad mq q [.ref (ad 17 j), .int pl] (m_X2_recordAtPlace q j pl, q) := by
  refine cc_of (by decide) rfl (Nat.le_of_ble_eq_true rfl) ?_
  intro p e s m below meth c hx hb hml hr hlk hown hts hK hW hKD ls hl
  have hown : s.vm.findClass RX2 = some m.cls := hown
  have hS : va_S (wA b0) s.heap s.heap [] := va_S.rf
  have hl : lv_has ls 4 [(0, .ref (ad 17 j)), (1, .int pl)] := hl
  have hin_X2 : ∀ w ∈ wsX20, w ∈ wsX2_recordAtPlace := fun w h => List.mem_cons_of_mem _ (List.mem_append_right _ h)
  refine lv_iconst (v := 0) hx hb dX2_recordAtPlace_0 (by decide) ?_
  refine lv_istore_n (lv' := [(2, .int 0), (0, .ref (ad 17 j)), (1, .int pl)]) hx hb dX2_recordAtPlace_1 rfl hl (by decide) rfl (fun ls hl => ?_)
  refine lv_iconst (v := 0) hx hb dX2_recordAtPlace_2 (by decide) ?_
  refine lv_istore_n (lv' := [(3, .int 0), (2, .int 0), (0, .ref (ad 17 j)), (1, .int pl)]) hx hb dX2_recordAtPlace_3 rfl hl (by decide) rfl (fun ls hl => ?_)
  have lp_8 : ∀ (n : Nat) (bf : Int32) (r : Int32), (0 ≤ r.toInt ∧ r.toInt ≤ 64) → 64 - r.toInt < (n : Int) → ∀ (H : Heap) (locs : List Loc), wd D (wA b0) (PO cA ad q mq) ad H → va_S (wA b0) s.heap H locs → ∀ ls : Array Slot, lv_has ls 4 [(2, .int bf), (3, .int r), (0, .ref (ad 17 j)), (1, .int pl)] → W p l e { frames := 1, cells := 0, slots := 0, locals := 21 } s m [.ref (ad 17 j), .int pl].toArray below meth c H locs 0 0 (MQ below (va_Qi (fun zz (_ : Unit) => zz = (((m_X2_recordAtPlace_lp q j pl n bf r), q) : Int32 × qC).1) (fun _ U => WE D b0 cA ad mq (((m_X2_recordAtPlace_lp q j pl n bf r), q) : Int32 × qC).2 U) (wA b0)) [.ref (ad 17 j), .int pl].toArray s 0 0 (wA b0)) (F0 m 4 ls []) := by
    intro n
    induction n with
    | zero =>
      intro bf r i1 hm
      have hz : 0 ≤ 64 - r.toInt := by
        have w_1 := i1
        omega
      exact absurd hm (by omega)
    | succ n ih =>
      intro bf r i1 hm H locs hW hS ls hl
      rw [m_X2_recordAtPlace_lp]
      refine lv_iload_n hx hb dX2_recordAtPlace_4 rfl (lv_at hl 1 rfl) ?_
      refine lv_bipush (v := 64) hx hb dX2_recordAtPlace_5 (by decide) ?_
      refine lv_icmp_ge (tgt := 34) hx hb dX2_recordAtPlace_7 (by decide) (fun c_1 => ?_) (fun c_1 => ?_)
      · rw [if_pos c_1]
        refine lv_iconst (v := (-1)) hx hb dX2_recordAtPlace_34 (by decide) ?_
        exact ow_iret hx hb hr hlk hK hW hS rfl dX2_recordAtPlace_35
      · rw [if_neg c_1]
        refine lv_aload_n hx hb dX2_recordAtPlace_10 rfl (lv_at hl 2 rfl) ?_
        refine lv_iload_n hx hb dX2_recordAtPlace_11 rfl (lv_at hl 1 rfl) ?_
        refine ow_callVi (C := RX2) (T := TX2) (N := 4) (ci := 1) (k := 17) (j := j) (n := 1) (As := [.int r]) (rest := []) (r := (m_X2_has q j r)) (z2 := q) ⟨hx, hb, hml, hown, hts⟩ (c_X2_has l D b0 cA ad mq q j r hp) (PO_k17 hp) rfl gX2_recordAtPlace_X2_has rfl (by decide +kernel) rfl ⟨Nat.le_of_ble_eq_true rfl, Nat.le_of_ble_eq_true rfl⟩ ⟨Nat.le_of_ble_eq_true rfl, Nat.le_of_ble_eq_true rfl⟩ hK hW hS hKD hl.1 rfl (Nat.le_of_ble_eq_true rfl) dX2_recordAtPlace_12 (fun H locs hW hS => ?_)
        refine lv_if_eq (tgt := 28) hx hb dX2_recordAtPlace_15 (by decide) (fun c_2 => ?_) (fun c_2 => ?_)
        · rw [if_pos c_2]
          refine lv_iinc (v := (r + 1)) (lv' := [(3, .int (r + 1)), (2, .int bf), (0, .ref (ad 17 j)), (1, .int pl)]) hx hb dX2_recordAtPlace_28 hl (k := 1) rfl (by first | rfl | decide) (by decide) rfl (fun ls hl => ?_)
          refine lv_goto (tgt := 4) hx hb dX2_recordAtPlace_31 (by decide) ?_
          have h_3 : 0 ≤ (r + 1).toInt ∧ (r + 1).toInt ≤ 64 := by
            have u_1 := rg_e bf
            have u_2 := rg_e r
            have k_3 : (1 : Int32).toInt = 1 := rfl
            have k_5 : (64 : Int32).toInt = 64 := rfl
            have v_6 := cv_nle c_1
            have u_7 := rg_e (m_X2_has q j r)
            have k_8 : (0 : Int32).toInt = 0 := rfl
            have v_9 := cv_eq c_2
            have w_10 := i1
            have u_4 := ad_o r 1
            omega
          have h_4 : 64 - (r + 1).toInt < (n : Int) := by
            have u_1 := rg_e bf
            have u_2 := rg_e r
            have k_3 : (1 : Int32).toInt = 1 := rfl
            have k_5 : (64 : Int32).toInt = 64 := rfl
            have v_6 := cv_nle c_1
            have u_7 := rg_e (m_X2_has q j r)
            have k_8 : (0 : Int32).toInt = 0 := rfl
            have v_9 := cv_eq c_2
            have w_10 := i1
            have w_11 := hm
            have u_4 := ad_o r 1
            omega
          exact ih bf (r + 1) h_3 h_4 _ _ hW hS ls (lv_sub hl [1, 0, 2, 3] rfl)
        · rw [if_neg c_2]
          refine lv_iload_n hx hb dX2_recordAtPlace_18 rfl (lv_at hl 0 rfl) ?_
          refine lv_iload_n hx hb dX2_recordAtPlace_19 rfl (lv_at hl 3 rfl) ?_
          refine lv_icmp_ne (tgt := 25) hx hb dX2_recordAtPlace_20 (by decide) (fun c_5 => ?_) (fun c_5 => ?_)
          · rw [if_neg c_5]
            refine lv_iinc (v := (bf + 1)) (lv' := [(2, .int (bf + 1)), (3, .int r), (0, .ref (ad 17 j)), (1, .int pl)]) hx hb dX2_recordAtPlace_25 hl (k := 0) rfl (by first | rfl | decide) (by decide) rfl (fun ls hl => ?_)
            refine lv_iinc (v := (r + 1)) (lv' := [(3, .int (r + 1)), (2, .int (bf + 1)), (0, .ref (ad 17 j)), (1, .int pl)]) hx hb dX2_recordAtPlace_28 hl (k := 1) rfl (by first | rfl | decide) (by decide) rfl (fun ls hl => ?_)
            refine lv_goto (tgt := 4) hx hb dX2_recordAtPlace_31 (by decide) ?_
            have h_6 : 0 ≤ (r + 1).toInt ∧ (r + 1).toInt ≤ 64 := by
              have u_1 := rg_e bf
              have k_2 : (1 : Int32).toInt = 1 := rfl
              have u_4 := rg_e r
              have k_6 : (64 : Int32).toInt = 64 := rfl
              have v_7 := cv_nle c_1
              have u_8 := rg_e (m_X2_has q j r)
              have k_9 : (0 : Int32).toInt = 0 := rfl
              have v_10 := cv_ne c_2
              have u_11 := rg_e pl
              have v_12 := cv_ne c_5
              have w_13 := i1
              have u_3 := ad_o bf 1
              have u_5 := ad_o r 1
              omega
            have h_7 : 64 - (r + 1).toInt < (n : Int) := by
              have u_1 := rg_e bf
              have k_2 : (1 : Int32).toInt = 1 := rfl
              have u_4 := rg_e r
              have k_6 : (64 : Int32).toInt = 64 := rfl
              have v_7 := cv_nle c_1
              have u_8 := rg_e (m_X2_has q j r)
              have k_9 : (0 : Int32).toInt = 0 := rfl
              have v_10 := cv_ne c_2
              have u_11 := rg_e pl
              have v_12 := cv_ne c_5
              have w_13 := i1
              have w_14 := hm
              have u_3 := ad_o bf 1
              have u_5 := ad_o r 1
              omega
            exact ih (bf + 1) (r + 1) h_6 h_7 _ _ hW hS ls (lv_sub hl [1, 0, 2, 3] rfl)
          · rw [if_pos c_5]
            refine lv_iload_n hx hb dX2_recordAtPlace_23 rfl (lv_at hl 1 rfl) ?_
            exact ow_iret hx hb hr hlk hK hW hS rfl dX2_recordAtPlace_24
  have h_9 : 0 ≤ (0 : Int32).toInt ∧ (0 : Int32).toInt ≤ 64 := by
    have k_1 : (0 : Int32).toInt = 0 := rfl
    omega
  have h_10 : 64 - (0 : Int32).toInt < ((66 : Nat) : Int) := by
    have k_1 : (0 : Int32).toInt = 0 := rfl
    omega
  rw [show m_X2_recordAtPlace q j pl = (m_X2_recordAtPlace_lp q j pl 66 0 0) from by rw [m_X2_recordAtPlace]]
  exact lp_8 66 0 0 h_9 h_10 _ _ hW hS ls (lv_sub hl [1, 0, 2, 3] rfl)

def m_X3_hasKey (q : qC) (j : Nat) (key : Int32) : Int32 := (if (q.1 16 j 3) = key then 1 else (if (q.1 16 j 4) = key then 1 else (if (q.1 16 j 5) = key then 1 else 0)))
set_option maxHeartbeats 4000000 in
set_option maxRecDepth 100000 in
theorem c_X3_hasKey (l : Launch) (D : va_G) (b0 : Nat) (cA : Nat → ClassId) (ad : Nat → Nat → Nat) (mq : qM) (q : qC) (j : Nat) (key : Int32) (hp : ¬ q.1 5 0 j = 0) : cc_i l yX3_hasKey wsX3_hasKey 0 0 D b0 cA ad mq q [.ref (ad 16 j), .int key] (m_X3_hasKey q j key, q) := by
  refine cc_of (by decide) rfl (Nat.le_of_ble_eq_true rfl) ?_
  intro p e s m below meth c hx hb hml hr hlk hown hts hK hW hKD ls hl
  have hown : s.vm.findClass RX3 = some m.cls := hown
  have hS : va_S (wA b0) s.heap s.heap [] := va_S.rf
  have hl : lv_has ls 2 [(0, .ref (ad 16 j)), (1, .int key)] := hl
  have hin_X3 : ∀ w ∈ wsX30, w ∈ wsX3_hasKey := fun w h => List.mem_cons_of_mem _ (List.mem_append_right _ h)
  refine lv_aload_n hx hb dX3_hasKey_0 rfl (lv_at hl 0 rfl) ?_
  refine ow_get (v2 := .int (q.1 16 j 3)) (ci := 2) (C := RX3) (T := TX3) (N := 8) hx hb hts hin_X3 hown hK hW 16 j (PO_k16 hp) rfl 3 (by decide) (List.mem_of_getElem? (i := 1) rfl) rfl rfl rfl dX3_hasKey_1 ?_
  refine lv_iload_n hx hb dX3_hasKey_4 rfl (lv_at hl 1 rfl) ?_
  refine lv_icmp_eq (tgt := 24) hx hb dX3_hasKey_5 (by decide) (fun c_1 => ?_) (fun c_1 => ?_)
  · refine lv_iconst (v := 1) hx hb dX3_hasKey_24 (by decide) ?_
    refine lv_goto (tgt := 29) hx hb dX3_hasKey_25 (by decide) ?_
    exact ow_zret hx hb hr hlk hK hW hS rfl (by rw [m_X3_hasKey, if_pos c_1]) dX3_hasKey_29
  · refine lv_aload_n hx hb dX3_hasKey_8 rfl (lv_at hl 0 rfl) ?_
    refine ow_get (v2 := .int (q.1 16 j 4)) (ci := 2) (C := RX3) (T := TX3) (N := 8) hx hb hts hin_X3 hown hK hW 16 j (PO_k16 hp) rfl 4 (by decide) (List.mem_of_getElem? (i := 2) rfl) rfl rfl rfl dX3_hasKey_9 ?_
    refine lv_iload_n hx hb dX3_hasKey_12 rfl (lv_at hl 1 rfl) ?_
    refine lv_icmp_eq (tgt := 24) hx hb dX3_hasKey_13 (by decide) (fun c_2 => ?_) (fun c_2 => ?_)
    · refine lv_iconst (v := 1) hx hb dX3_hasKey_24 (by decide) ?_
      refine lv_goto (tgt := 29) hx hb dX3_hasKey_25 (by decide) ?_
      exact ow_zret hx hb hr hlk hK hW hS rfl (by rw [m_X3_hasKey, if_neg c_1, if_pos c_2]) dX3_hasKey_29
    · refine lv_aload_n hx hb dX3_hasKey_16 rfl (lv_at hl 0 rfl) ?_
      refine ow_get (v2 := .int (q.1 16 j 5)) (ci := 2) (C := RX3) (T := TX3) (N := 8) hx hb hts hin_X3 hown hK hW 16 j (PO_k16 hp) rfl 5 (by decide) (List.mem_of_getElem? (i := 3) rfl) rfl rfl rfl dX3_hasKey_17 ?_
      refine lv_iload_n hx hb dX3_hasKey_20 rfl (lv_at hl 1 rfl) ?_
      refine lv_icmp_ne (tgt := 28) hx hb dX3_hasKey_21 (by decide) (fun c_3 => ?_) (fun c_3 => ?_)
      · refine lv_iconst (v := 0) hx hb dX3_hasKey_28 (by decide) ?_
        exact ow_zret hx hb hr hlk hK hW hS rfl (by rw [m_X3_hasKey, if_neg c_1, if_neg c_2, if_neg c_3]) dX3_hasKey_29
      · refine lv_iconst (v := 1) hx hb dX3_hasKey_24 (by decide) ?_
        refine lv_goto (tgt := 29) hx hb dX3_hasKey_25 (by decide) ?_
        exact ow_zret hx hb hr hlk hK hW hS rfl (by rw [m_X3_hasKey, if_neg c_1, if_neg c_2, if_pos c_3]) dX3_hasKey_29

def m_X3_keyCount (q : qC) (j : Nat) : Int32 := (if (q.1 16 j 3) = (-1) then (if (q.1 16 j 4) = (-1) then (if (q.1 16 j 5) = (-1) then 0 else (if (q.1 16 j 5) = (q.1 16 j 3) then 0 else (if (q.1 16 j 5) = (q.1 16 j 4) then 0 else 1))) else (if (q.1 16 j 4) = (q.1 16 j 3) then (if (q.1 16 j 5) = (-1) then 0 else (if (q.1 16 j 5) = (q.1 16 j 3) then 0 else (if (q.1 16 j 5) = (q.1 16 j 4) then 0 else 1))) else (if (q.1 16 j 5) = (-1) then 1 else (if (q.1 16 j 5) = (q.1 16 j 3) then 1 else (if (q.1 16 j 5) = (q.1 16 j 4) then 1 else 2))))) else (if (q.1 16 j 4) = (-1) then (if (q.1 16 j 5) = (-1) then 1 else (if (q.1 16 j 5) = (q.1 16 j 3) then 1 else (if (q.1 16 j 5) = (q.1 16 j 4) then 1 else 2))) else (if (q.1 16 j 4) = (q.1 16 j 3) then (if (q.1 16 j 5) = (-1) then 1 else (if (q.1 16 j 5) = (q.1 16 j 3) then 1 else (if (q.1 16 j 5) = (q.1 16 j 4) then 1 else 2))) else (if (q.1 16 j 5) = (-1) then 2 else (if (q.1 16 j 5) = (q.1 16 j 3) then 2 else (if (q.1 16 j 5) = (q.1 16 j 4) then 2 else 3))))))
set_option maxHeartbeats 4000000 in
set_option maxRecDepth 100000 in
theorem c_X3_keyCount (l : Launch) (D : va_G) (b0 : Nat) (cA : Nat → ClassId) (ad : Nat → Nat → Nat) (mq : qM) (q : qC) (j : Nat) (hp : ¬ q.1 5 0 j = 0) : cc_i l yX3_keyCount wsX3_keyCount 0 0 D b0 cA ad mq q [.ref (ad 16 j)] (m_X3_keyCount q j, q) := by
  refine cc_of (by decide) rfl (Nat.le_of_ble_eq_true rfl) ?_
  intro p e s m below meth c hx hb hml hr hlk hown hts hK hW hKD ls hl
  have hown : s.vm.findClass RX3 = some m.cls := hown
  have hS : va_S (wA b0) s.heap s.heap [] := va_S.rf
  have hl : lv_has ls 2 [(0, .ref (ad 16 j))] := hl
  have hin_X3 : ∀ w ∈ wsX30, w ∈ wsX3_keyCount := fun w h => List.mem_cons_of_mem _ (List.mem_append_right _ h)
  refine lv_aload_n hx hb dX3_keyCount_0 rfl (lv_at hl 0 rfl) ?_
  refine ow_get (v2 := .int (q.1 16 j 3)) (ci := 2) (C := RX3) (T := TX3) (N := 8) hx hb hts hin_X3 hown hK hW 16 j (PO_k16 hp) rfl 3 (by decide) (List.mem_of_getElem? (i := 1) rfl) rfl rfl rfl dX3_keyCount_1 ?_
  refine lv_iconst (v := (-1)) hx hb dX3_keyCount_4 (by decide) ?_
  refine lv_icmp_ne (tgt := 12) hx hb dX3_keyCount_5 (by decide) (fun c_1 => ?_) (fun c_1 => ?_)
  · refine lv_iconst (v := 1) hx hb dX3_keyCount_12 (by decide) ?_
    refine lv_istore_n (lv' := [(1, .int 1), (0, .ref (ad 16 j))]) hx hb dX3_keyCount_13 rfl hl (by decide) rfl (fun ls hl => ?_)
    refine lv_aload_n hx hb dX3_keyCount_14 rfl (lv_at hl 1 rfl) ?_
    refine ow_get (v2 := .int (q.1 16 j 4)) (ci := 2) (C := RX3) (T := TX3) (N := 8) hx hb hts hin_X3 hown hK hW 16 j (PO_k16 hp) rfl 4 (by decide) (List.mem_of_getElem? (i := 2) rfl) rfl rfl rfl dX3_keyCount_15 ?_
    refine lv_iconst (v := (-1)) hx hb dX3_keyCount_18 (by decide) ?_
    refine lv_icmp_eq (tgt := 36) hx hb dX3_keyCount_19 (by decide) (fun c_2 => ?_) (fun c_2 => ?_)
    · refine lv_aload_n hx hb dX3_keyCount_36 rfl (lv_at hl 1 rfl) ?_
      refine ow_get (v2 := .int (q.1 16 j 5)) (ci := 2) (C := RX3) (T := TX3) (N := 8) hx hb hts hin_X3 hown hK hW 16 j (PO_k16 hp) rfl 5 (by decide) (List.mem_of_getElem? (i := 3) rfl) rfl rfl rfl dX3_keyCount_37 ?_
      refine lv_iconst (v := (-1)) hx hb dX3_keyCount_40 (by decide) ?_
      refine lv_icmp_eq (tgt := 69) hx hb dX3_keyCount_41 (by decide) (fun c_3 => ?_) (fun c_3 => ?_)
      · refine lv_iload_n hx hb dX3_keyCount_69 rfl (lv_at hl 0 rfl) ?_
        exact ow_iret hx hb hr hlk hK hW hS (by rw [m_X3_keyCount, if_neg c_1, if_pos c_2, if_pos c_3]) dX3_keyCount_70
      · refine lv_aload_n hx hb dX3_keyCount_44 rfl (lv_at hl 1 rfl) ?_
        refine ow_get (v2 := .int (q.1 16 j 5)) (ci := 2) (C := RX3) (T := TX3) (N := 8) hx hb hts hin_X3 hown hK hW 16 j (PO_k16 hp) rfl 5 (by decide) (List.mem_of_getElem? (i := 3) rfl) rfl rfl rfl dX3_keyCount_45 ?_
        refine lv_aload_n hx hb dX3_keyCount_48 rfl (lv_at hl 1 rfl) ?_
        refine ow_get (v2 := .int (q.1 16 j 3)) (ci := 2) (C := RX3) (T := TX3) (N := 8) hx hb hts hin_X3 hown hK hW 16 j (PO_k16 hp) rfl 3 (by decide) (List.mem_of_getElem? (i := 1) rfl) rfl rfl rfl dX3_keyCount_49 ?_
        refine lv_icmp_eq (tgt := 69) hx hb dX3_keyCount_52 (by decide) (fun c_4 => ?_) (fun c_4 => ?_)
        · refine lv_iload_n hx hb dX3_keyCount_69 rfl (lv_at hl 0 rfl) ?_
          exact ow_iret hx hb hr hlk hK hW hS (by rw [m_X3_keyCount, if_neg c_1, if_pos c_2, if_neg c_3, if_pos c_4]) dX3_keyCount_70
        · refine lv_aload_n hx hb dX3_keyCount_55 rfl (lv_at hl 1 rfl) ?_
          refine ow_get (v2 := .int (q.1 16 j 5)) (ci := 2) (C := RX3) (T := TX3) (N := 8) hx hb hts hin_X3 hown hK hW 16 j (PO_k16 hp) rfl 5 (by decide) (List.mem_of_getElem? (i := 3) rfl) rfl rfl rfl dX3_keyCount_56 ?_
          refine lv_aload_n hx hb dX3_keyCount_59 rfl (lv_at hl 1 rfl) ?_
          refine ow_get (v2 := .int (q.1 16 j 4)) (ci := 2) (C := RX3) (T := TX3) (N := 8) hx hb hts hin_X3 hown hK hW 16 j (PO_k16 hp) rfl 4 (by decide) (List.mem_of_getElem? (i := 2) rfl) rfl rfl rfl dX3_keyCount_60 ?_
          refine lv_icmp_eq (tgt := 69) hx hb dX3_keyCount_63 (by decide) (fun c_5 => ?_) (fun c_5 => ?_)
          · refine lv_iload_n hx hb dX3_keyCount_69 rfl (lv_at hl 0 rfl) ?_
            exact ow_iret hx hb hr hlk hK hW hS (by rw [m_X3_keyCount, if_neg c_1, if_pos c_2, if_neg c_3, if_neg c_4, if_pos c_5]) dX3_keyCount_70
          · refine lv_iinc (v := 2) (lv' := [(1, .int 2), (0, .ref (ad 16 j))]) hx hb dX3_keyCount_66 hl (k := 0) rfl (by first | rfl | decide) (by decide) rfl (fun ls hl => ?_)
            refine lv_iload_n hx hb dX3_keyCount_69 rfl (lv_at hl 0 rfl) ?_
            exact ow_iret hx hb hr hlk hK hW hS (by rw [m_X3_keyCount, if_neg c_1, if_pos c_2, if_neg c_3, if_neg c_4, if_neg c_5]) dX3_keyCount_70
    · refine lv_aload_n hx hb dX3_keyCount_22 rfl (lv_at hl 1 rfl) ?_
      refine ow_get (v2 := .int (q.1 16 j 4)) (ci := 2) (C := RX3) (T := TX3) (N := 8) hx hb hts hin_X3 hown hK hW 16 j (PO_k16 hp) rfl 4 (by decide) (List.mem_of_getElem? (i := 2) rfl) rfl rfl rfl dX3_keyCount_23 ?_
      refine lv_aload_n hx hb dX3_keyCount_26 rfl (lv_at hl 1 rfl) ?_
      refine ow_get (v2 := .int (q.1 16 j 3)) (ci := 2) (C := RX3) (T := TX3) (N := 8) hx hb hts hin_X3 hown hK hW 16 j (PO_k16 hp) rfl 3 (by decide) (List.mem_of_getElem? (i := 1) rfl) rfl rfl rfl dX3_keyCount_27 ?_
      refine lv_icmp_eq (tgt := 36) hx hb dX3_keyCount_30 (by decide) (fun c_6 => ?_) (fun c_6 => ?_)
      · refine lv_aload_n hx hb dX3_keyCount_36 rfl (lv_at hl 1 rfl) ?_
        refine ow_get (v2 := .int (q.1 16 j 5)) (ci := 2) (C := RX3) (T := TX3) (N := 8) hx hb hts hin_X3 hown hK hW 16 j (PO_k16 hp) rfl 5 (by decide) (List.mem_of_getElem? (i := 3) rfl) rfl rfl rfl dX3_keyCount_37 ?_
        refine lv_iconst (v := (-1)) hx hb dX3_keyCount_40 (by decide) ?_
        refine lv_icmp_eq (tgt := 69) hx hb dX3_keyCount_41 (by decide) (fun c_7 => ?_) (fun c_7 => ?_)
        · refine lv_iload_n hx hb dX3_keyCount_69 rfl (lv_at hl 0 rfl) ?_
          exact ow_iret hx hb hr hlk hK hW hS (by rw [m_X3_keyCount, if_neg c_1, if_neg c_2, if_pos c_6, if_pos c_7]) dX3_keyCount_70
        · refine lv_aload_n hx hb dX3_keyCount_44 rfl (lv_at hl 1 rfl) ?_
          refine ow_get (v2 := .int (q.1 16 j 5)) (ci := 2) (C := RX3) (T := TX3) (N := 8) hx hb hts hin_X3 hown hK hW 16 j (PO_k16 hp) rfl 5 (by decide) (List.mem_of_getElem? (i := 3) rfl) rfl rfl rfl dX3_keyCount_45 ?_
          refine lv_aload_n hx hb dX3_keyCount_48 rfl (lv_at hl 1 rfl) ?_
          refine ow_get (v2 := .int (q.1 16 j 3)) (ci := 2) (C := RX3) (T := TX3) (N := 8) hx hb hts hin_X3 hown hK hW 16 j (PO_k16 hp) rfl 3 (by decide) (List.mem_of_getElem? (i := 1) rfl) rfl rfl rfl dX3_keyCount_49 ?_
          refine lv_icmp_eq (tgt := 69) hx hb dX3_keyCount_52 (by decide) (fun c_8 => ?_) (fun c_8 => ?_)
          · refine lv_iload_n hx hb dX3_keyCount_69 rfl (lv_at hl 0 rfl) ?_
            exact ow_iret hx hb hr hlk hK hW hS (by rw [m_X3_keyCount, if_neg c_1, if_neg c_2, if_pos c_6, if_neg c_7, if_pos c_8]) dX3_keyCount_70
          · refine lv_aload_n hx hb dX3_keyCount_55 rfl (lv_at hl 1 rfl) ?_
            refine ow_get (v2 := .int (q.1 16 j 5)) (ci := 2) (C := RX3) (T := TX3) (N := 8) hx hb hts hin_X3 hown hK hW 16 j (PO_k16 hp) rfl 5 (by decide) (List.mem_of_getElem? (i := 3) rfl) rfl rfl rfl dX3_keyCount_56 ?_
            refine lv_aload_n hx hb dX3_keyCount_59 rfl (lv_at hl 1 rfl) ?_
            refine ow_get (v2 := .int (q.1 16 j 4)) (ci := 2) (C := RX3) (T := TX3) (N := 8) hx hb hts hin_X3 hown hK hW 16 j (PO_k16 hp) rfl 4 (by decide) (List.mem_of_getElem? (i := 2) rfl) rfl rfl rfl dX3_keyCount_60 ?_
            refine lv_icmp_eq (tgt := 69) hx hb dX3_keyCount_63 (by decide) (fun c_9 => ?_) (fun c_9 => ?_)
            · refine lv_iload_n hx hb dX3_keyCount_69 rfl (lv_at hl 0 rfl) ?_
              exact ow_iret hx hb hr hlk hK hW hS (by rw [m_X3_keyCount, if_neg c_1, if_neg c_2, if_pos c_6, if_neg c_7, if_neg c_8, if_pos c_9]) dX3_keyCount_70
            · refine lv_iinc (v := 2) (lv' := [(1, .int 2), (0, .ref (ad 16 j))]) hx hb dX3_keyCount_66 hl (k := 0) rfl (by first | rfl | decide) (by decide) rfl (fun ls hl => ?_)
              refine lv_iload_n hx hb dX3_keyCount_69 rfl (lv_at hl 0 rfl) ?_
              exact ow_iret hx hb hr hlk hK hW hS (by rw [m_X3_keyCount, if_neg c_1, if_neg c_2, if_pos c_6, if_neg c_7, if_neg c_8, if_neg c_9]) dX3_keyCount_70
      · refine lv_iinc (v := 2) (lv' := [(1, .int 2), (0, .ref (ad 16 j))]) hx hb dX3_keyCount_33 hl (k := 0) rfl (by first | rfl | decide) (by decide) rfl (fun ls hl => ?_)
        refine lv_aload_n hx hb dX3_keyCount_36 rfl (lv_at hl 1 rfl) ?_
        refine ow_get (v2 := .int (q.1 16 j 5)) (ci := 2) (C := RX3) (T := TX3) (N := 8) hx hb hts hin_X3 hown hK hW 16 j (PO_k16 hp) rfl 5 (by decide) (List.mem_of_getElem? (i := 3) rfl) rfl rfl rfl dX3_keyCount_37 ?_
        refine lv_iconst (v := (-1)) hx hb dX3_keyCount_40 (by decide) ?_
        refine lv_icmp_eq (tgt := 69) hx hb dX3_keyCount_41 (by decide) (fun c_10 => ?_) (fun c_10 => ?_)
        · refine lv_iload_n hx hb dX3_keyCount_69 rfl (lv_at hl 0 rfl) ?_
          exact ow_iret hx hb hr hlk hK hW hS (by rw [m_X3_keyCount, if_neg c_1, if_neg c_2, if_neg c_6, if_pos c_10]) dX3_keyCount_70
        · refine lv_aload_n hx hb dX3_keyCount_44 rfl (lv_at hl 1 rfl) ?_
          refine ow_get (v2 := .int (q.1 16 j 5)) (ci := 2) (C := RX3) (T := TX3) (N := 8) hx hb hts hin_X3 hown hK hW 16 j (PO_k16 hp) rfl 5 (by decide) (List.mem_of_getElem? (i := 3) rfl) rfl rfl rfl dX3_keyCount_45 ?_
          refine lv_aload_n hx hb dX3_keyCount_48 rfl (lv_at hl 1 rfl) ?_
          refine ow_get (v2 := .int (q.1 16 j 3)) (ci := 2) (C := RX3) (T := TX3) (N := 8) hx hb hts hin_X3 hown hK hW 16 j (PO_k16 hp) rfl 3 (by decide) (List.mem_of_getElem? (i := 1) rfl) rfl rfl rfl dX3_keyCount_49 ?_
          refine lv_icmp_eq (tgt := 69) hx hb dX3_keyCount_52 (by decide) (fun c_11 => ?_) (fun c_11 => ?_)
          · refine lv_iload_n hx hb dX3_keyCount_69 rfl (lv_at hl 0 rfl) ?_
            exact ow_iret hx hb hr hlk hK hW hS (by rw [m_X3_keyCount, if_neg c_1, if_neg c_2, if_neg c_6, if_neg c_10, if_pos c_11]) dX3_keyCount_70
          · refine lv_aload_n hx hb dX3_keyCount_55 rfl (lv_at hl 1 rfl) ?_
            refine ow_get (v2 := .int (q.1 16 j 5)) (ci := 2) (C := RX3) (T := TX3) (N := 8) hx hb hts hin_X3 hown hK hW 16 j (PO_k16 hp) rfl 5 (by decide) (List.mem_of_getElem? (i := 3) rfl) rfl rfl rfl dX3_keyCount_56 ?_
            refine lv_aload_n hx hb dX3_keyCount_59 rfl (lv_at hl 1 rfl) ?_
            refine ow_get (v2 := .int (q.1 16 j 4)) (ci := 2) (C := RX3) (T := TX3) (N := 8) hx hb hts hin_X3 hown hK hW 16 j (PO_k16 hp) rfl 4 (by decide) (List.mem_of_getElem? (i := 2) rfl) rfl rfl rfl dX3_keyCount_60 ?_
            refine lv_icmp_eq (tgt := 69) hx hb dX3_keyCount_63 (by decide) (fun c_12 => ?_) (fun c_12 => ?_)
            · refine lv_iload_n hx hb dX3_keyCount_69 rfl (lv_at hl 0 rfl) ?_
              exact ow_iret hx hb hr hlk hK hW hS (by rw [m_X3_keyCount, if_neg c_1, if_neg c_2, if_neg c_6, if_neg c_10, if_neg c_11, if_pos c_12]) dX3_keyCount_70
            · refine lv_iinc (v := 3) (lv' := [(1, .int 3), (0, .ref (ad 16 j))]) hx hb dX3_keyCount_66 hl (k := 0) rfl (by first | rfl | decide) (by decide) rfl (fun ls hl => ?_)
              refine lv_iload_n hx hb dX3_keyCount_69 rfl (lv_at hl 0 rfl) ?_
              exact ow_iret hx hb hr hlk hK hW hS (by rw [m_X3_keyCount, if_neg c_1, if_neg c_2, if_neg c_6, if_neg c_10, if_neg c_11, if_neg c_12]) dX3_keyCount_70
  · refine lv_iconst (v := 0) hx hb dX3_keyCount_8 (by decide) ?_
    refine lv_goto (tgt := 13) hx hb dX3_keyCount_9 (by decide) ?_
    refine lv_istore_n (lv' := [(1, .int 0), (0, .ref (ad 16 j))]) hx hb dX3_keyCount_13 rfl hl (by decide) rfl (fun ls hl => ?_)
    refine lv_aload_n hx hb dX3_keyCount_14 rfl (lv_at hl 1 rfl) ?_
    refine ow_get (v2 := .int (q.1 16 j 4)) (ci := 2) (C := RX3) (T := TX3) (N := 8) hx hb hts hin_X3 hown hK hW 16 j (PO_k16 hp) rfl 4 (by decide) (List.mem_of_getElem? (i := 2) rfl) rfl rfl rfl dX3_keyCount_15 ?_
    refine lv_iconst (v := (-1)) hx hb dX3_keyCount_18 (by decide) ?_
    refine lv_icmp_eq (tgt := 36) hx hb dX3_keyCount_19 (by decide) (fun c_13 => ?_) (fun c_13 => ?_)
    · refine lv_aload_n hx hb dX3_keyCount_36 rfl (lv_at hl 1 rfl) ?_
      refine ow_get (v2 := .int (q.1 16 j 5)) (ci := 2) (C := RX3) (T := TX3) (N := 8) hx hb hts hin_X3 hown hK hW 16 j (PO_k16 hp) rfl 5 (by decide) (List.mem_of_getElem? (i := 3) rfl) rfl rfl rfl dX3_keyCount_37 ?_
      refine lv_iconst (v := (-1)) hx hb dX3_keyCount_40 (by decide) ?_
      refine lv_icmp_eq (tgt := 69) hx hb dX3_keyCount_41 (by decide) (fun c_14 => ?_) (fun c_14 => ?_)
      · refine lv_iload_n hx hb dX3_keyCount_69 rfl (lv_at hl 0 rfl) ?_
        exact ow_iret hx hb hr hlk hK hW hS (by rw [m_X3_keyCount, if_pos c_1, if_pos c_13, if_pos c_14]) dX3_keyCount_70
      · refine lv_aload_n hx hb dX3_keyCount_44 rfl (lv_at hl 1 rfl) ?_
        refine ow_get (v2 := .int (q.1 16 j 5)) (ci := 2) (C := RX3) (T := TX3) (N := 8) hx hb hts hin_X3 hown hK hW 16 j (PO_k16 hp) rfl 5 (by decide) (List.mem_of_getElem? (i := 3) rfl) rfl rfl rfl dX3_keyCount_45 ?_
        refine lv_aload_n hx hb dX3_keyCount_48 rfl (lv_at hl 1 rfl) ?_
        refine ow_get (v2 := .int (q.1 16 j 3)) (ci := 2) (C := RX3) (T := TX3) (N := 8) hx hb hts hin_X3 hown hK hW 16 j (PO_k16 hp) rfl 3 (by decide) (List.mem_of_getElem? (i := 1) rfl) rfl rfl rfl dX3_keyCount_49 ?_
        refine lv_icmp_eq (tgt := 69) hx hb dX3_keyCount_52 (by decide) (fun c_15 => ?_) (fun c_15 => ?_)
        · refine lv_iload_n hx hb dX3_keyCount_69 rfl (lv_at hl 0 rfl) ?_
          exact ow_iret hx hb hr hlk hK hW hS (by rw [m_X3_keyCount, if_pos c_1, if_pos c_13, if_neg c_14, if_pos c_15]) dX3_keyCount_70
        · refine lv_aload_n hx hb dX3_keyCount_55 rfl (lv_at hl 1 rfl) ?_
          refine ow_get (v2 := .int (q.1 16 j 5)) (ci := 2) (C := RX3) (T := TX3) (N := 8) hx hb hts hin_X3 hown hK hW 16 j (PO_k16 hp) rfl 5 (by decide) (List.mem_of_getElem? (i := 3) rfl) rfl rfl rfl dX3_keyCount_56 ?_
          refine lv_aload_n hx hb dX3_keyCount_59 rfl (lv_at hl 1 rfl) ?_
          refine ow_get (v2 := .int (q.1 16 j 4)) (ci := 2) (C := RX3) (T := TX3) (N := 8) hx hb hts hin_X3 hown hK hW 16 j (PO_k16 hp) rfl 4 (by decide) (List.mem_of_getElem? (i := 2) rfl) rfl rfl rfl dX3_keyCount_60 ?_
          refine lv_icmp_eq (tgt := 69) hx hb dX3_keyCount_63 (by decide) (fun c_16 => ?_) (fun c_16 => ?_)
          · refine lv_iload_n hx hb dX3_keyCount_69 rfl (lv_at hl 0 rfl) ?_
            exact ow_iret hx hb hr hlk hK hW hS (by rw [m_X3_keyCount, if_pos c_1, if_pos c_13, if_neg c_14, if_neg c_15, if_pos c_16]) dX3_keyCount_70
          · refine lv_iinc (v := 1) (lv' := [(1, .int 1), (0, .ref (ad 16 j))]) hx hb dX3_keyCount_66 hl (k := 0) rfl (by first | rfl | decide) (by decide) rfl (fun ls hl => ?_)
            refine lv_iload_n hx hb dX3_keyCount_69 rfl (lv_at hl 0 rfl) ?_
            exact ow_iret hx hb hr hlk hK hW hS (by rw [m_X3_keyCount, if_pos c_1, if_pos c_13, if_neg c_14, if_neg c_15, if_neg c_16]) dX3_keyCount_70
    · refine lv_aload_n hx hb dX3_keyCount_22 rfl (lv_at hl 1 rfl) ?_
      refine ow_get (v2 := .int (q.1 16 j 4)) (ci := 2) (C := RX3) (T := TX3) (N := 8) hx hb hts hin_X3 hown hK hW 16 j (PO_k16 hp) rfl 4 (by decide) (List.mem_of_getElem? (i := 2) rfl) rfl rfl rfl dX3_keyCount_23 ?_
      refine lv_aload_n hx hb dX3_keyCount_26 rfl (lv_at hl 1 rfl) ?_
      refine ow_get (v2 := .int (q.1 16 j 3)) (ci := 2) (C := RX3) (T := TX3) (N := 8) hx hb hts hin_X3 hown hK hW 16 j (PO_k16 hp) rfl 3 (by decide) (List.mem_of_getElem? (i := 1) rfl) rfl rfl rfl dX3_keyCount_27 ?_
      refine lv_icmp_eq (tgt := 36) hx hb dX3_keyCount_30 (by decide) (fun c_17 => ?_) (fun c_17 => ?_)
      · refine lv_aload_n hx hb dX3_keyCount_36 rfl (lv_at hl 1 rfl) ?_
        refine ow_get (v2 := .int (q.1 16 j 5)) (ci := 2) (C := RX3) (T := TX3) (N := 8) hx hb hts hin_X3 hown hK hW 16 j (PO_k16 hp) rfl 5 (by decide) (List.mem_of_getElem? (i := 3) rfl) rfl rfl rfl dX3_keyCount_37 ?_
        refine lv_iconst (v := (-1)) hx hb dX3_keyCount_40 (by decide) ?_
        refine lv_icmp_eq (tgt := 69) hx hb dX3_keyCount_41 (by decide) (fun c_18 => ?_) (fun c_18 => ?_)
        · refine lv_iload_n hx hb dX3_keyCount_69 rfl (lv_at hl 0 rfl) ?_
          exact ow_iret hx hb hr hlk hK hW hS (by rw [m_X3_keyCount, if_pos c_1, if_neg c_13, if_pos c_17, if_pos c_18]) dX3_keyCount_70
        · refine lv_aload_n hx hb dX3_keyCount_44 rfl (lv_at hl 1 rfl) ?_
          refine ow_get (v2 := .int (q.1 16 j 5)) (ci := 2) (C := RX3) (T := TX3) (N := 8) hx hb hts hin_X3 hown hK hW 16 j (PO_k16 hp) rfl 5 (by decide) (List.mem_of_getElem? (i := 3) rfl) rfl rfl rfl dX3_keyCount_45 ?_
          refine lv_aload_n hx hb dX3_keyCount_48 rfl (lv_at hl 1 rfl) ?_
          refine ow_get (v2 := .int (q.1 16 j 3)) (ci := 2) (C := RX3) (T := TX3) (N := 8) hx hb hts hin_X3 hown hK hW 16 j (PO_k16 hp) rfl 3 (by decide) (List.mem_of_getElem? (i := 1) rfl) rfl rfl rfl dX3_keyCount_49 ?_
          refine lv_icmp_eq (tgt := 69) hx hb dX3_keyCount_52 (by decide) (fun c_19 => ?_) (fun c_19 => ?_)
          · refine lv_iload_n hx hb dX3_keyCount_69 rfl (lv_at hl 0 rfl) ?_
            exact ow_iret hx hb hr hlk hK hW hS (by rw [m_X3_keyCount, if_pos c_1, if_neg c_13, if_pos c_17, if_neg c_18, if_pos c_19]) dX3_keyCount_70
          · refine lv_aload_n hx hb dX3_keyCount_55 rfl (lv_at hl 1 rfl) ?_
            refine ow_get (v2 := .int (q.1 16 j 5)) (ci := 2) (C := RX3) (T := TX3) (N := 8) hx hb hts hin_X3 hown hK hW 16 j (PO_k16 hp) rfl 5 (by decide) (List.mem_of_getElem? (i := 3) rfl) rfl rfl rfl dX3_keyCount_56 ?_
            refine lv_aload_n hx hb dX3_keyCount_59 rfl (lv_at hl 1 rfl) ?_
            refine ow_get (v2 := .int (q.1 16 j 4)) (ci := 2) (C := RX3) (T := TX3) (N := 8) hx hb hts hin_X3 hown hK hW 16 j (PO_k16 hp) rfl 4 (by decide) (List.mem_of_getElem? (i := 2) rfl) rfl rfl rfl dX3_keyCount_60 ?_
            refine lv_icmp_eq (tgt := 69) hx hb dX3_keyCount_63 (by decide) (fun c_20 => ?_) (fun c_20 => ?_)
            · refine lv_iload_n hx hb dX3_keyCount_69 rfl (lv_at hl 0 rfl) ?_
              exact ow_iret hx hb hr hlk hK hW hS (by rw [m_X3_keyCount, if_pos c_1, if_neg c_13, if_pos c_17, if_neg c_18, if_neg c_19, if_pos c_20]) dX3_keyCount_70
            · refine lv_iinc (v := 1) (lv' := [(1, .int 1), (0, .ref (ad 16 j))]) hx hb dX3_keyCount_66 hl (k := 0) rfl (by first | rfl | decide) (by decide) rfl (fun ls hl => ?_)
              refine lv_iload_n hx hb dX3_keyCount_69 rfl (lv_at hl 0 rfl) ?_
              exact ow_iret hx hb hr hlk hK hW hS (by rw [m_X3_keyCount, if_pos c_1, if_neg c_13, if_pos c_17, if_neg c_18, if_neg c_19, if_neg c_20]) dX3_keyCount_70
      · refine lv_iinc (v := 1) (lv' := [(1, .int 1), (0, .ref (ad 16 j))]) hx hb dX3_keyCount_33 hl (k := 0) rfl (by first | rfl | decide) (by decide) rfl (fun ls hl => ?_)
        refine lv_aload_n hx hb dX3_keyCount_36 rfl (lv_at hl 1 rfl) ?_
        refine ow_get (v2 := .int (q.1 16 j 5)) (ci := 2) (C := RX3) (T := TX3) (N := 8) hx hb hts hin_X3 hown hK hW 16 j (PO_k16 hp) rfl 5 (by decide) (List.mem_of_getElem? (i := 3) rfl) rfl rfl rfl dX3_keyCount_37 ?_
        refine lv_iconst (v := (-1)) hx hb dX3_keyCount_40 (by decide) ?_
        refine lv_icmp_eq (tgt := 69) hx hb dX3_keyCount_41 (by decide) (fun c_21 => ?_) (fun c_21 => ?_)
        · refine lv_iload_n hx hb dX3_keyCount_69 rfl (lv_at hl 0 rfl) ?_
          exact ow_iret hx hb hr hlk hK hW hS (by rw [m_X3_keyCount, if_pos c_1, if_neg c_13, if_neg c_17, if_pos c_21]) dX3_keyCount_70
        · refine lv_aload_n hx hb dX3_keyCount_44 rfl (lv_at hl 1 rfl) ?_
          refine ow_get (v2 := .int (q.1 16 j 5)) (ci := 2) (C := RX3) (T := TX3) (N := 8) hx hb hts hin_X3 hown hK hW 16 j (PO_k16 hp) rfl 5 (by decide) (List.mem_of_getElem? (i := 3) rfl) rfl rfl rfl dX3_keyCount_45 ?_
          refine lv_aload_n hx hb dX3_keyCount_48 rfl (lv_at hl 1 rfl) ?_
          refine ow_get (v2 := .int (q.1 16 j 3)) (ci := 2) (C := RX3) (T := TX3) (N := 8) hx hb hts hin_X3 hown hK hW 16 j (PO_k16 hp) rfl 3 (by decide) (List.mem_of_getElem? (i := 1) rfl) rfl rfl rfl dX3_keyCount_49 ?_
          refine lv_icmp_eq (tgt := 69) hx hb dX3_keyCount_52 (by decide) (fun c_22 => ?_) (fun c_22 => ?_)
          · refine lv_iload_n hx hb dX3_keyCount_69 rfl (lv_at hl 0 rfl) ?_
            exact ow_iret hx hb hr hlk hK hW hS (by rw [m_X3_keyCount, if_pos c_1, if_neg c_13, if_neg c_17, if_neg c_21, if_pos c_22]) dX3_keyCount_70
          · refine lv_aload_n hx hb dX3_keyCount_55 rfl (lv_at hl 1 rfl) ?_
            refine ow_get (v2 := .int (q.1 16 j 5)) (ci := 2) (C := RX3) (T := TX3) (N := 8) hx hb hts hin_X3 hown hK hW 16 j (PO_k16 hp) rfl 5 (by decide) (List.mem_of_getElem? (i := 3) rfl) rfl rfl rfl dX3_keyCount_56 ?_
            refine lv_aload_n hx hb dX3_keyCount_59 rfl (lv_at hl 1 rfl) ?_
            refine ow_get (v2 := .int (q.1 16 j 4)) (ci := 2) (C := RX3) (T := TX3) (N := 8) hx hb hts hin_X3 hown hK hW 16 j (PO_k16 hp) rfl 4 (by decide) (List.mem_of_getElem? (i := 2) rfl) rfl rfl rfl dX3_keyCount_60 ?_
            refine lv_icmp_eq (tgt := 69) hx hb dX3_keyCount_63 (by decide) (fun c_23 => ?_) (fun c_23 => ?_)
            · refine lv_iload_n hx hb dX3_keyCount_69 rfl (lv_at hl 0 rfl) ?_
              exact ow_iret hx hb hr hlk hK hW hS (by rw [m_X3_keyCount, if_pos c_1, if_neg c_13, if_neg c_17, if_neg c_21, if_neg c_22, if_pos c_23]) dX3_keyCount_70
            · refine lv_iinc (v := 2) (lv' := [(1, .int 2), (0, .ref (ad 16 j))]) hx hb dX3_keyCount_66 hl (k := 0) rfl (by first | rfl | decide) (by decide) rfl (fun ls hl => ?_)
              refine lv_iload_n hx hb dX3_keyCount_69 rfl (lv_at hl 0 rfl) ?_
              exact ow_iret hx hb hr hlk hK hW hS (by rw [m_X3_keyCount, if_pos c_1, if_neg c_13, if_neg c_17, if_neg c_21, if_neg c_22, if_neg c_23]) dX3_keyCount_70

def m_X3_isFiledFrom (q : qC) (j : Nat) (fi : Int32) (la : Int32) : Int32 := (if (q.1 16 j 6) < fi then 0 else (if la < (q.1 16 j 6) then 0 else 1))
set_option maxHeartbeats 4000000 in
set_option maxRecDepth 100000 in
theorem c_X3_isFiledFrom (l : Launch) (D : va_G) (b0 : Nat) (cA : Nat → ClassId) (ad : Nat → Nat → Nat) (mq : qM) (q : qC) (j : Nat) (fi : Int32) (la : Int32) (hp : ¬ q.1 5 0 j = 0) : cc_i l yX3_isFiledFrom wsX3_isFiledFrom 0 0 D b0 cA ad mq q [.ref (ad 16 j), .int fi, .int la] (m_X3_isFiledFrom q j fi la, q) := by
  refine cc_of (by decide) rfl (Nat.le_of_ble_eq_true rfl) ?_
  intro p e s m below meth c hx hb hml hr hlk hown hts hK hW hKD ls hl
  have hown : s.vm.findClass RX3 = some m.cls := hown
  have hS : va_S (wA b0) s.heap s.heap [] := va_S.rf
  have hl : lv_has ls 3 [(0, .ref (ad 16 j)), (1, .int fi), (2, .int la)] := hl
  have hin_X3 : ∀ w ∈ wsX30, w ∈ wsX3_isFiledFrom := fun w h => List.mem_cons_of_mem _ (List.mem_append_right _ h)
  refine lv_iload_n hx hb dX3_isFiledFrom_0 rfl (lv_at hl 1 rfl) ?_
  refine lv_aload_n hx hb dX3_isFiledFrom_1 rfl (lv_at hl 0 rfl) ?_
  refine ow_get (v2 := .int (q.1 16 j 6)) (ci := 2) (C := RX3) (T := TX3) (N := 8) hx hb hts hin_X3 hown hK hW 16 j (PO_k16 hp) rfl 6 (by decide) (List.mem_of_getElem? (i := 1) rfl) rfl rfl rfl dX3_isFiledFrom_2 ?_
  refine lv_icmp_gt (tgt := 20) hx hb dX3_isFiledFrom_5 (by decide) (fun c_1 => ?_) (fun c_1 => ?_)
  · refine lv_iconst (v := 0) hx hb dX3_isFiledFrom_20 (by decide) ?_
    exact ow_zret hx hb hr hlk hK hW hS rfl (by rw [m_X3_isFiledFrom, if_pos c_1]) dX3_isFiledFrom_21
  · refine lv_aload_n hx hb dX3_isFiledFrom_8 rfl (lv_at hl 0 rfl) ?_
    refine ow_get (v2 := .int (q.1 16 j 6)) (ci := 2) (C := RX3) (T := TX3) (N := 8) hx hb hts hin_X3 hown hK hW 16 j (PO_k16 hp) rfl 6 (by decide) (List.mem_of_getElem? (i := 1) rfl) rfl rfl rfl dX3_isFiledFrom_9 ?_
    refine lv_iload_n hx hb dX3_isFiledFrom_12 rfl (lv_at hl 2 rfl) ?_
    refine lv_icmp_gt (tgt := 20) hx hb dX3_isFiledFrom_13 (by decide) (fun c_2 => ?_) (fun c_2 => ?_)
    · refine lv_iconst (v := 0) hx hb dX3_isFiledFrom_20 (by decide) ?_
      exact ow_zret hx hb hr hlk hK hW hS rfl (by rw [m_X3_isFiledFrom, if_neg c_1, if_pos c_2]) dX3_isFiledFrom_21
    · refine lv_iconst (v := 1) hx hb dX3_isFiledFrom_16 (by decide) ?_
      refine lv_goto (tgt := 21) hx hb dX3_isFiledFrom_17 (by decide) ?_
      exact ow_zret hx hb hr hlk hK hW hS rfl (by rw [m_X3_isFiledFrom, if_neg c_1, if_neg c_2]) dX3_isFiledFrom_21

def m_X6_goesOnWith (q : qC) (j : Nat) (ev : Int32) (day : Int32) : Int32 := (if (q.1 10 j 4) = 0 then 1 else (if ev = (q.1 10 j 3) then (if day < (q.1 11 j (Int32.toNatClampNeg ((q.1 10 j 4) - 1))) then 0 else 1) else 0))
set_option maxHeartbeats 4000000 in
set_option maxRecDepth 100000 in
theorem c_X6_goesOnWith (l : Launch) (D : va_G) (b0 : Nat) (cA : Nat → ClassId) (ad : Nat → Nat → Nat) (mq : qM) (q : qC) (j : Nat) (ev : Int32) (day : Int32) (hj : j < 8) (hs : 0 ≤ (q.1 10 j 4).toInt ∧ (q.1 10 j 4).toInt ≤ 6) : cc_i l yX6_goesOnWith wsX6_goesOnWith 0 0 D b0 cA ad mq q [.ref (ad 10 j), .int ev, .int day] (m_X6_goesOnWith q j ev day, q) := by
  refine cc_of (by decide) rfl (Nat.le_of_ble_eq_true rfl) ?_
  intro p e s m below meth c hx hb hml hr hlk hown hts hK hW hKD ls hl
  have hown : s.vm.findClass RX6 = some m.cls := hown
  have hS : va_S (wA b0) s.heap s.heap [] := va_S.rf
  have hl : lv_has ls 3 [(0, .ref (ad 10 j)), (1, .int ev), (2, .int day)] := hl
  have hin_X6 : ∀ w ∈ wsX60, w ∈ wsX6_goesOnWith := fun w h => List.mem_cons_of_mem _ (List.mem_append_right _ h)
  refine lv_aload_n hx hb dX6_goesOnWith_0 rfl (lv_at hl 0 rfl) ?_
  refine ow_get (v2 := .int (q.1 10 j 4)) (ci := 5) (C := RX6) (T := TX6) (N := 5) hx hb hts hin_X6 hown hK hW 10 j (PO_k10 hj) rfl 4 (by decide) (List.mem_of_getElem? (i := 1) rfl) rfl rfl rfl dX6_goesOnWith_1 ?_
  refine lv_if_eq (tgt := 30) hx hb dX6_goesOnWith_4 (by decide) (fun c_1 => ?_) (fun c_1 => ?_)
  · refine lv_iconst (v := 1) hx hb dX6_goesOnWith_30 (by decide) ?_
    refine lv_goto (tgt := 35) hx hb dX6_goesOnWith_31 (by decide) ?_
    exact ow_zret hx hb hr hlk hK hW hS rfl (by rw [m_X6_goesOnWith, if_pos c_1]) dX6_goesOnWith_35
  · refine lv_iload_n hx hb dX6_goesOnWith_7 rfl (lv_at hl 1 rfl) ?_
    refine lv_aload_n hx hb dX6_goesOnWith_8 rfl (lv_at hl 0 rfl) ?_
    refine ow_get (v2 := .int (q.1 10 j 3)) (ci := 5) (C := RX6) (T := TX6) (N := 5) hx hb hts hin_X6 hown hK hW 10 j (PO_k10 hj) rfl 3 (by decide) (List.mem_of_getElem? (i := 2) rfl) rfl rfl rfl dX6_goesOnWith_9 ?_
    refine lv_icmp_ne (tgt := 34) hx hb dX6_goesOnWith_12 (by decide) (fun c_2 => ?_) (fun c_2 => ?_)
    · refine lv_iconst (v := 0) hx hb dX6_goesOnWith_34 (by decide) ?_
      exact ow_zret hx hb hr hlk hK hW hS rfl (by rw [m_X6_goesOnWith, if_neg c_1, if_neg c_2]) dX6_goesOnWith_35
    · refine lv_iload_n hx hb dX6_goesOnWith_15 rfl (lv_at hl 2 rfl) ?_
      refine lv_aload_n hx hb dX6_goesOnWith_16 rfl (lv_at hl 0 rfl) ?_
      refine ow_get (v2 := .ref (ad 11 j)) (ci := 5) (C := RX6) (T := TX6) (N := 5) hx hb hts hin_X6 hown hK hW 10 j (PO_k10 hj) rfl 0 (by decide) (List.mem_of_getElem? (i := 3) rfl) rfl rfl rfl dX6_goesOnWith_17 ?_
      refine lv_aload_n hx hb dX6_goesOnWith_20 rfl (lv_at hl 0 rfl) ?_
      refine ow_get (v2 := .int (q.1 10 j 4)) (ci := 5) (C := RX6) (T := TX6) (N := 5) hx hb hts hin_X6 hown hK hW 10 j (PO_k10 hj) rfl 4 (by decide) (List.mem_of_getElem? (i := 1) rfl) rfl rfl rfl dX6_goesOnWith_21 ?_
      refine lv_iconst (v := 1) hx hb dX6_goesOnWith_24 (by decide) ?_
      refine lv_isub hx hb dX6_goesOnWith_25 ?_
      have b_3 : vp_in ((q.1 10 j 4) - 1) 6 := by
        have u_1 := rg_e (q.1 10 j 4)
        have k_2 : (1 : Int32).toInt = 1 := rfl
        have k_4 : (0 : Int32).toInt = 0 := rfl
        have v_5 := cv_ne c_1
        have u_6 := rg_e ev
        have u_7 := rg_e (q.1 10 j 3)
        have v_8 := cv_eq c_2
        have w_9 := hs
        have u_3 := su_o (q.1 10 j 4) 1
        exact vp_in_iff.mpr (by omega)
      refine ow_iald (v := (q.1 11 j (Int32.toNatClampNeg ((q.1 10 j 4) - 1)))) hx hb hK hW 11 j (PO_k11 hj) b_3 (rfl) dX6_goesOnWith_26 ?_
      refine lv_icmp_lt (tgt := 34) hx hb dX6_goesOnWith_27 (by decide) (fun c_4 => ?_) (fun c_4 => ?_)
      · refine lv_iconst (v := 0) hx hb dX6_goesOnWith_34 (by decide) ?_
        exact ow_zret hx hb hr hlk hK hW hS rfl (by rw [m_X6_goesOnWith, if_neg c_1, if_pos c_2, if_pos c_4]) dX6_goesOnWith_35
      · refine lv_iconst (v := 1) hx hb dX6_goesOnWith_30 (by decide) ?_
        refine lv_goto (tgt := 35) hx hb dX6_goesOnWith_31 (by decide) ?_
        exact ow_zret hx hb hr hlk hK hW hS rfl (by rw [m_X6_goesOnWith, if_neg c_1, if_pos c_2, if_neg c_4]) dX6_goesOnWith_35

def m_X6_add (q : qC) (j : Nat) (ev : Int32) (term : Int32) (fa : Int32) (day : Int32) : qC := (cq_i (cq_i (cq_i (cq_i (cq_i q 10 j 3 ev) 11 j (Int32.toNatClampNeg (q.1 10 j 4)) day) 12 j (Int32.toNatClampNeg (q.1 10 j 4)) term) 13 j (Int32.toNatClampNeg (q.1 10 j 4)) fa) 10 j 4 ((q.1 10 j 4) + 1))
set_option maxHeartbeats 4000000 in
set_option maxRecDepth 100000 in
theorem c_X6_add (l : Launch) (D : va_G) (b0 : Nat) (cA : Nat → ClassId) (ad : Nat → Nat → Nat) (mq : qM) (q : qC) (j : Nat) (ev : Int32) (term : Int32) (fa : Int32) (day : Int32) (hj : j < 8) (hs : 0 ≤ (q.1 10 j 4).toInt ∧ (q.1 10 j 4).toInt ≤ 5) (hbo : vp_nar .boolean fa = fa) : cc_v l yX6_add wsX6_add 0 0 D b0 cA ad mq q [.ref (ad 10 j), .int ev, .int term, .int fa, .int day] (m_X6_add q j ev term fa day) := by
  refine cc_of (by decide) rfl (Nat.le_of_ble_eq_true rfl) ?_
  intro p e s m below meth c hx hb hml hr hlk hown hts hK hW hKD ls hl
  have hown : s.vm.findClass RX6 = some m.cls := hown
  have hS : va_S (wA b0) s.heap s.heap [] := va_S.rf
  have hl : lv_has ls 5 [(0, .ref (ad 10 j)), (1, .int ev), (2, .int term), (3, .int fa), (4, .int day)] := hl
  have hin_X6 : ∀ w ∈ wsX60, w ∈ wsX6_add := fun w h => List.mem_cons_of_mem _ (List.mem_append_right _ h)
  refine lv_aload_n hx hb dX6_add_0 rfl (lv_at hl 0 rfl) ?_
  refine lv_iload_n hx hb dX6_add_1 rfl (lv_at hl 1 rfl) ?_
  refine ow_puti (ci := 5) (C := RX6) (T := TX6) (N := 5) (ty := .int) hx hb hts hin_X6 tyX6 tyX6_ok nmX6 hown hK hW hS 10 j (PO_k10 hj) rfl 3 (by decide) (List.mem_of_getElem? (i := 1) rfl) rfl rfl (by decide +kernel) rfl rfl (Nat.le_of_ble_eq_true rfl) (by decide) (PO_w10_3 hj) dX6_add_2 (fun H locs hW hS => ?_)
  refine lv_aload_n hx hb dX6_add_5 rfl (lv_at hl 0 rfl) ?_
  refine ow_get (v2 := .ref (ad 11 j)) (ci := 5) (C := RX6) (T := TX6) (N := 5) hx hb hts hin_X6 hown hK hW 10 j (PO_k10 hj) rfl 0 (by decide) (List.mem_of_getElem? (i := 2) rfl) rfl rfl rfl dX6_add_6 ?_
  refine lv_aload_n hx hb dX6_add_9 rfl (lv_at hl 0 rfl) ?_
  refine ow_get (v2 := .int (q.1 10 j 4)) (ci := 5) (C := RX6) (T := TX6) (N := 5) hx hb hts hin_X6 hown hK hW 10 j (PO_k10 hj) rfl 4 (by decide) (List.mem_of_getElem? (i := 3) rfl) rfl rfl (congrArg Value.int (cq_ni (by decide))) dX6_add_10 ?_
  refine lv_iload hx hb dX6_add_13 (lv_at hl 4 rfl) ?_
  have b_1 : vp_in (q.1 10 j 4) 6 := by
    have u_1 := rg_e (q.1 10 j 4)
    have w_2 := hs
    exact vp_in_iff.mpr (by omega)
  refine ow_iast hx hb hK hW hS 11 j (PO_k11 hj) b_1 (by decide) (PO_w11 hj) dX6_add_15 (fun H locs hW hS => ?_)
  refine lv_aload_n hx hb dX6_add_16 rfl (lv_at hl 0 rfl) ?_
  refine ow_get (v2 := .ref (ad 12 j)) (ci := 5) (C := RX6) (T := TX6) (N := 5) hx hb hts hin_X6 hown hK hW 10 j (PO_k10 hj) rfl 1 (by decide) (List.mem_of_getElem? (i := 4) rfl) rfl rfl rfl dX6_add_17 ?_
  refine lv_aload_n hx hb dX6_add_20 rfl (lv_at hl 0 rfl) ?_
  refine ow_get (v2 := .int (q.1 10 j 4)) (ci := 5) (C := RX6) (T := TX6) (N := 5) hx hb hts hin_X6 hown hK hW 10 j (PO_k10 hj) rfl 4 (by decide) (List.mem_of_getElem? (i := 3) rfl) rfl rfl (congrArg Value.int ((cq_ne (by decide)).trans (cq_ni (by decide)))) dX6_add_21 ?_
  refine lv_iload_n hx hb dX6_add_24 rfl (lv_at hl 2 rfl) ?_
  have b_2 : vp_in (q.1 10 j 4) 6 := by
    have u_1 := rg_e (q.1 10 j 4)
    have w_2 := hs
    exact vp_in_iff.mpr (by omega)
  refine ow_iast hx hb hK hW hS 12 j (PO_k12 hj) b_2 (by decide) (PO_w12 hj) dX6_add_25 (fun H locs hW hS => ?_)
  refine lv_aload_n hx hb dX6_add_26 rfl (lv_at hl 0 rfl) ?_
  refine ow_get (v2 := .ref (ad 13 j)) (ci := 5) (C := RX6) (T := TX6) (N := 5) hx hb hts hin_X6 hown hK hW 10 j (PO_k10 hj) rfl 2 (by decide) (List.mem_of_getElem? (i := 5) rfl) rfl rfl rfl dX6_add_27 ?_
  refine lv_aload_n hx hb dX6_add_30 rfl (lv_at hl 0 rfl) ?_
  refine ow_get (v2 := .int (q.1 10 j 4)) (ci := 5) (C := RX6) (T := TX6) (N := 5) hx hb hts hin_X6 hown hK hW 10 j (PO_k10 hj) rfl 4 (by decide) (List.mem_of_getElem? (i := 3) rfl) rfl rfl (congrArg Value.int ((cq_ne (by decide)).trans ((cq_ne (by decide)).trans (cq_ni (by decide))))) dX6_add_31 ?_
  refine lv_iload_n hx hb dX6_add_34 rfl (lv_at hl 3 rfl) ?_
  have b_3 : vp_in (q.1 10 j 4) 6 := by
    have u_1 := rg_e (q.1 10 j 4)
    have w_2 := hs
    exact vp_in_iff.mpr (by omega)
  refine ow_zast hx hb hK hW hS 13 j (PO_k13 hj) hbo b_3 (by decide) (PO_w13 hj) dX6_add_35 (fun H locs hW hS => ?_)
  refine lv_aload_n hx hb dX6_add_36 rfl (lv_at hl 0 rfl) ?_
  refine lv_dup hx hb dX6_add_37 rfl ?_
  refine ow_get (v2 := .int (q.1 10 j 4)) (ci := 5) (C := RX6) (T := TX6) (N := 5) hx hb hts hin_X6 hown hK hW 10 j (PO_k10 hj) rfl 4 (by decide) (List.mem_of_getElem? (i := 3) rfl) rfl rfl (congrArg Value.int ((cq_ne (by decide)).trans ((cq_ne (by decide)).trans ((cq_ne (by decide)).trans (cq_ni (by decide)))))) dX6_add_38 ?_
  refine lv_iconst (v := 1) hx hb dX6_add_41 (by decide) ?_
  refine lv_iadd hx hb dX6_add_42 ?_
  refine ow_puti (ci := 5) (C := RX6) (T := TX6) (N := 5) (ty := .int) hx hb hts hin_X6 tyX6 tyX6_ok nmX6 hown hK hW hS 10 j (PO_k10 hj) rfl 4 (by decide) (List.mem_of_getElem? (i := 3) rfl) rfl rfl (by decide +kernel) rfl rfl (Nat.le_of_ble_eq_true rfl) (by decide) (PO_w10_4 hj) dX6_add_43 (fun H locs hW hS => ?_)
  exact ow_vret hx hb hr hlk hK hW hS (by rw [m_X6_add]) dX6_add_46

def m_X6_termFor_lp (q : qC) (j : Nat) (day : Int32) : Nat → Int32 → Int32 → Int32
  | 0, _, _ => 0
  | n + 1, ch, i => (if (q.1 10 j 4) ≤ i then ch else (if (q.1 11 j (Int32.toNatClampNeg i)) ≤ day then (m_X6_termFor_lp q j day n i (i + 1)) else (if (q.1 13 j (Int32.toNatClampNeg i)) = 0 then (m_X6_termFor_lp q j day n ch (i + 1)) else (m_X6_termFor_lp q j day n i (i + 1)))))
def m_X6_termFor (q : qC) (j : Nat) (day : Int32) : Int32 := (q.1 12 j (Int32.toNatClampNeg (m_X6_termFor_lp q j day 8 0 1)))
set_option maxHeartbeats 4000000 in
set_option maxRecDepth 100000 in
theorem c_X6_termFor (l : Launch) (D : va_G) (b0 : Nat) (cA : Nat → ClassId) (ad : Nat → Nat → Nat) (mq : qM) (q : qC) (j : Nat) (day : Int32) (hj : j < 8) (hs : 0 ≤ (q.1 10 j 4).toInt ∧ (q.1 10 j 4).toInt ≤ 6) : cc_i l yX6_termFor wsX6_termFor 0 0 D b0 cA ad mq q [.ref (ad 10 j), .int day] (m_X6_termFor q j day, q) := by
  refine cc_of (by decide) rfl (Nat.le_of_ble_eq_true rfl) ?_
  intro p e s m below meth c hx hb hml hr hlk hown hts hK hW hKD ls hl
  have hown : s.vm.findClass RX6 = some m.cls := hown
  have hS : va_S (wA b0) s.heap s.heap [] := va_S.rf
  have hl : lv_has ls 4 [(0, .ref (ad 10 j)), (1, .int day)] := hl
  have hin_X6 : ∀ w ∈ wsX60, w ∈ wsX6_termFor := fun w h => List.mem_cons_of_mem _ (List.mem_append_right _ h)
  refine lv_iconst (v := 0) hx hb dX6_termFor_0 (by decide) ?_
  refine lv_istore_n (lv' := [(2, .int 0), (0, .ref (ad 10 j)), (1, .int day)]) hx hb dX6_termFor_1 rfl hl (by decide) rfl (fun ls hl => ?_)
  refine lv_iconst (v := 1) hx hb dX6_termFor_2 (by decide) ?_
  refine lv_istore_n (lv' := [(3, .int 1), (2, .int 0), (0, .ref (ad 10 j)), (1, .int day)]) hx hb dX6_termFor_3 rfl hl (by decide) rfl (fun ls hl => ?_)
  have lp_14 : ∀ (Q : State → Prop) (n : Nat) (ch : Int32) (i : Int32), (0 ≤ i.toInt ∧ i.toInt ≤ 7 ∧ 0 ≤ ch.toInt ∧ ch.toInt ≤ 5) → 7 - i.toInt < (n : Int) → (∀ o_1 : Int32, o_1 = (m_X6_termFor_lp q j day n ch i) → (0 ≤ (o_1).toInt ∧ (o_1).toInt ≤ 5) → ∀ (H : Heap) (locs : List Loc), wd D (wA b0) (PO cA ad q mq) ad H → va_S (wA b0) s.heap H locs → ∀ ls : Array Slot, lv_has ls 4 [(2, .int o_1), (0, .ref (ad 10 j)), (1, .int day)] → W p l e { frames := 0, cells := 0, slots := 0, locals := 0 } s m [.ref (ad 10 j), .int day].toArray below meth c H locs 0 0 Q (F0 m 39 ls [])) → ∀ (H : Heap) (locs : List Loc), wd D (wA b0) (PO cA ad q mq) ad H → va_S (wA b0) s.heap H locs → ∀ ls : Array Slot, lv_has ls 4 [(2, .int ch), (3, .int i), (0, .ref (ad 10 j)), (1, .int day)] → W p l e { frames := 0, cells := 0, slots := 0, locals := 0 } s m [.ref (ad 10 j), .int day].toArray below meth c H locs 0 0 Q (F0 m 4 ls []) := by
    intro Q n
    induction n with
    | zero =>
      intro ch i i1 hm
      have hz : 0 ≤ 7 - i.toInt := by
        have w_1 := hs
        have w_2 := i1
        omega
      exact absurd hm (by omega)
    | succ n ih =>
      intro ch i i1 hm kk H locs hW hS ls hl
      refine lv_iload_n hx hb dX6_termFor_4 rfl (lv_at hl 1 rfl) ?_
      refine lv_aload_n hx hb dX6_termFor_5 rfl (lv_at hl 2 rfl) ?_
      refine ow_get (v2 := .int (q.1 10 j 4)) (ci := 5) (C := RX6) (T := TX6) (N := 5) hx hb hts hin_X6 hown hK hW 10 j (PO_k10 hj) rfl 4 (by decide) (List.mem_of_getElem? (i := 1) rfl) rfl rfl rfl dX6_termFor_6 ?_
      refine lv_icmp_ge (tgt := 39) hx hb dX6_termFor_9 (by decide) (fun c_2 => ?_) (fun c_2 => ?_)
      · have h_3 : 0 ≤ (ch).toInt ∧ (ch).toInt ≤ 5 := by
          have u_1 := rg_e ch
          have u_2 := rg_e (q.1 10 j 4)
          have u_3 := rg_e i
          have v_4 := cv_le c_2
          have w_5 := hs
          have w_6 := i1
          omega
        exact kk ch (by rw [m_X6_termFor_lp, if_pos c_2]) h_3 H locs hW hS ls (lv_sub hl [0, 2, 3] rfl)
      · refine lv_aload_n hx hb dX6_termFor_12 rfl (lv_at hl 2 rfl) ?_
        refine ow_get (v2 := .ref (ad 11 j)) (ci := 5) (C := RX6) (T := TX6) (N := 5) hx hb hts hin_X6 hown hK hW 10 j (PO_k10 hj) rfl 0 (by decide) (List.mem_of_getElem? (i := 2) rfl) rfl rfl rfl dX6_termFor_13 ?_
        refine lv_iload_n hx hb dX6_termFor_16 rfl (lv_at hl 1 rfl) ?_
        have b_4 : vp_in i 6 := by
          have u_1 := rg_e i
          have u_2 := rg_e (q.1 10 j 4)
          have v_3 := cv_nle c_2
          have w_4 := hs
          have w_5 := i1
          exact vp_in_iff.mpr (by omega)
        refine ow_iald (v := (q.1 11 j (Int32.toNatClampNeg i))) hx hb hK hW 11 j (PO_k11 hj) b_4 (rfl) dX6_termFor_17 ?_
        refine lv_iload_n hx hb dX6_termFor_18 rfl (lv_at hl 3 rfl) ?_
        refine lv_icmp_le (tgt := 31) hx hb dX6_termFor_19 (by decide) (fun c_5 => ?_) (fun c_5 => ?_)
        · refine lv_iload_n hx hb dX6_termFor_31 rfl (lv_at hl 1 rfl) ?_
          refine lv_istore_n (lv' := [(2, .int i), (3, .int i), (0, .ref (ad 10 j)), (1, .int day)]) hx hb dX6_termFor_32 rfl hl (by decide) rfl (fun ls hl => ?_)
          refine lv_iinc (v := (i + 1)) (lv' := [(3, .int (i + 1)), (2, .int i), (0, .ref (ad 10 j)), (1, .int day)]) hx hb dX6_termFor_33 hl (k := 1) rfl (by first | rfl | decide) (by decide) rfl (fun ls hl => ?_)
          refine lv_goto (tgt := 4) hx hb dX6_termFor_36 (by decide) ?_
          have h_6 : 0 ≤ (i + 1).toInt ∧ (i + 1).toInt ≤ 7 ∧ 0 ≤ i.toInt ∧ i.toInt ≤ 5 := by
            have u_1 := rg_e i
            have k_2 : (1 : Int32).toInt = 1 := rfl
            have u_4 := rg_e (q.1 10 j 4)
            have v_5 := cv_nle c_2
            have u_6 := rg_e (q.1 11 j (Int32.toNatClampNeg i))
            have u_7 := rg_e day
            have v_8 := cv_le c_5
            have w_9 := hs
            have w_10 := i1
            have u_3 := ad_o i 1
            omega
          have h_7 : 7 - (i + 1).toInt < (n : Int) := by
            have u_1 := rg_e i
            have k_2 : (1 : Int32).toInt = 1 := rfl
            have u_4 := rg_e (q.1 10 j 4)
            have v_5 := cv_nle c_2
            have u_6 := rg_e (q.1 11 j (Int32.toNatClampNeg i))
            have u_7 := rg_e day
            have v_8 := cv_le c_5
            have w_9 := hs
            have w_10 := i1
            have w_11 := hm
            have u_3 := ad_o i 1
            omega
          exact ih i (i + 1) h_6 h_7 (fun o_1 eo_1 => kk o_1 (eo_1.trans (by rw [m_X6_termFor_lp, if_neg c_2, if_pos c_5]))) _ _ hW hS ls (lv_sub hl [1, 0, 2, 3] rfl)
        · refine lv_aload_n hx hb dX6_termFor_22 rfl (lv_at hl 2 rfl) ?_
          refine ow_get (v2 := .ref (ad 13 j)) (ci := 5) (C := RX6) (T := TX6) (N := 5) hx hb hts hin_X6 hown hK hW 10 j (PO_k10 hj) rfl 2 (by decide) (List.mem_of_getElem? (i := 3) rfl) rfl rfl rfl dX6_termFor_23 ?_
          refine lv_iload_n hx hb dX6_termFor_26 rfl (lv_at hl 1 rfl) ?_
          have b_8 : vp_in i 6 := by
            have u_1 := rg_e i
            have u_2 := rg_e (q.1 10 j 4)
            have v_3 := cv_nle c_2
            have u_4 := rg_e (q.1 11 j (Int32.toNatClampNeg i))
            have u_5 := rg_e day
            have v_6 := cv_nle c_5
            have w_7 := hs
            have w_8 := i1
            exact vp_in_iff.mpr (by omega)
          refine ow_zald (v := (q.1 13 j (Int32.toNatClampNeg i))) hx hb hK hW 13 j (PO_k13 hj) b_8 (rfl) dX6_termFor_27 ?_
          refine lv_if_eq (tgt := 33) hx hb dX6_termFor_28 (by decide) (fun c_9 => ?_) (fun c_9 => ?_)
          · refine lv_iinc (v := (i + 1)) (lv' := [(3, .int (i + 1)), (2, .int ch), (0, .ref (ad 10 j)), (1, .int day)]) hx hb dX6_termFor_33 hl (k := 1) rfl (by first | rfl | decide) (by decide) rfl (fun ls hl => ?_)
            refine lv_goto (tgt := 4) hx hb dX6_termFor_36 (by decide) ?_
            have h_10 : 0 ≤ (i + 1).toInt ∧ (i + 1).toInt ≤ 7 ∧ 0 ≤ ch.toInt ∧ ch.toInt ≤ 5 := by
              have u_1 := rg_e ch
              have u_2 := rg_e i
              have k_3 : (1 : Int32).toInt = 1 := rfl
              have u_5 := rg_e (q.1 10 j 4)
              have v_6 := cv_nle c_2
              have u_7 := rg_e (q.1 11 j (Int32.toNatClampNeg i))
              have u_8 := rg_e day
              have v_9 := cv_nle c_5
              have u_10 := rg_e (q.1 13 j (Int32.toNatClampNeg i))
              have k_11 : (0 : Int32).toInt = 0 := rfl
              have v_12 := cv_eq c_9
              have w_13 := hs
              have w_14 := i1
              have u_4 := ad_o i 1
              omega
            have h_11 : 7 - (i + 1).toInt < (n : Int) := by
              have u_1 := rg_e ch
              have u_2 := rg_e i
              have k_3 : (1 : Int32).toInt = 1 := rfl
              have u_5 := rg_e (q.1 10 j 4)
              have v_6 := cv_nle c_2
              have u_7 := rg_e (q.1 11 j (Int32.toNatClampNeg i))
              have u_8 := rg_e day
              have v_9 := cv_nle c_5
              have u_10 := rg_e (q.1 13 j (Int32.toNatClampNeg i))
              have k_11 : (0 : Int32).toInt = 0 := rfl
              have v_12 := cv_eq c_9
              have w_13 := hs
              have w_14 := i1
              have w_15 := hm
              have u_4 := ad_o i 1
              omega
            exact ih ch (i + 1) h_10 h_11 (fun o_1 eo_1 => kk o_1 (eo_1.trans (by rw [m_X6_termFor_lp, if_neg c_2, if_neg c_5, if_pos c_9]))) _ _ hW hS ls (lv_sub hl [1, 0, 2, 3] rfl)
          · refine lv_iload_n hx hb dX6_termFor_31 rfl (lv_at hl 1 rfl) ?_
            refine lv_istore_n (lv' := [(2, .int i), (3, .int i), (0, .ref (ad 10 j)), (1, .int day)]) hx hb dX6_termFor_32 rfl hl (by decide) rfl (fun ls hl => ?_)
            refine lv_iinc (v := (i + 1)) (lv' := [(3, .int (i + 1)), (2, .int i), (0, .ref (ad 10 j)), (1, .int day)]) hx hb dX6_termFor_33 hl (k := 1) rfl (by first | rfl | decide) (by decide) rfl (fun ls hl => ?_)
            refine lv_goto (tgt := 4) hx hb dX6_termFor_36 (by decide) ?_
            have h_12 : 0 ≤ (i + 1).toInt ∧ (i + 1).toInt ≤ 7 ∧ 0 ≤ i.toInt ∧ i.toInt ≤ 5 := by
              have u_1 := rg_e i
              have k_2 : (1 : Int32).toInt = 1 := rfl
              have u_4 := rg_e (q.1 10 j 4)
              have v_5 := cv_nle c_2
              have u_6 := rg_e (q.1 11 j (Int32.toNatClampNeg i))
              have u_7 := rg_e day
              have v_8 := cv_nle c_5
              have u_9 := rg_e (q.1 13 j (Int32.toNatClampNeg i))
              have k_10 : (0 : Int32).toInt = 0 := rfl
              have v_11 := cv_ne c_9
              have w_12 := hs
              have w_13 := i1
              have u_3 := ad_o i 1
              omega
            have h_13 : 7 - (i + 1).toInt < (n : Int) := by
              have u_1 := rg_e i
              have k_2 : (1 : Int32).toInt = 1 := rfl
              have u_4 := rg_e (q.1 10 j 4)
              have v_5 := cv_nle c_2
              have u_6 := rg_e (q.1 11 j (Int32.toNatClampNeg i))
              have u_7 := rg_e day
              have v_8 := cv_nle c_5
              have u_9 := rg_e (q.1 13 j (Int32.toNatClampNeg i))
              have k_10 : (0 : Int32).toInt = 0 := rfl
              have v_11 := cv_ne c_9
              have w_12 := hs
              have w_13 := i1
              have w_14 := hm
              have u_3 := ad_o i 1
              omega
            exact ih i (i + 1) h_12 h_13 (fun o_1 eo_1 => kk o_1 (eo_1.trans (by rw [m_X6_termFor_lp, if_neg c_2, if_neg c_5, if_neg c_9]))) _ _ hW hS ls (lv_sub hl [1, 0, 2, 3] rfl)
  have h_15 : 0 ≤ (1 : Int32).toInt ∧ (1 : Int32).toInt ≤ 7 ∧ 0 ≤ (0 : Int32).toInt ∧ (0 : Int32).toInt ≤ 5 := by
    have k_1 : (0 : Int32).toInt = 0 := rfl
    have k_2 : (1 : Int32).toInt = 1 := rfl
    have w_3 := hs
    omega
  have h_16 : 7 - (1 : Int32).toInt < ((8 : Nat) : Int) := by
    have k_1 : (0 : Int32).toInt = 0 := rfl
    have k_2 : (1 : Int32).toInt = 1 := rfl
    have w_3 := hs
    omega
  refine lp_14 _ 8 0 1 h_15 h_16 (fun o_1 eo_1 ho_1 H locs hW hS ls hl => ?_) _ _ hW hS ls (lv_sub hl [1, 0, 2, 3] rfl)
  refine lv_aload_n hx hb dX6_termFor_39 rfl (lv_at hl 1 rfl) ?_
  refine ow_get (v2 := .ref (ad 12 j)) (ci := 5) (C := RX6) (T := TX6) (N := 5) hx hb hts hin_X6 hown hK hW 10 j (PO_k10 hj) rfl 1 (by decide) (List.mem_of_getElem? (i := 4) rfl) rfl rfl rfl dX6_termFor_40 ?_
  refine lv_iload_n hx hb dX6_termFor_43 rfl (lv_at hl 0 rfl) ?_
  have b_17 : vp_in o_1 6 := by
    have u_1 := rg_e o_1
    have w_2 := hs
    have w_3 := ho_1
    exact vp_in_iff.mpr (by omega)
  refine ow_iald (v := (q.1 12 j (Int32.toNatClampNeg o_1))) hx hb hK hW 12 j (PO_k12 hj) b_17 (rfl) dX6_termFor_44 ?_
  exact ow_iret hx hb hr hlk hK hW hS (by rw [m_X6_termFor, ← eo_1]) dX6_termFor_45

def m_X5_place (q : qC) (j : Nat) (f : Int32) (cl : Int32) (key : Int32) (fi : Int32) (la : Int32) : qC := (cq_i (cq_i (cq_i (cq_i (cq_i (cq_i q 15 j 0 1) 15 j 1 f) 15 j 2 cl) 15 j 3 key) 15 j 4 fi) 15 j 5 la)
set_option maxHeartbeats 4000000 in
set_option maxRecDepth 100000 in
theorem c_X5_place (l : Launch) (D : va_G) (b0 : Nat) (cA : Nat → ClassId) (ad : Nat → Nat → Nat) (mq : qM) (q : qC) (j : Nat) (f : Int32) (cl : Int32) (key : Int32) (fi : Int32) (la : Int32) (hj : j < 8) : cc_v l yX5_place wsX5_place 0 0 D b0 cA ad mq q [.ref (ad 15 j), .int f, .int cl, .int key, .int fi, .int la] (m_X5_place q j f cl key fi la) := by
  refine cc_of (by decide) rfl (Nat.le_of_ble_eq_true rfl) ?_
  intro p e s m below meth c hx hb hml hr hlk hown hts hK hW hKD ls hl
  have hown : s.vm.findClass RX5 = some m.cls := hown
  have hS : va_S (wA b0) s.heap s.heap [] := va_S.rf
  have hl : lv_has ls 6 [(0, .ref (ad 15 j)), (1, .int f), (2, .int cl), (3, .int key), (4, .int fi), (5, .int la)] := hl
  have hin_X5 : ∀ w ∈ wsX50, w ∈ wsX5_place := fun w h => List.mem_cons_of_mem _ (List.mem_append_right _ h)
  refine lv_aload_n hx hb dX5_place_0 rfl (lv_at hl 0 rfl) ?_
  refine lv_iconst (v := 1) hx hb dX5_place_1 (by decide) ?_
  refine ow_puti (ci := 4) (C := RX5) (T := TX5) (N := 6) (ty := .boolean) hx hb hts hin_X5 tyX5 tyX5_ok nmX5 hown hK hW hS 15 j (PO_k15 hj) rfl 0 (by decide) (List.mem_of_getElem? (i := 1) rfl) rfl rfl (by decide +kernel) rfl rfl (Nat.le_of_ble_eq_true rfl) (by decide) (PO_w15_0 hj) dX5_place_2 (fun H locs hW hS => ?_)
  refine lv_aload_n hx hb dX5_place_5 rfl (lv_at hl 0 rfl) ?_
  refine lv_iload_n hx hb dX5_place_6 rfl (lv_at hl 1 rfl) ?_
  refine ow_puti (ci := 4) (C := RX5) (T := TX5) (N := 6) (ty := .int) hx hb hts hin_X5 tyX5 tyX5_ok nmX5 hown hK hW hS 15 j (PO_k15 hj) rfl 1 (by decide) (List.mem_of_getElem? (i := 2) rfl) rfl rfl (by decide +kernel) rfl rfl (Nat.le_of_ble_eq_true rfl) (by decide) (PO_w15_1 hj) dX5_place_7 (fun H locs hW hS => ?_)
  refine lv_aload_n hx hb dX5_place_10 rfl (lv_at hl 0 rfl) ?_
  refine lv_iload_n hx hb dX5_place_11 rfl (lv_at hl 2 rfl) ?_
  refine ow_puti (ci := 4) (C := RX5) (T := TX5) (N := 6) (ty := .int) hx hb hts hin_X5 tyX5 tyX5_ok nmX5 hown hK hW hS 15 j (PO_k15 hj) rfl 2 (by decide) (List.mem_of_getElem? (i := 3) rfl) rfl rfl (by decide +kernel) rfl rfl (Nat.le_of_ble_eq_true rfl) (by decide) (PO_w15_2 hj) dX5_place_12 (fun H locs hW hS => ?_)
  refine lv_aload_n hx hb dX5_place_15 rfl (lv_at hl 0 rfl) ?_
  refine lv_iload_n hx hb dX5_place_16 rfl (lv_at hl 3 rfl) ?_
  refine ow_puti (ci := 4) (C := RX5) (T := TX5) (N := 6) (ty := .int) hx hb hts hin_X5 tyX5 tyX5_ok nmX5 hown hK hW hS 15 j (PO_k15 hj) rfl 3 (by decide) (List.mem_of_getElem? (i := 4) rfl) rfl rfl (by decide +kernel) rfl rfl (Nat.le_of_ble_eq_true rfl) (by decide) (PO_w15_3 hj) dX5_place_17 (fun H locs hW hS => ?_)
  refine lv_aload_n hx hb dX5_place_20 rfl (lv_at hl 0 rfl) ?_
  refine lv_iload hx hb dX5_place_21 (lv_at hl 4 rfl) ?_
  refine ow_puti (ci := 4) (C := RX5) (T := TX5) (N := 6) (ty := .int) hx hb hts hin_X5 tyX5 tyX5_ok nmX5 hown hK hW hS 15 j (PO_k15 hj) rfl 4 (by decide) (List.mem_of_getElem? (i := 5) rfl) rfl rfl (by decide +kernel) rfl rfl (Nat.le_of_ble_eq_true rfl) (by decide) (PO_w15_4 hj) dX5_place_23 (fun H locs hW hS => ?_)
  refine lv_aload_n hx hb dX5_place_26 rfl (lv_at hl 0 rfl) ?_
  refine lv_iload hx hb dX5_place_27 (lv_at hl 5 rfl) ?_
  refine ow_puti (ci := 4) (C := RX5) (T := TX5) (N := 6) (ty := .int) hx hb hts hin_X5 tyX5 tyX5_ok nmX5 hown hK hW hS 15 j (PO_k15 hj) rfl 5 (by decide) (List.mem_of_getElem? (i := 6) rfl) rfl rfl (by decide +kernel) rfl rfl (Nat.le_of_ble_eq_true rfl) (by decide) (PO_w15_5 hj) dX5_place_29 (fun H locs hW hS => ?_)
  exact ow_vret hx hb hr hlk hK hW hS (by rw [m_X5_place]) dX5_place_32

def m_X5_covers (q : qC) (j : Nat) (r : Nat) : Int32 := (if (q.1 15 j 0) = 0 then 0 else (if (q.1 15 j 1) = (-1) then (if (q.1 15 j 2) = (-1) then (if (q.1 15 j 3) = (-1) then (if (m_X3_isFiledFrom q r (q.1 15 j 4) (q.1 15 j 5)) = 0 then 0 else 1) else (if (m_X3_hasKey q r (q.1 15 j 3)) = 0 then 0 else (if (m_X3_isFiledFrom q r (q.1 15 j 4) (q.1 15 j 5)) = 0 then 0 else 1))) else (if (q.1 15 j 2) = (q.1 14 (Int32.toNatClampNeg (q.1 16 r 0)) 1) then (if (q.1 15 j 3) = (-1) then (if (m_X3_isFiledFrom q r (q.1 15 j 4) (q.1 15 j 5)) = 0 then 0 else 1) else (if (m_X3_hasKey q r (q.1 15 j 3)) = 0 then 0 else (if (m_X3_isFiledFrom q r (q.1 15 j 4) (q.1 15 j 5)) = 0 then 0 else 1))) else 0)) else (if (q.1 15 j 1) = (q.1 14 (Int32.toNatClampNeg (q.1 16 r 0)) 0) then (if (q.1 15 j 2) = (-1) then (if (q.1 15 j 3) = (-1) then (if (m_X3_isFiledFrom q r (q.1 15 j 4) (q.1 15 j 5)) = 0 then 0 else 1) else (if (m_X3_hasKey q r (q.1 15 j 3)) = 0 then 0 else (if (m_X3_isFiledFrom q r (q.1 15 j 4) (q.1 15 j 5)) = 0 then 0 else 1))) else (if (q.1 15 j 2) = (q.1 14 (Int32.toNatClampNeg (q.1 16 r 0)) 1) then (if (q.1 15 j 3) = (-1) then (if (m_X3_isFiledFrom q r (q.1 15 j 4) (q.1 15 j 5)) = 0 then 0 else 1) else (if (m_X3_hasKey q r (q.1 15 j 3)) = 0 then 0 else (if (m_X3_isFiledFrom q r (q.1 15 j 4) (q.1 15 j 5)) = 0 then 0 else 1))) else 0)) else 0)))
set_option maxHeartbeats 4000000 in
set_option maxRecDepth 100000 in
theorem c_X5_covers (l : Launch) (D : va_G) (b0 : Nat) (cA : Nat → ClassId) (ad : Nat → Nat → Nat) (mq : qM) (q : qC) (j : Nat) (r : Nat) (hj : j < 8) (hpr : ¬ q.1 5 0 r = 0) (hfr : ¬ q.1 3 0 (Int32.toNatClampNeg (q.1 16 r 0)) = 0) : cc_i l yX5_covers wsX5_covers 1 22 D b0 cA ad mq q [.ref (ad 15 j), .ref (ad 16 r)] (m_X5_covers q j r, q) := by
  refine cc_of (by decide) rfl (Nat.le_of_ble_eq_true rfl) ?_
  intro p e s m below meth c hx hb hml hr hlk hown hts hK hW hKD ls hl
  have hown : s.vm.findClass RX5 = some m.cls := hown
  have hS : va_S (wA b0) s.heap s.heap [] := va_S.rf
  have hl : lv_has ls 2 [(0, .ref (ad 15 j)), (1, .ref (ad 16 r))] := hl
  have hin_X5 : ∀ w ∈ wsX50, w ∈ wsX5_covers := fun w h => List.mem_cons_of_mem _ (List.mem_append_left _ (List.mem_append_left _ (List.mem_append_right _ h)))
  have hin_X3 : ∀ w ∈ wsX30, w ∈ wsX5_covers := fun w h => List.mem_cons_of_mem _ (List.mem_append_left _ (List.mem_append_right _ h))
  have hin_X4 : ∀ w ∈ wsX40, w ∈ wsX5_covers := fun w h => List.mem_cons_of_mem _ (List.mem_append_right _ h)
  refine lv_aload_n hx hb dX5_covers_0 rfl (lv_at hl 0 rfl) ?_
  refine ow_get (v2 := .int (q.1 15 j 0)) (ci := 4) (C := RX5) (T := TX5) (N := 6) hx hb hts hin_X5 hown hK hW 15 j (PO_k15 hj) rfl 0 (by decide) (List.mem_of_getElem? (i := 1) rfl) rfl rfl rfl dX5_covers_1 ?_
  refine lv_if_eq (tgt := 89) hx hb dX5_covers_4 (by decide) (fun c_1 => ?_) (fun c_1 => ?_)
  · refine lv_iconst (v := 0) hx hb dX5_covers_89 (by decide) ?_
    exact ow_zret hx hb hr hlk hK hW hS rfl (by rw [m_X5_covers, if_pos c_1]) dX5_covers_90
  · refine lv_aload_n hx hb dX5_covers_7 rfl (lv_at hl 0 rfl) ?_
    refine ow_get (v2 := .int (q.1 15 j 1)) (ci := 4) (C := RX5) (T := TX5) (N := 6) hx hb hts hin_X5 hown hK hW 15 j (PO_k15 hj) rfl 1 (by decide) (List.mem_of_getElem? (i := 2) rfl) rfl rfl rfl dX5_covers_8 ?_
    refine lv_iconst (v := (-1)) hx hb dX5_covers_11 (by decide) ?_
    refine lv_icmp_eq (tgt := 29) hx hb dX5_covers_12 (by decide) (fun c_2 => ?_) (fun c_2 => ?_)
    · refine lv_aload_n hx hb dX5_covers_29 rfl (lv_at hl 0 rfl) ?_
      refine ow_get (v2 := .int (q.1 15 j 2)) (ci := 4) (C := RX5) (T := TX5) (N := 6) hx hb hts hin_X5 hown hK hW 15 j (PO_k15 hj) rfl 2 (by decide) (List.mem_of_getElem? (i := 5) rfl) rfl rfl rfl dX5_covers_30 ?_
      refine lv_iconst (v := (-1)) hx hb dX5_covers_33 (by decide) ?_
      refine lv_icmp_eq (tgt := 51) hx hb dX5_covers_34 (by decide) (fun c_3 => ?_) (fun c_3 => ?_)
      · refine lv_aload_n hx hb dX5_covers_51 rfl (lv_at hl 0 rfl) ?_
        refine ow_get (v2 := .int (q.1 15 j 3)) (ci := 4) (C := RX5) (T := TX5) (N := 6) hx hb hts hin_X5 hown hK hW 15 j (PO_k15 hj) rfl 3 (by decide) (List.mem_of_getElem? (i := 7) rfl) rfl rfl rfl dX5_covers_52 ?_
        refine lv_iconst (v := (-1)) hx hb dX5_covers_55 (by decide) ?_
        refine lv_icmp_eq (tgt := 70) hx hb dX5_covers_56 (by decide) (fun c_4 => ?_) (fun c_4 => ?_)
        · refine lv_aload_n hx hb dX5_covers_70 rfl (lv_at hl 1 rfl) ?_
          refine lv_aload_n hx hb dX5_covers_71 rfl (lv_at hl 0 rfl) ?_
          refine ow_get (v2 := .int (q.1 15 j 4)) (ci := 4) (C := RX5) (T := TX5) (N := 6) hx hb hts hin_X5 hown hK hW 15 j (PO_k15 hj) rfl 4 (by decide) (List.mem_of_getElem? (i := 8) rfl) rfl rfl rfl dX5_covers_72 ?_
          refine lv_aload_n hx hb dX5_covers_75 rfl (lv_at hl 0 rfl) ?_
          refine ow_get (v2 := .int (q.1 15 j 5)) (ci := 4) (C := RX5) (T := TX5) (N := 6) hx hb hts hin_X5 hown hK hW 15 j (PO_k15 hj) rfl 5 (by decide) (List.mem_of_getElem? (i := 9) rfl) rfl rfl rfl dX5_covers_76 ?_
          refine ow_callVi (C := RX3) (T := TX3) (N := 8) (ci := 2) (k := 16) (j := r) (n := 2) (As := [.int (q.1 15 j 4), .int (q.1 15 j 5)]) (rest := []) (r := (m_X3_isFiledFrom q r (q.1 15 j 4) (q.1 15 j 5))) (z2 := q) ⟨hx, hb, hml, hown, hts⟩ (c_X3_isFiledFrom l D b0 cA ad mq q r (q.1 15 j 4) (q.1 15 j 5) hpr) (PO_k16 hpr) rfl gX5_covers_X3_isFiledFrom rfl (by decide +kernel) rfl ⟨Nat.le_of_ble_eq_true rfl, Nat.le_of_ble_eq_true rfl⟩ ⟨Nat.le_of_ble_eq_true rfl, Nat.le_of_ble_eq_true rfl⟩ hK hW hS hKD hl.1 rfl (Nat.le_of_ble_eq_true rfl) dX5_covers_79 (fun H locs hW hS => ?_)
          refine lv_if_eq (tgt := 89) hx hb dX5_covers_82 (by decide) (fun c_5 => ?_) (fun c_5 => ?_)
          · refine lv_iconst (v := 0) hx hb dX5_covers_89 (by decide) ?_
            exact ow_zret hx hb hr hlk hK hW hS rfl (by rw [m_X5_covers, if_neg c_1, if_pos c_2, if_pos c_3, if_pos c_4, if_pos c_5]) dX5_covers_90
          · refine lv_iconst (v := 1) hx hb dX5_covers_85 (by decide) ?_
            refine lv_goto (tgt := 90) hx hb dX5_covers_86 (by decide) ?_
            exact ow_zret hx hb hr hlk hK hW hS rfl (by rw [m_X5_covers, if_neg c_1, if_pos c_2, if_pos c_3, if_pos c_4, if_neg c_5]) dX5_covers_90
        · refine lv_aload_n hx hb dX5_covers_59 rfl (lv_at hl 1 rfl) ?_
          refine lv_aload_n hx hb dX5_covers_60 rfl (lv_at hl 0 rfl) ?_
          refine ow_get (v2 := .int (q.1 15 j 3)) (ci := 4) (C := RX5) (T := TX5) (N := 6) hx hb hts hin_X5 hown hK hW 15 j (PO_k15 hj) rfl 3 (by decide) (List.mem_of_getElem? (i := 7) rfl) rfl rfl rfl dX5_covers_61 ?_
          refine ow_callVi (C := RX3) (T := TX3) (N := 8) (ci := 2) (k := 16) (j := r) (n := 1) (As := [.int (q.1 15 j 3)]) (rest := []) (r := (m_X3_hasKey q r (q.1 15 j 3))) (z2 := q) ⟨hx, hb, hml, hown, hts⟩ (c_X3_hasKey l D b0 cA ad mq q r (q.1 15 j 3) hpr) (PO_k16 hpr) rfl gX5_covers_X3_hasKey rfl (by decide +kernel) rfl ⟨Nat.le_of_ble_eq_true rfl, Nat.le_of_ble_eq_true rfl⟩ ⟨Nat.le_of_ble_eq_true rfl, Nat.le_of_ble_eq_true rfl⟩ hK hW hS hKD hl.1 rfl (Nat.le_of_ble_eq_true rfl) dX5_covers_64 (fun H locs hW hS => ?_)
          refine lv_if_eq (tgt := 89) hx hb dX5_covers_67 (by decide) (fun c_6 => ?_) (fun c_6 => ?_)
          · refine lv_iconst (v := 0) hx hb dX5_covers_89 (by decide) ?_
            exact ow_zret hx hb hr hlk hK hW hS rfl (by rw [m_X5_covers, if_neg c_1, if_pos c_2, if_pos c_3, if_neg c_4, if_pos c_6]) dX5_covers_90
          · refine lv_aload_n hx hb dX5_covers_70 rfl (lv_at hl 1 rfl) ?_
            refine lv_aload_n hx hb dX5_covers_71 rfl (lv_at hl 0 rfl) ?_
            refine ow_get (v2 := .int (q.1 15 j 4)) (ci := 4) (C := RX5) (T := TX5) (N := 6) hx hb hts hin_X5 hown hK hW 15 j (PO_k15 hj) rfl 4 (by decide) (List.mem_of_getElem? (i := 8) rfl) rfl rfl rfl dX5_covers_72 ?_
            refine lv_aload_n hx hb dX5_covers_75 rfl (lv_at hl 0 rfl) ?_
            refine ow_get (v2 := .int (q.1 15 j 5)) (ci := 4) (C := RX5) (T := TX5) (N := 6) hx hb hts hin_X5 hown hK hW 15 j (PO_k15 hj) rfl 5 (by decide) (List.mem_of_getElem? (i := 9) rfl) rfl rfl rfl dX5_covers_76 ?_
            refine ow_callVi (C := RX3) (T := TX3) (N := 8) (ci := 2) (k := 16) (j := r) (n := 2) (As := [.int (q.1 15 j 4), .int (q.1 15 j 5)]) (rest := []) (r := (m_X3_isFiledFrom q r (q.1 15 j 4) (q.1 15 j 5))) (z2 := q) ⟨hx, hb, hml, hown, hts⟩ (c_X3_isFiledFrom l D b0 cA ad mq q r (q.1 15 j 4) (q.1 15 j 5) hpr) (PO_k16 hpr) rfl gX5_covers_X3_isFiledFrom rfl (by decide +kernel) rfl ⟨Nat.le_of_ble_eq_true rfl, Nat.le_of_ble_eq_true rfl⟩ ⟨Nat.le_of_ble_eq_true rfl, Nat.le_of_ble_eq_true rfl⟩ hK hW hS hKD hl.1 rfl (Nat.le_of_ble_eq_true rfl) dX5_covers_79 (fun H locs hW hS => ?_)
            refine lv_if_eq (tgt := 89) hx hb dX5_covers_82 (by decide) (fun c_7 => ?_) (fun c_7 => ?_)
            · refine lv_iconst (v := 0) hx hb dX5_covers_89 (by decide) ?_
              exact ow_zret hx hb hr hlk hK hW hS rfl (by rw [m_X5_covers, if_neg c_1, if_pos c_2, if_pos c_3, if_neg c_4, if_neg c_6, if_pos c_7]) dX5_covers_90
            · refine lv_iconst (v := 1) hx hb dX5_covers_85 (by decide) ?_
              refine lv_goto (tgt := 90) hx hb dX5_covers_86 (by decide) ?_
              exact ow_zret hx hb hr hlk hK hW hS rfl (by rw [m_X5_covers, if_neg c_1, if_pos c_2, if_pos c_3, if_neg c_4, if_neg c_6, if_neg c_7]) dX5_covers_90
      · refine lv_aload_n hx hb dX5_covers_37 rfl (lv_at hl 0 rfl) ?_
        refine ow_get (v2 := .int (q.1 15 j 2)) (ci := 4) (C := RX5) (T := TX5) (N := 6) hx hb hts hin_X5 hown hK hW 15 j (PO_k15 hj) rfl 2 (by decide) (List.mem_of_getElem? (i := 5) rfl) rfl rfl rfl dX5_covers_38 ?_
        refine lv_aload_n hx hb dX5_covers_41 rfl (lv_at hl 1 rfl) ?_
        refine ow_get (v2 := .ref (ad 14 (Int32.toNatClampNeg (q.1 16 r 0)))) (ci := 2) (C := RX3) (T := TX3) (N := 8) hx hb hts hin_X3 hown hK hW 16 r (PO_k16 hpr) rfl 0 (by decide) (List.mem_of_getElem? (i := 3) rfl) rfl rfl rfl dX5_covers_42 ?_
        refine ow_get (v2 := .int (q.1 14 (Int32.toNatClampNeg (q.1 16 r 0)) 1)) (ci := 3) (C := RX4) (T := TX4) (N := 4) hx hb hts hin_X4 hown hK hW 14 (Int32.toNatClampNeg (q.1 16 r 0)) (PO_k14 hfr) rfl 1 (by decide) (List.mem_of_getElem? (i := 6) rfl) rfl rfl rfl dX5_covers_45 ?_
        refine lv_icmp_ne (tgt := 89) hx hb dX5_covers_48 (by decide) (fun c_8 => ?_) (fun c_8 => ?_)
        · refine lv_iconst (v := 0) hx hb dX5_covers_89 (by decide) ?_
          exact ow_zret hx hb hr hlk hK hW hS rfl (by rw [m_X5_covers, if_neg c_1, if_pos c_2, if_neg c_3, if_neg c_8]) dX5_covers_90
        · refine lv_aload_n hx hb dX5_covers_51 rfl (lv_at hl 0 rfl) ?_
          refine ow_get (v2 := .int (q.1 15 j 3)) (ci := 4) (C := RX5) (T := TX5) (N := 6) hx hb hts hin_X5 hown hK hW 15 j (PO_k15 hj) rfl 3 (by decide) (List.mem_of_getElem? (i := 7) rfl) rfl rfl rfl dX5_covers_52 ?_
          refine lv_iconst (v := (-1)) hx hb dX5_covers_55 (by decide) ?_
          refine lv_icmp_eq (tgt := 70) hx hb dX5_covers_56 (by decide) (fun c_9 => ?_) (fun c_9 => ?_)
          · refine lv_aload_n hx hb dX5_covers_70 rfl (lv_at hl 1 rfl) ?_
            refine lv_aload_n hx hb dX5_covers_71 rfl (lv_at hl 0 rfl) ?_
            refine ow_get (v2 := .int (q.1 15 j 4)) (ci := 4) (C := RX5) (T := TX5) (N := 6) hx hb hts hin_X5 hown hK hW 15 j (PO_k15 hj) rfl 4 (by decide) (List.mem_of_getElem? (i := 8) rfl) rfl rfl rfl dX5_covers_72 ?_
            refine lv_aload_n hx hb dX5_covers_75 rfl (lv_at hl 0 rfl) ?_
            refine ow_get (v2 := .int (q.1 15 j 5)) (ci := 4) (C := RX5) (T := TX5) (N := 6) hx hb hts hin_X5 hown hK hW 15 j (PO_k15 hj) rfl 5 (by decide) (List.mem_of_getElem? (i := 9) rfl) rfl rfl rfl dX5_covers_76 ?_
            refine ow_callVi (C := RX3) (T := TX3) (N := 8) (ci := 2) (k := 16) (j := r) (n := 2) (As := [.int (q.1 15 j 4), .int (q.1 15 j 5)]) (rest := []) (r := (m_X3_isFiledFrom q r (q.1 15 j 4) (q.1 15 j 5))) (z2 := q) ⟨hx, hb, hml, hown, hts⟩ (c_X3_isFiledFrom l D b0 cA ad mq q r (q.1 15 j 4) (q.1 15 j 5) hpr) (PO_k16 hpr) rfl gX5_covers_X3_isFiledFrom rfl (by decide +kernel) rfl ⟨Nat.le_of_ble_eq_true rfl, Nat.le_of_ble_eq_true rfl⟩ ⟨Nat.le_of_ble_eq_true rfl, Nat.le_of_ble_eq_true rfl⟩ hK hW hS hKD hl.1 rfl (Nat.le_of_ble_eq_true rfl) dX5_covers_79 (fun H locs hW hS => ?_)
            refine lv_if_eq (tgt := 89) hx hb dX5_covers_82 (by decide) (fun c_10 => ?_) (fun c_10 => ?_)
            · refine lv_iconst (v := 0) hx hb dX5_covers_89 (by decide) ?_
              exact ow_zret hx hb hr hlk hK hW hS rfl (by rw [m_X5_covers, if_neg c_1, if_pos c_2, if_neg c_3, if_pos c_8, if_pos c_9, if_pos c_10]) dX5_covers_90
            · refine lv_iconst (v := 1) hx hb dX5_covers_85 (by decide) ?_
              refine lv_goto (tgt := 90) hx hb dX5_covers_86 (by decide) ?_
              exact ow_zret hx hb hr hlk hK hW hS rfl (by rw [m_X5_covers, if_neg c_1, if_pos c_2, if_neg c_3, if_pos c_8, if_pos c_9, if_neg c_10]) dX5_covers_90
          · refine lv_aload_n hx hb dX5_covers_59 rfl (lv_at hl 1 rfl) ?_
            refine lv_aload_n hx hb dX5_covers_60 rfl (lv_at hl 0 rfl) ?_
            refine ow_get (v2 := .int (q.1 15 j 3)) (ci := 4) (C := RX5) (T := TX5) (N := 6) hx hb hts hin_X5 hown hK hW 15 j (PO_k15 hj) rfl 3 (by decide) (List.mem_of_getElem? (i := 7) rfl) rfl rfl rfl dX5_covers_61 ?_
            refine ow_callVi (C := RX3) (T := TX3) (N := 8) (ci := 2) (k := 16) (j := r) (n := 1) (As := [.int (q.1 15 j 3)]) (rest := []) (r := (m_X3_hasKey q r (q.1 15 j 3))) (z2 := q) ⟨hx, hb, hml, hown, hts⟩ (c_X3_hasKey l D b0 cA ad mq q r (q.1 15 j 3) hpr) (PO_k16 hpr) rfl gX5_covers_X3_hasKey rfl (by decide +kernel) rfl ⟨Nat.le_of_ble_eq_true rfl, Nat.le_of_ble_eq_true rfl⟩ ⟨Nat.le_of_ble_eq_true rfl, Nat.le_of_ble_eq_true rfl⟩ hK hW hS hKD hl.1 rfl (Nat.le_of_ble_eq_true rfl) dX5_covers_64 (fun H locs hW hS => ?_)
            refine lv_if_eq (tgt := 89) hx hb dX5_covers_67 (by decide) (fun c_11 => ?_) (fun c_11 => ?_)
            · refine lv_iconst (v := 0) hx hb dX5_covers_89 (by decide) ?_
              exact ow_zret hx hb hr hlk hK hW hS rfl (by rw [m_X5_covers, if_neg c_1, if_pos c_2, if_neg c_3, if_pos c_8, if_neg c_9, if_pos c_11]) dX5_covers_90
            · refine lv_aload_n hx hb dX5_covers_70 rfl (lv_at hl 1 rfl) ?_
              refine lv_aload_n hx hb dX5_covers_71 rfl (lv_at hl 0 rfl) ?_
              refine ow_get (v2 := .int (q.1 15 j 4)) (ci := 4) (C := RX5) (T := TX5) (N := 6) hx hb hts hin_X5 hown hK hW 15 j (PO_k15 hj) rfl 4 (by decide) (List.mem_of_getElem? (i := 8) rfl) rfl rfl rfl dX5_covers_72 ?_
              refine lv_aload_n hx hb dX5_covers_75 rfl (lv_at hl 0 rfl) ?_
              refine ow_get (v2 := .int (q.1 15 j 5)) (ci := 4) (C := RX5) (T := TX5) (N := 6) hx hb hts hin_X5 hown hK hW 15 j (PO_k15 hj) rfl 5 (by decide) (List.mem_of_getElem? (i := 9) rfl) rfl rfl rfl dX5_covers_76 ?_
              refine ow_callVi (C := RX3) (T := TX3) (N := 8) (ci := 2) (k := 16) (j := r) (n := 2) (As := [.int (q.1 15 j 4), .int (q.1 15 j 5)]) (rest := []) (r := (m_X3_isFiledFrom q r (q.1 15 j 4) (q.1 15 j 5))) (z2 := q) ⟨hx, hb, hml, hown, hts⟩ (c_X3_isFiledFrom l D b0 cA ad mq q r (q.1 15 j 4) (q.1 15 j 5) hpr) (PO_k16 hpr) rfl gX5_covers_X3_isFiledFrom rfl (by decide +kernel) rfl ⟨Nat.le_of_ble_eq_true rfl, Nat.le_of_ble_eq_true rfl⟩ ⟨Nat.le_of_ble_eq_true rfl, Nat.le_of_ble_eq_true rfl⟩ hK hW hS hKD hl.1 rfl (Nat.le_of_ble_eq_true rfl) dX5_covers_79 (fun H locs hW hS => ?_)
              refine lv_if_eq (tgt := 89) hx hb dX5_covers_82 (by decide) (fun c_12 => ?_) (fun c_12 => ?_)
              · refine lv_iconst (v := 0) hx hb dX5_covers_89 (by decide) ?_
                exact ow_zret hx hb hr hlk hK hW hS rfl (by rw [m_X5_covers, if_neg c_1, if_pos c_2, if_neg c_3, if_pos c_8, if_neg c_9, if_neg c_11, if_pos c_12]) dX5_covers_90
              · refine lv_iconst (v := 1) hx hb dX5_covers_85 (by decide) ?_
                refine lv_goto (tgt := 90) hx hb dX5_covers_86 (by decide) ?_
                exact ow_zret hx hb hr hlk hK hW hS rfl (by rw [m_X5_covers, if_neg c_1, if_pos c_2, if_neg c_3, if_pos c_8, if_neg c_9, if_neg c_11, if_neg c_12]) dX5_covers_90
    · refine lv_aload_n hx hb dX5_covers_15 rfl (lv_at hl 0 rfl) ?_
      refine ow_get (v2 := .int (q.1 15 j 1)) (ci := 4) (C := RX5) (T := TX5) (N := 6) hx hb hts hin_X5 hown hK hW 15 j (PO_k15 hj) rfl 1 (by decide) (List.mem_of_getElem? (i := 2) rfl) rfl rfl rfl dX5_covers_16 ?_
      refine lv_aload_n hx hb dX5_covers_19 rfl (lv_at hl 1 rfl) ?_
      refine ow_get (v2 := .ref (ad 14 (Int32.toNatClampNeg (q.1 16 r 0)))) (ci := 2) (C := RX3) (T := TX3) (N := 8) hx hb hts hin_X3 hown hK hW 16 r (PO_k16 hpr) rfl 0 (by decide) (List.mem_of_getElem? (i := 3) rfl) rfl rfl rfl dX5_covers_20 ?_
      refine ow_get (v2 := .int (q.1 14 (Int32.toNatClampNeg (q.1 16 r 0)) 0)) (ci := 3) (C := RX4) (T := TX4) (N := 4) hx hb hts hin_X4 hown hK hW 14 (Int32.toNatClampNeg (q.1 16 r 0)) (PO_k14 hfr) rfl 0 (by decide) (List.mem_of_getElem? (i := 4) rfl) rfl rfl rfl dX5_covers_23 ?_
      refine lv_icmp_ne (tgt := 89) hx hb dX5_covers_26 (by decide) (fun c_13 => ?_) (fun c_13 => ?_)
      · refine lv_iconst (v := 0) hx hb dX5_covers_89 (by decide) ?_
        exact ow_zret hx hb hr hlk hK hW hS rfl (by rw [m_X5_covers, if_neg c_1, if_neg c_2, if_neg c_13]) dX5_covers_90
      · refine lv_aload_n hx hb dX5_covers_29 rfl (lv_at hl 0 rfl) ?_
        refine ow_get (v2 := .int (q.1 15 j 2)) (ci := 4) (C := RX5) (T := TX5) (N := 6) hx hb hts hin_X5 hown hK hW 15 j (PO_k15 hj) rfl 2 (by decide) (List.mem_of_getElem? (i := 5) rfl) rfl rfl rfl dX5_covers_30 ?_
        refine lv_iconst (v := (-1)) hx hb dX5_covers_33 (by decide) ?_
        refine lv_icmp_eq (tgt := 51) hx hb dX5_covers_34 (by decide) (fun c_14 => ?_) (fun c_14 => ?_)
        · refine lv_aload_n hx hb dX5_covers_51 rfl (lv_at hl 0 rfl) ?_
          refine ow_get (v2 := .int (q.1 15 j 3)) (ci := 4) (C := RX5) (T := TX5) (N := 6) hx hb hts hin_X5 hown hK hW 15 j (PO_k15 hj) rfl 3 (by decide) (List.mem_of_getElem? (i := 7) rfl) rfl rfl rfl dX5_covers_52 ?_
          refine lv_iconst (v := (-1)) hx hb dX5_covers_55 (by decide) ?_
          refine lv_icmp_eq (tgt := 70) hx hb dX5_covers_56 (by decide) (fun c_15 => ?_) (fun c_15 => ?_)
          · refine lv_aload_n hx hb dX5_covers_70 rfl (lv_at hl 1 rfl) ?_
            refine lv_aload_n hx hb dX5_covers_71 rfl (lv_at hl 0 rfl) ?_
            refine ow_get (v2 := .int (q.1 15 j 4)) (ci := 4) (C := RX5) (T := TX5) (N := 6) hx hb hts hin_X5 hown hK hW 15 j (PO_k15 hj) rfl 4 (by decide) (List.mem_of_getElem? (i := 8) rfl) rfl rfl rfl dX5_covers_72 ?_
            refine lv_aload_n hx hb dX5_covers_75 rfl (lv_at hl 0 rfl) ?_
            refine ow_get (v2 := .int (q.1 15 j 5)) (ci := 4) (C := RX5) (T := TX5) (N := 6) hx hb hts hin_X5 hown hK hW 15 j (PO_k15 hj) rfl 5 (by decide) (List.mem_of_getElem? (i := 9) rfl) rfl rfl rfl dX5_covers_76 ?_
            refine ow_callVi (C := RX3) (T := TX3) (N := 8) (ci := 2) (k := 16) (j := r) (n := 2) (As := [.int (q.1 15 j 4), .int (q.1 15 j 5)]) (rest := []) (r := (m_X3_isFiledFrom q r (q.1 15 j 4) (q.1 15 j 5))) (z2 := q) ⟨hx, hb, hml, hown, hts⟩ (c_X3_isFiledFrom l D b0 cA ad mq q r (q.1 15 j 4) (q.1 15 j 5) hpr) (PO_k16 hpr) rfl gX5_covers_X3_isFiledFrom rfl (by decide +kernel) rfl ⟨Nat.le_of_ble_eq_true rfl, Nat.le_of_ble_eq_true rfl⟩ ⟨Nat.le_of_ble_eq_true rfl, Nat.le_of_ble_eq_true rfl⟩ hK hW hS hKD hl.1 rfl (Nat.le_of_ble_eq_true rfl) dX5_covers_79 (fun H locs hW hS => ?_)
            refine lv_if_eq (tgt := 89) hx hb dX5_covers_82 (by decide) (fun c_16 => ?_) (fun c_16 => ?_)
            · refine lv_iconst (v := 0) hx hb dX5_covers_89 (by decide) ?_
              exact ow_zret hx hb hr hlk hK hW hS rfl (by rw [m_X5_covers, if_neg c_1, if_neg c_2, if_pos c_13, if_pos c_14, if_pos c_15, if_pos c_16]) dX5_covers_90
            · refine lv_iconst (v := 1) hx hb dX5_covers_85 (by decide) ?_
              refine lv_goto (tgt := 90) hx hb dX5_covers_86 (by decide) ?_
              exact ow_zret hx hb hr hlk hK hW hS rfl (by rw [m_X5_covers, if_neg c_1, if_neg c_2, if_pos c_13, if_pos c_14, if_pos c_15, if_neg c_16]) dX5_covers_90
          · refine lv_aload_n hx hb dX5_covers_59 rfl (lv_at hl 1 rfl) ?_
            refine lv_aload_n hx hb dX5_covers_60 rfl (lv_at hl 0 rfl) ?_
            refine ow_get (v2 := .int (q.1 15 j 3)) (ci := 4) (C := RX5) (T := TX5) (N := 6) hx hb hts hin_X5 hown hK hW 15 j (PO_k15 hj) rfl 3 (by decide) (List.mem_of_getElem? (i := 7) rfl) rfl rfl rfl dX5_covers_61 ?_
            refine ow_callVi (C := RX3) (T := TX3) (N := 8) (ci := 2) (k := 16) (j := r) (n := 1) (As := [.int (q.1 15 j 3)]) (rest := []) (r := (m_X3_hasKey q r (q.1 15 j 3))) (z2 := q) ⟨hx, hb, hml, hown, hts⟩ (c_X3_hasKey l D b0 cA ad mq q r (q.1 15 j 3) hpr) (PO_k16 hpr) rfl gX5_covers_X3_hasKey rfl (by decide +kernel) rfl ⟨Nat.le_of_ble_eq_true rfl, Nat.le_of_ble_eq_true rfl⟩ ⟨Nat.le_of_ble_eq_true rfl, Nat.le_of_ble_eq_true rfl⟩ hK hW hS hKD hl.1 rfl (Nat.le_of_ble_eq_true rfl) dX5_covers_64 (fun H locs hW hS => ?_)
            refine lv_if_eq (tgt := 89) hx hb dX5_covers_67 (by decide) (fun c_17 => ?_) (fun c_17 => ?_)
            · refine lv_iconst (v := 0) hx hb dX5_covers_89 (by decide) ?_
              exact ow_zret hx hb hr hlk hK hW hS rfl (by rw [m_X5_covers, if_neg c_1, if_neg c_2, if_pos c_13, if_pos c_14, if_neg c_15, if_pos c_17]) dX5_covers_90
            · refine lv_aload_n hx hb dX5_covers_70 rfl (lv_at hl 1 rfl) ?_
              refine lv_aload_n hx hb dX5_covers_71 rfl (lv_at hl 0 rfl) ?_
              refine ow_get (v2 := .int (q.1 15 j 4)) (ci := 4) (C := RX5) (T := TX5) (N := 6) hx hb hts hin_X5 hown hK hW 15 j (PO_k15 hj) rfl 4 (by decide) (List.mem_of_getElem? (i := 8) rfl) rfl rfl rfl dX5_covers_72 ?_
              refine lv_aload_n hx hb dX5_covers_75 rfl (lv_at hl 0 rfl) ?_
              refine ow_get (v2 := .int (q.1 15 j 5)) (ci := 4) (C := RX5) (T := TX5) (N := 6) hx hb hts hin_X5 hown hK hW 15 j (PO_k15 hj) rfl 5 (by decide) (List.mem_of_getElem? (i := 9) rfl) rfl rfl rfl dX5_covers_76 ?_
              refine ow_callVi (C := RX3) (T := TX3) (N := 8) (ci := 2) (k := 16) (j := r) (n := 2) (As := [.int (q.1 15 j 4), .int (q.1 15 j 5)]) (rest := []) (r := (m_X3_isFiledFrom q r (q.1 15 j 4) (q.1 15 j 5))) (z2 := q) ⟨hx, hb, hml, hown, hts⟩ (c_X3_isFiledFrom l D b0 cA ad mq q r (q.1 15 j 4) (q.1 15 j 5) hpr) (PO_k16 hpr) rfl gX5_covers_X3_isFiledFrom rfl (by decide +kernel) rfl ⟨Nat.le_of_ble_eq_true rfl, Nat.le_of_ble_eq_true rfl⟩ ⟨Nat.le_of_ble_eq_true rfl, Nat.le_of_ble_eq_true rfl⟩ hK hW hS hKD hl.1 rfl (Nat.le_of_ble_eq_true rfl) dX5_covers_79 (fun H locs hW hS => ?_)
              refine lv_if_eq (tgt := 89) hx hb dX5_covers_82 (by decide) (fun c_18 => ?_) (fun c_18 => ?_)
              · refine lv_iconst (v := 0) hx hb dX5_covers_89 (by decide) ?_
                exact ow_zret hx hb hr hlk hK hW hS rfl (by rw [m_X5_covers, if_neg c_1, if_neg c_2, if_pos c_13, if_pos c_14, if_neg c_15, if_neg c_17, if_pos c_18]) dX5_covers_90
              · refine lv_iconst (v := 1) hx hb dX5_covers_85 (by decide) ?_
                refine lv_goto (tgt := 90) hx hb dX5_covers_86 (by decide) ?_
                exact ow_zret hx hb hr hlk hK hW hS rfl (by rw [m_X5_covers, if_neg c_1, if_neg c_2, if_pos c_13, if_pos c_14, if_neg c_15, if_neg c_17, if_neg c_18]) dX5_covers_90
        · refine lv_aload_n hx hb dX5_covers_37 rfl (lv_at hl 0 rfl) ?_
          refine ow_get (v2 := .int (q.1 15 j 2)) (ci := 4) (C := RX5) (T := TX5) (N := 6) hx hb hts hin_X5 hown hK hW 15 j (PO_k15 hj) rfl 2 (by decide) (List.mem_of_getElem? (i := 5) rfl) rfl rfl rfl dX5_covers_38 ?_
          refine lv_aload_n hx hb dX5_covers_41 rfl (lv_at hl 1 rfl) ?_
          refine ow_get (v2 := .ref (ad 14 (Int32.toNatClampNeg (q.1 16 r 0)))) (ci := 2) (C := RX3) (T := TX3) (N := 8) hx hb hts hin_X3 hown hK hW 16 r (PO_k16 hpr) rfl 0 (by decide) (List.mem_of_getElem? (i := 3) rfl) rfl rfl rfl dX5_covers_42 ?_
          refine ow_get (v2 := .int (q.1 14 (Int32.toNatClampNeg (q.1 16 r 0)) 1)) (ci := 3) (C := RX4) (T := TX4) (N := 4) hx hb hts hin_X4 hown hK hW 14 (Int32.toNatClampNeg (q.1 16 r 0)) (PO_k14 hfr) rfl 1 (by decide) (List.mem_of_getElem? (i := 6) rfl) rfl rfl rfl dX5_covers_45 ?_
          refine lv_icmp_ne (tgt := 89) hx hb dX5_covers_48 (by decide) (fun c_19 => ?_) (fun c_19 => ?_)
          · refine lv_iconst (v := 0) hx hb dX5_covers_89 (by decide) ?_
            exact ow_zret hx hb hr hlk hK hW hS rfl (by rw [m_X5_covers, if_neg c_1, if_neg c_2, if_pos c_13, if_neg c_14, if_neg c_19]) dX5_covers_90
          · refine lv_aload_n hx hb dX5_covers_51 rfl (lv_at hl 0 rfl) ?_
            refine ow_get (v2 := .int (q.1 15 j 3)) (ci := 4) (C := RX5) (T := TX5) (N := 6) hx hb hts hin_X5 hown hK hW 15 j (PO_k15 hj) rfl 3 (by decide) (List.mem_of_getElem? (i := 7) rfl) rfl rfl rfl dX5_covers_52 ?_
            refine lv_iconst (v := (-1)) hx hb dX5_covers_55 (by decide) ?_
            refine lv_icmp_eq (tgt := 70) hx hb dX5_covers_56 (by decide) (fun c_20 => ?_) (fun c_20 => ?_)
            · refine lv_aload_n hx hb dX5_covers_70 rfl (lv_at hl 1 rfl) ?_
              refine lv_aload_n hx hb dX5_covers_71 rfl (lv_at hl 0 rfl) ?_
              refine ow_get (v2 := .int (q.1 15 j 4)) (ci := 4) (C := RX5) (T := TX5) (N := 6) hx hb hts hin_X5 hown hK hW 15 j (PO_k15 hj) rfl 4 (by decide) (List.mem_of_getElem? (i := 8) rfl) rfl rfl rfl dX5_covers_72 ?_
              refine lv_aload_n hx hb dX5_covers_75 rfl (lv_at hl 0 rfl) ?_
              refine ow_get (v2 := .int (q.1 15 j 5)) (ci := 4) (C := RX5) (T := TX5) (N := 6) hx hb hts hin_X5 hown hK hW 15 j (PO_k15 hj) rfl 5 (by decide) (List.mem_of_getElem? (i := 9) rfl) rfl rfl rfl dX5_covers_76 ?_
              refine ow_callVi (C := RX3) (T := TX3) (N := 8) (ci := 2) (k := 16) (j := r) (n := 2) (As := [.int (q.1 15 j 4), .int (q.1 15 j 5)]) (rest := []) (r := (m_X3_isFiledFrom q r (q.1 15 j 4) (q.1 15 j 5))) (z2 := q) ⟨hx, hb, hml, hown, hts⟩ (c_X3_isFiledFrom l D b0 cA ad mq q r (q.1 15 j 4) (q.1 15 j 5) hpr) (PO_k16 hpr) rfl gX5_covers_X3_isFiledFrom rfl (by decide +kernel) rfl ⟨Nat.le_of_ble_eq_true rfl, Nat.le_of_ble_eq_true rfl⟩ ⟨Nat.le_of_ble_eq_true rfl, Nat.le_of_ble_eq_true rfl⟩ hK hW hS hKD hl.1 rfl (Nat.le_of_ble_eq_true rfl) dX5_covers_79 (fun H locs hW hS => ?_)
              refine lv_if_eq (tgt := 89) hx hb dX5_covers_82 (by decide) (fun c_21 => ?_) (fun c_21 => ?_)
              · refine lv_iconst (v := 0) hx hb dX5_covers_89 (by decide) ?_
                exact ow_zret hx hb hr hlk hK hW hS rfl (by rw [m_X5_covers, if_neg c_1, if_neg c_2, if_pos c_13, if_neg c_14, if_pos c_19, if_pos c_20, if_pos c_21]) dX5_covers_90
              · refine lv_iconst (v := 1) hx hb dX5_covers_85 (by decide) ?_
                refine lv_goto (tgt := 90) hx hb dX5_covers_86 (by decide) ?_
                exact ow_zret hx hb hr hlk hK hW hS rfl (by rw [m_X5_covers, if_neg c_1, if_neg c_2, if_pos c_13, if_neg c_14, if_pos c_19, if_pos c_20, if_neg c_21]) dX5_covers_90
            · refine lv_aload_n hx hb dX5_covers_59 rfl (lv_at hl 1 rfl) ?_
              refine lv_aload_n hx hb dX5_covers_60 rfl (lv_at hl 0 rfl) ?_
              refine ow_get (v2 := .int (q.1 15 j 3)) (ci := 4) (C := RX5) (T := TX5) (N := 6) hx hb hts hin_X5 hown hK hW 15 j (PO_k15 hj) rfl 3 (by decide) (List.mem_of_getElem? (i := 7) rfl) rfl rfl rfl dX5_covers_61 ?_
              refine ow_callVi (C := RX3) (T := TX3) (N := 8) (ci := 2) (k := 16) (j := r) (n := 1) (As := [.int (q.1 15 j 3)]) (rest := []) (r := (m_X3_hasKey q r (q.1 15 j 3))) (z2 := q) ⟨hx, hb, hml, hown, hts⟩ (c_X3_hasKey l D b0 cA ad mq q r (q.1 15 j 3) hpr) (PO_k16 hpr) rfl gX5_covers_X3_hasKey rfl (by decide +kernel) rfl ⟨Nat.le_of_ble_eq_true rfl, Nat.le_of_ble_eq_true rfl⟩ ⟨Nat.le_of_ble_eq_true rfl, Nat.le_of_ble_eq_true rfl⟩ hK hW hS hKD hl.1 rfl (Nat.le_of_ble_eq_true rfl) dX5_covers_64 (fun H locs hW hS => ?_)
              refine lv_if_eq (tgt := 89) hx hb dX5_covers_67 (by decide) (fun c_22 => ?_) (fun c_22 => ?_)
              · refine lv_iconst (v := 0) hx hb dX5_covers_89 (by decide) ?_
                exact ow_zret hx hb hr hlk hK hW hS rfl (by rw [m_X5_covers, if_neg c_1, if_neg c_2, if_pos c_13, if_neg c_14, if_pos c_19, if_neg c_20, if_pos c_22]) dX5_covers_90
              · refine lv_aload_n hx hb dX5_covers_70 rfl (lv_at hl 1 rfl) ?_
                refine lv_aload_n hx hb dX5_covers_71 rfl (lv_at hl 0 rfl) ?_
                refine ow_get (v2 := .int (q.1 15 j 4)) (ci := 4) (C := RX5) (T := TX5) (N := 6) hx hb hts hin_X5 hown hK hW 15 j (PO_k15 hj) rfl 4 (by decide) (List.mem_of_getElem? (i := 8) rfl) rfl rfl rfl dX5_covers_72 ?_
                refine lv_aload_n hx hb dX5_covers_75 rfl (lv_at hl 0 rfl) ?_
                refine ow_get (v2 := .int (q.1 15 j 5)) (ci := 4) (C := RX5) (T := TX5) (N := 6) hx hb hts hin_X5 hown hK hW 15 j (PO_k15 hj) rfl 5 (by decide) (List.mem_of_getElem? (i := 9) rfl) rfl rfl rfl dX5_covers_76 ?_
                refine ow_callVi (C := RX3) (T := TX3) (N := 8) (ci := 2) (k := 16) (j := r) (n := 2) (As := [.int (q.1 15 j 4), .int (q.1 15 j 5)]) (rest := []) (r := (m_X3_isFiledFrom q r (q.1 15 j 4) (q.1 15 j 5))) (z2 := q) ⟨hx, hb, hml, hown, hts⟩ (c_X3_isFiledFrom l D b0 cA ad mq q r (q.1 15 j 4) (q.1 15 j 5) hpr) (PO_k16 hpr) rfl gX5_covers_X3_isFiledFrom rfl (by decide +kernel) rfl ⟨Nat.le_of_ble_eq_true rfl, Nat.le_of_ble_eq_true rfl⟩ ⟨Nat.le_of_ble_eq_true rfl, Nat.le_of_ble_eq_true rfl⟩ hK hW hS hKD hl.1 rfl (Nat.le_of_ble_eq_true rfl) dX5_covers_79 (fun H locs hW hS => ?_)
                refine lv_if_eq (tgt := 89) hx hb dX5_covers_82 (by decide) (fun c_23 => ?_) (fun c_23 => ?_)
                · refine lv_iconst (v := 0) hx hb dX5_covers_89 (by decide) ?_
                  exact ow_zret hx hb hr hlk hK hW hS rfl (by rw [m_X5_covers, if_neg c_1, if_neg c_2, if_pos c_13, if_neg c_14, if_pos c_19, if_neg c_20, if_neg c_22, if_pos c_23]) dX5_covers_90
                · refine lv_iconst (v := 1) hx hb dX5_covers_85 (by decide) ?_
                  refine lv_goto (tgt := 90) hx hb dX5_covers_86 (by decide) ?_
                  exact ow_zret hx hb hr hlk hK hW hS rfl (by rw [m_X5_covers, if_neg c_1, if_neg c_2, if_pos c_13, if_neg c_14, if_pos c_19, if_neg c_20, if_neg c_22, if_neg c_23]) dX5_covers_90
