/-! laid by wip/whole/tools/model1.py -/
def m_X8_thrown (q : qM) : Int32 := (q.1 0 0)
set_option maxHeartbeats 4000000 in
set_option maxRecDepth 100000 in
theorem c_X8_thrown (l : Launch) (D : va_G) (b0 : Nat) (Pc : Nat → Nat → Option va_E) (cA : Nat → ClassId) (ad : Nat → Nat → Nat) (q : qM) : mc_i l yX8_thrown wsX8_thrown 0 0 D b0 Pc cA ad q [.ref (ad 20 0)] (m_X8_thrown q, q) := by
  refine mc_of (by decide) rfl (Nat.le_of_ble_eq_true rfl) ?_
  intro p e s m below meth c hx hb hml hr hlk hown hts hK hW ls hl
  have hown : s.vm.findClass RX8 = some m.cls := hown
  have hS : va_S (wA b0) s.heap s.heap [] := va_S.rf
  have hl : lv_has ls 1 [(0, .ref (ad 20 0))] := hl
  have hin : ∀ w ∈ wsX80, w ∈ wsX8_thrown := fun w h => List.mem_cons_of_mem _ (List.mem_append_right _ h)
  unfold m_X8_thrown
  refine lv_aload_n hx hb dX8_thrown_0 rfl (lv_at hl 0 rfl) ?_
  refine mm_get hx hb hts hin hown hK hW 0 (by decide) (List.mem_of_getElem? (i := 1) rfl) rfl rfl dX8_thrown_1 ?_
  exact mm_iret hx hb hr hlk hK hW hS rfl dX8_thrown_4

def m_X8_isIn (v : Int32) (lo : Int32) (hi : Int32) : Int32 := (if v < lo then 0 else (if hi < v then 0 else 1))
set_option maxHeartbeats 4000000 in
set_option maxRecDepth 100000 in
theorem c_X8_isIn (l : Launch) (D : va_G) (b0 : Nat) (Pc : Nat → Nat → Option va_E) (cA : Nat → ClassId) (ad : Nat → Nat → Nat) (q : qM) (v : Int32) (lo : Int32) (hi : Int32) : mc_i l yX8_isIn wsX8_isIn 0 0 D b0 Pc cA ad q [.int v, .int lo, .int hi] (m_X8_isIn v lo hi, q) := by
  refine mc_of (by decide) rfl (Nat.le_of_ble_eq_true rfl) ?_
  intro p e s m below meth c hx hb hml hr hlk hown hts hK hW ls hl
  have hown : s.vm.findClass RX8 = some m.cls := hown
  have hS : va_S (wA b0) s.heap s.heap [] := va_S.rf
  have hl : lv_has ls 3 [(0, .int v), (1, .int lo), (2, .int hi)] := hl
  unfold m_X8_isIn
  refine lv_iload_n hx hb dX8_isIn_0 rfl (lv_at hl 0 rfl) ?_
  refine lv_iload_n hx hb dX8_isIn_1 rfl (lv_at hl 1 rfl) ?_
  refine lv_icmp_lt (tgt := 14) hx hb dX8_isIn_2 (by decide) (fun c_1 => ?_) (fun c_1 => ?_)
  · rw [if_pos c_1]
    refine lv_iconst (v := 0) hx hb dX8_isIn_14 (by decide) ?_
    exact mm_zret hx hb hr hlk hK hW hS rfl rfl dX8_isIn_15
  · rw [if_neg c_1]
    refine lv_iload_n hx hb dX8_isIn_5 rfl (lv_at hl 0 rfl) ?_
    refine lv_iload_n hx hb dX8_isIn_6 rfl (lv_at hl 2 rfl) ?_
    refine lv_icmp_gt (tgt := 14) hx hb dX8_isIn_7 (by decide) (fun c_2 => ?_) (fun c_2 => ?_)
    · rw [if_pos c_2]
      refine lv_iconst (v := 0) hx hb dX8_isIn_14 (by decide) ?_
      exact mm_zret hx hb hr hlk hK hW hS rfl rfl dX8_isIn_15
    · rw [if_neg c_2]
      refine lv_iconst (v := 1) hx hb dX8_isIn_10 (by decide) ?_
      refine lv_goto (tgt := 15) hx hb dX8_isIn_11 (by decide) ?_
      exact mm_zret hx hb hr hlk hK hW hS rfl rfl dX8_isIn_15

def m_X8_linked (bf : Int64) (nb : Int64) : Int64 := (((bf ^^^ nb) * 7046029254386353131) ^^^ ((Int64.toUInt64 ((bf ^^^ nb) * 7046029254386353131) >>> ((Int32.toInt64 29).toUInt64 &&& Int64.toUInt64 63)).toInt64))
set_option maxHeartbeats 4000000 in
set_option maxRecDepth 100000 in
theorem c_X8_linked (l : Launch) (D : va_G) (b0 : Nat) (Pc : Nat → Nat → Option va_E) (cA : Nat → ClassId) (ad : Nat → Nat → Nat) (q : qM) (bf : Int64) (nb : Int64) : mc_l l yX8_linked wsX8_linked 0 0 D b0 Pc cA ad q [.long bf, .long nb] (m_X8_linked bf nb, q) := by
  refine mc_of (by decide) rfl (Nat.le_of_ble_eq_true rfl) ?_
  intro p e s m below meth c hx hb hml hr hlk hown hts hK hW ls hl
  have hown : s.vm.findClass RX8 = some m.cls := hown
  have hS : va_S (wA b0) s.heap s.heap [] := va_S.rf
  have hl : lv_has ls 6 [(0, .long bf), (2, .long nb)] := hl
  unfold m_X8_linked
  refine lv_lload_n hx hb dX8_linked_0 rfl (lv_at hl 0 rfl) ?_
  refine lv_lload_n hx hb dX8_linked_1 rfl (lv_at hl 1 rfl) ?_
  refine lv_lxor hx hb dX8_linked_2 ?_
  refine lv_ldc2 (v := 7046029254386353131) hx hb hown (hts _ (List.mem_of_getElem? (i := 1) rfl)) dX8_linked_3 ?_
  refine lv_lmul hx hb dX8_linked_6 ?_
  refine lv_lstore (lv' := [(4, .long ((bf ^^^ nb) * 7046029254386353131)), (0, .long bf), (2, .long nb)]) hx hb dX8_linked_7 hl (by decide) rfl (fun ls hl => ?_)
  refine lv_lload hx hb dX8_linked_9 (lv_at hl 0 rfl) ?_
  refine lv_lload hx hb dX8_linked_11 (lv_at hl 0 rfl) ?_
  refine lv_bipush (v := 29) hx hb dX8_linked_13 (by decide) ?_
  refine lv_lushr (v := (Int64.toUInt64 ((bf ^^^ nb) * 7046029254386353131) >>> ((Int32.toInt64 29).toUInt64 &&& Int64.toUInt64 63)).toInt64) hx hb dX8_linked_15 rfl ?_
  refine lv_lxor hx hb dX8_linked_16 ?_
  exact mm_lret hx hb hr hlk hK hW hS rfl dX8_linked_17

def m_X8_hasRoom (q : qM) (n : Int32) : Int32 := (if 400 < ((q.1 31 0) + n) then 0 else 1)
set_option maxHeartbeats 4000000 in
set_option maxRecDepth 100000 in
theorem c_X8_hasRoom (l : Launch) (D : va_G) (b0 : Nat) (Pc : Nat → Nat → Option va_E) (cA : Nat → ClassId) (ad : Nat → Nat → Nat) (q : qM) (n : Int32) : mc_i l yX8_hasRoom wsX8_hasRoom 0 0 D b0 Pc cA ad q [.ref (ad 20 0), .int n] (m_X8_hasRoom q n, q) := by
  refine mc_of (by decide) rfl (Nat.le_of_ble_eq_true rfl) ?_
  intro p e s m below meth c hx hb hml hr hlk hown hts hK hW ls hl
  have hown : s.vm.findClass RX8 = some m.cls := hown
  have hS : va_S (wA b0) s.heap s.heap [] := va_S.rf
  have hl : lv_has ls 2 [(0, .ref (ad 20 0)), (1, .int n)] := hl
  have hin : ∀ w ∈ wsX80, w ∈ wsX8_hasRoom := fun w h => List.mem_cons_of_mem _ (List.mem_append_right _ h)
  unfold m_X8_hasRoom
  refine lv_aload_n hx hb dX8_hasRoom_0 rfl (lv_at hl 0 rfl) ?_
  refine mm_get hx hb hts hin hown hK hW 31 (by decide) (List.mem_of_getElem? (i := 1) rfl) rfl rfl dX8_hasRoom_1 ?_
  refine lv_iload_n hx hb dX8_hasRoom_4 rfl (lv_at hl 1 rfl) ?_
  refine lv_iadd hx hb dX8_hasRoom_5 ?_
  refine lv_sipush (v := 400) hx hb dX8_hasRoom_6 (by decide) ?_
  refine lv_icmp_gt (tgt := 16) hx hb dX8_hasRoom_9 (by decide) (fun c_1 => ?_) (fun c_1 => ?_)
  · rw [if_pos c_1]
    refine lv_iconst (v := 0) hx hb dX8_hasRoom_16 (by decide) ?_
    exact mm_zret hx hb hr hlk hK hW hS rfl rfl dX8_hasRoom_17
  · rw [if_neg c_1]
    refine lv_iconst (v := 1) hx hb dX8_hasRoom_12 (by decide) ?_
    refine lv_goto (tgt := 17) hx hb dX8_hasRoom_13 (by decide) ?_
    exact mm_zret hx hb hr hlk hK hW hS rfl rfl dX8_hasRoom_17
