/-! laid by wip/whole/tools/model1.py -/
def m_X8_thrown (q : qM) : Int32 := (q.1 0 0)
set_option maxHeartbeats 4000000 in
set_option maxRecDepth 100000 in
theorem c_X8_thrown (l : Launch) (D : va_G) (b0 : Nat) (Pc : Nat → Nat → Option va_E) (cA : Nat → ClassId) (ad : Nat → Nat → Nat) (q : qM) : mc_i l yX8_thrown wsX8_thrown 0 0 D b0 Pc cA ad q [.ref (ad 20 0)] (m_X8_thrown q, q) := by
  refine mc_of (by decide) rfl (Nat.le_of_ble_eq_true rfl) ?_
  intro p e s m below meth c hx hb hml hr hlk hown hts hK hW ls hl
  have hown : s.vm.findClass RX8 = some m.cls := hown
  have hS : va_S (wA b0) s.heap s.heap [] := va_S.rf
  have hl : lv_has ls 1 [(0, .ref (ad 20 0))] := hl
  have hin : ∀ w ∈ wsX80, w ∈ wsX8_thrown := fun w h => List.mem_cons_of_mem _ (List.mem_append_right _ h)
  refine lv_aload_n hx hb dX8_thrown_0 rfl (lv_at hl 0 rfl) ?_
  refine mm_gets (v := (q.1 0 0)) hx hb hts hin hown hK hW 0 (by decide) (List.mem_of_getElem? (i := 1) rfl) rfl rfl (rfl) dX8_thrown_1 ?_
  exact mm_iret hx hb hr hlk hK hW hS (by rw [m_X8_thrown]) dX8_thrown_4

def m_X8_isIn (v : Int32) (lo : Int32) (hi : Int32) : Int32 := (if v < lo then 0 else (if hi < v then 0 else 1))
set_option maxHeartbeats 4000000 in
set_option maxRecDepth 100000 in
theorem c_X8_isIn (l : Launch) (D : va_G) (b0 : Nat) (Pc : Nat → Nat → Option va_E) (cA : Nat → ClassId) (ad : Nat → Nat → Nat) (q : qM) (v : Int32) (lo : Int32) (hi : Int32) : mc_i l yX8_isIn wsX8_isIn 0 0 D b0 Pc cA ad q [.int v, .int lo, .int hi] (m_X8_isIn v lo hi, q) := by
  refine mc_of (by decide) rfl (Nat.le_of_ble_eq_true rfl) ?_
  intro p e s m below meth c hx hb hml hr hlk hown hts hK hW ls hl
  have hown : s.vm.findClass RX8 = some m.cls := hown
  have hS : va_S (wA b0) s.heap s.heap [] := va_S.rf
  have hl : lv_has ls 3 [(0, .int v), (1, .int lo), (2, .int hi)] := hl
  refine lv_iload_n hx hb dX8_isIn_0 rfl (lv_at hl 0 rfl) ?_
  refine lv_iload_n hx hb dX8_isIn_1 rfl (lv_at hl 1 rfl) ?_
  refine lv_icmp_lt (tgt := 14) hx hb dX8_isIn_2 (by decide) (fun c_1 => ?_) (fun c_1 => ?_)
  · refine lv_iconst (v := 0) hx hb dX8_isIn_14 (by decide) ?_
    exact mm_zret hx hb hr hlk hK hW hS rfl (by rw [m_X8_isIn, if_pos c_1]) dX8_isIn_15
  · refine lv_iload_n hx hb dX8_isIn_5 rfl (lv_at hl 0 rfl) ?_
    refine lv_iload_n hx hb dX8_isIn_6 rfl (lv_at hl 2 rfl) ?_
    refine lv_icmp_gt (tgt := 14) hx hb dX8_isIn_7 (by decide) (fun c_2 => ?_) (fun c_2 => ?_)
    · refine lv_iconst (v := 0) hx hb dX8_isIn_14 (by decide) ?_
      exact mm_zret hx hb hr hlk hK hW hS rfl (by rw [m_X8_isIn, if_neg c_1, if_pos c_2]) dX8_isIn_15
    · refine lv_iconst (v := 1) hx hb dX8_isIn_10 (by decide) ?_
      refine lv_goto (tgt := 15) hx hb dX8_isIn_11 (by decide) ?_
      exact mm_zret hx hb hr hlk hK hW hS rfl (by rw [m_X8_isIn, if_neg c_1, if_neg c_2]) dX8_isIn_15

theorem is_t {v lo hi : Int32} (h : ¬ m_X8_isIn v lo hi = 0) : lo.toInt ≤ v.toInt ∧ v.toInt ≤ hi.toInt := by
  unfold m_X8_isIn at h
  by_cases h1 : v < lo
  · rw [if_pos h1] at h; exact absurd rfl h
  · rw [if_neg h1] at h
    by_cases h2 : hi < v
    · rw [if_pos h2] at h; exact absurd rfl h
    · exact ⟨cv_nlt h1, cv_nlt h2⟩
theorem is_1 {v lo hi : Int32} (h1 : lo.toInt ≤ v.toInt) (h2 : v.toInt ≤ hi.toInt) : m_X8_isIn v lo hi = 1 := by
  unfold m_X8_isIn
  rw [if_neg (fun q => by have := cv_lt q; omega), if_neg (fun q => by have := cv_lt q; omega)]
theorem is_0 {v lo hi : Int32} (h : v.toInt < lo.toInt ∨ hi.toInt < v.toInt) : m_X8_isIn v lo hi = 0 := by
  unfold m_X8_isIn
  by_cases h1 : v < lo
  · rw [if_pos h1]
  · rw [if_neg h1]
    by_cases h2 : hi < v
    · rw [if_pos h2]
    · have := cv_nlt h1; have := cv_nlt h2; omega

def m_X8_linked (bf : Int64) (nb : Int64) : Int64 := (((bf ^^^ nb) * 7046029254386353131) ^^^ ((Int64.toUInt64 ((bf ^^^ nb) * 7046029254386353131) >>> ((Int32.toInt64 29).toUInt64 &&& Int64.toUInt64 63)).toInt64))
set_option maxHeartbeats 4000000 in
set_option maxRecDepth 100000 in
theorem c_X8_linked (l : Launch) (D : va_G) (b0 : Nat) (Pc : Nat → Nat → Option va_E) (cA : Nat → ClassId) (ad : Nat → Nat → Nat) (q : qM) (bf : Int64) (nb : Int64) : mc_l l yX8_linked wsX8_linked 0 0 D b0 Pc cA ad q [.long bf, .long nb] (m_X8_linked bf nb, q) := by
  refine mc_of (by decide) rfl (Nat.le_of_ble_eq_true rfl) ?_
  intro p e s m below meth c hx hb hml hr hlk hown hts hK hW ls hl
  have hown : s.vm.findClass RX8 = some m.cls := hown
  have hS : va_S (wA b0) s.heap s.heap [] := va_S.rf
  have hl : lv_has ls 6 [(0, .long bf), (2, .long nb)] := hl
  refine lv_lload_n hx hb dX8_linked_0 rfl (lv_at hl 0 rfl) ?_
  refine lv_lload_n hx hb dX8_linked_1 rfl (lv_at hl 1 rfl) ?_
  refine lv_lxor hx hb dX8_linked_2 ?_
  refine lv_ldc2 (v := 7046029254386353131) hx hb hown (hts _ (List.mem_of_getElem? (i := 1) rfl)) dX8_linked_3 ?_
  refine lv_lmul hx hb dX8_linked_6 ?_
  refine lv_lstore (lv' := [(4, .long ((bf ^^^ nb) * 7046029254386353131)), (0, .long bf), (2, .long nb)]) hx hb dX8_linked_7 hl (by decide) rfl (fun ls hl => ?_)
  refine lv_lload hx hb dX8_linked_9 (lv_at hl 0 rfl) ?_
  refine lv_lload hx hb dX8_linked_11 (lv_at hl 0 rfl) ?_
  refine lv_bipush (v := 29) hx hb dX8_linked_13 (by decide) ?_
  refine lv_lushr (v := (Int64.toUInt64 ((bf ^^^ nb) * 7046029254386353131) >>> ((Int32.toInt64 29).toUInt64 &&& Int64.toUInt64 63)).toInt64) hx hb dX8_linked_15 rfl ?_
  refine lv_lxor hx hb dX8_linked_16 ?_
  exact mm_lret hx hb hr hlk hK hW hS (by rw [m_X8_linked]) dX8_linked_17

def m_X8_hasRoom (q : qM) (n : Int32) : Int32 := (if 400 < ((q.1 31 0) + n) then 0 else 1)
set_option maxHeartbeats 4000000 in
set_option maxRecDepth 100000 in
theorem c_X8_hasRoom (l : Launch) (D : va_G) (b0 : Nat) (Pc : Nat → Nat → Option va_E) (cA : Nat → ClassId) (ad : Nat → Nat → Nat) (q : qM) (n : Int32) : mc_i l yX8_hasRoom wsX8_hasRoom 0 0 D b0 Pc cA ad q [.ref (ad 20 0), .int n] (m_X8_hasRoom q n, q) := by
  refine mc_of (by decide) rfl (Nat.le_of_ble_eq_true rfl) ?_
  intro p e s m below meth c hx hb hml hr hlk hown hts hK hW ls hl
  have hown : s.vm.findClass RX8 = some m.cls := hown
  have hS : va_S (wA b0) s.heap s.heap [] := va_S.rf
  have hl : lv_has ls 2 [(0, .ref (ad 20 0)), (1, .int n)] := hl
  have hin : ∀ w ∈ wsX80, w ∈ wsX8_hasRoom := fun w h => List.mem_cons_of_mem _ (List.mem_append_right _ h)
  refine lv_aload_n hx hb dX8_hasRoom_0 rfl (lv_at hl 0 rfl) ?_
  refine mm_gets (v := (q.1 31 0)) hx hb hts hin hown hK hW 31 (by decide) (List.mem_of_getElem? (i := 1) rfl) rfl rfl (rfl) dX8_hasRoom_1 ?_
  refine lv_iload_n hx hb dX8_hasRoom_4 rfl (lv_at hl 1 rfl) ?_
  refine lv_iadd hx hb dX8_hasRoom_5 ?_
  refine lv_sipush (v := 400) hx hb dX8_hasRoom_6 (by decide) ?_
  refine lv_icmp_gt (tgt := 16) hx hb dX8_hasRoom_9 (by decide) (fun c_1 => ?_) (fun c_1 => ?_)
  · refine lv_iconst (v := 0) hx hb dX8_hasRoom_16 (by decide) ?_
    exact mm_zret hx hb hr hlk hK hW hS rfl (by rw [m_X8_hasRoom, if_pos c_1]) dX8_hasRoom_17
  · refine lv_iconst (v := 1) hx hb dX8_hasRoom_12 (by decide) ?_
    refine lv_goto (tgt := 17) hx hb dX8_hasRoom_13 (by decide) ?_
    exact mm_zret hx hb hr hlk hK hW hS rfl (by rw [m_X8_hasRoom, if_neg c_1]) dX8_hasRoom_17

def m_X8_inMonth (yr : Int32) (mo : Int32) : Int32 := (if mo = 2 then (if ((if (yr - yr / 4 * 4) = 0 then (if (yr - yr / 100 * 100) = 0 then (if (yr - yr / 400 * 400) = 0 then 1 else 0) else 1) else 0) : Int32) = 0 then 28 else 29) else (if mo = 4 then 30 else (if mo = 6 then 30 else (if mo = 9 then 30 else (if mo = 11 then 30 else 31)))))
set_option maxHeartbeats 4000000 in
set_option maxRecDepth 100000 in
theorem c_X8_inMonth (l : Launch) (D : va_G) (b0 : Nat) (Pc : Nat → Nat → Option va_E) (cA : Nat → ClassId) (ad : Nat → Nat → Nat) (q : qM) (yr : Int32) (mo : Int32) : mc_i l yX8_inMonth wsX8_inMonth 0 0 D b0 Pc cA ad q [.int yr, .int mo] (m_X8_inMonth yr mo, q) := by
  refine mc_of (by decide) rfl (Nat.le_of_ble_eq_true rfl) ?_
  intro p e s m below meth c hx hb hml hr hlk hown hts hK hW ls hl
  have hown : s.vm.findClass RX8 = some m.cls := hown
  have hS : va_S (wA b0) s.heap s.heap [] := va_S.rf
  have hl : lv_has ls 3 [(0, .int yr), (1, .int mo)] := hl
  refine jn_w (J := 26) (rest := []) (Wd := fun H locs => wd D (wA b0) (PW Pc cA ad q) ad H ∧ va_S (wA b0) s.heap H locs) ((if (yr - yr / 4 * 4) = 0 then (if (yr - yr / 100 * 100) = 0 then (if (yr - yr / 400 * 400) = 0 then 1 else 0) else 1) else 0) : Int32) ⟨hW, hS⟩ (fun H locs hWS => ?_) (fun hj => ?_)
  · obtain ⟨hW, hS⟩ := hWS
    obtain ⟨j_8, ej_8⟩ : ∃ z : Int32, z = ((if (yr - yr / 4 * 4) = 0 then (if (yr - yr / 100 * 100) = 0 then (if (yr - yr / 400 * 400) = 0 then 1 else 0) else 1) else 0) : Int32) := ⟨_, rfl⟩
    rw [← ej_8]
    refine lv_istore_n (lv' := [(2, .int j_8), (0, .int yr), (1, .int mo)]) hx hb dX8_inMonth_26 rfl hl (by decide) rfl (fun ls hl => ?_)
    refine lv_iload_n hx hb dX8_inMonth_27 rfl (lv_at hl 2 rfl) ?_
    refine lv_iconst (v := 2) hx hb dX8_inMonth_28 (by decide) ?_
    refine lv_icmp_ne (tgt := 46) hx hb dX8_inMonth_29 (by decide) (fun c_9 => ?_) (fun c_9 => ?_)
    · refine lv_iload_n hx hb dX8_inMonth_46 rfl (lv_at hl 2 rfl) ?_
      refine lv_iconst (v := 4) hx hb dX8_inMonth_47 (by decide) ?_
      refine lv_icmp_eq (tgt := 69) hx hb dX8_inMonth_48 (by decide) (fun c_10 => ?_) (fun c_10 => ?_)
      · refine lv_bipush (v := 30) hx hb dX8_inMonth_69 (by decide) ?_
        refine lv_goto (tgt := 76) hx hb dX8_inMonth_71 (by decide) ?_
        exact mm_iret hx hb hr hlk hK hW hS (by rw [m_X8_inMonth, ← ej_8, if_neg c_9, if_pos c_10]) dX8_inMonth_76
      · refine lv_iload_n hx hb dX8_inMonth_51 rfl (lv_at hl 2 rfl) ?_
        refine lv_bipush (v := 6) hx hb dX8_inMonth_52 (by decide) ?_
        refine lv_icmp_eq (tgt := 69) hx hb dX8_inMonth_54 (by decide) (fun c_11 => ?_) (fun c_11 => ?_)
        · refine lv_bipush (v := 30) hx hb dX8_inMonth_69 (by decide) ?_
          refine lv_goto (tgt := 76) hx hb dX8_inMonth_71 (by decide) ?_
          exact mm_iret hx hb hr hlk hK hW hS (by rw [m_X8_inMonth, ← ej_8, if_neg c_9, if_neg c_10, if_pos c_11]) dX8_inMonth_76
        · refine lv_iload_n hx hb dX8_inMonth_57 rfl (lv_at hl 2 rfl) ?_
          refine lv_bipush (v := 9) hx hb dX8_inMonth_58 (by decide) ?_
          refine lv_icmp_eq (tgt := 69) hx hb dX8_inMonth_60 (by decide) (fun c_12 => ?_) (fun c_12 => ?_)
          · refine lv_bipush (v := 30) hx hb dX8_inMonth_69 (by decide) ?_
            refine lv_goto (tgt := 76) hx hb dX8_inMonth_71 (by decide) ?_
            exact mm_iret hx hb hr hlk hK hW hS (by rw [m_X8_inMonth, ← ej_8, if_neg c_9, if_neg c_10, if_neg c_11, if_pos c_12]) dX8_inMonth_76
          · refine lv_iload_n hx hb dX8_inMonth_63 rfl (lv_at hl 2 rfl) ?_
            refine lv_bipush (v := 11) hx hb dX8_inMonth_64 (by decide) ?_
            refine lv_icmp_ne (tgt := 74) hx hb dX8_inMonth_66 (by decide) (fun c_13 => ?_) (fun c_13 => ?_)
            · refine lv_bipush (v := 31) hx hb dX8_inMonth_74 (by decide) ?_
              exact mm_iret hx hb hr hlk hK hW hS (by rw [m_X8_inMonth, ← ej_8, if_neg c_9, if_neg c_10, if_neg c_11, if_neg c_12, if_neg c_13]) dX8_inMonth_76
            · refine lv_bipush (v := 30) hx hb dX8_inMonth_69 (by decide) ?_
              refine lv_goto (tgt := 76) hx hb dX8_inMonth_71 (by decide) ?_
              exact mm_iret hx hb hr hlk hK hW hS (by rw [m_X8_inMonth, ← ej_8, if_neg c_9, if_neg c_10, if_neg c_11, if_neg c_12, if_pos c_13]) dX8_inMonth_76
    · refine lv_iload_n hx hb dX8_inMonth_32 rfl (lv_at hl 0 rfl) ?_
      refine lv_if_eq (tgt := 41) hx hb dX8_inMonth_33 (by decide) (fun c_14 => ?_) (fun c_14 => ?_)
      · refine lv_bipush (v := 28) hx hb dX8_inMonth_41 (by decide) ?_
        refine lv_goto (tgt := 76) hx hb dX8_inMonth_43 (by decide) ?_
        exact mm_iret hx hb hr hlk hK hW hS (by rw [m_X8_inMonth, ← ej_8, if_pos c_9, if_pos c_14]) dX8_inMonth_76
      · refine lv_bipush (v := 29) hx hb dX8_inMonth_36 (by decide) ?_
        refine lv_goto (tgt := 76) hx hb dX8_inMonth_38 (by decide) ?_
        exact mm_iret hx hb hr hlk hK hW hS (by rw [m_X8_inMonth, ← ej_8, if_pos c_9, if_neg c_14]) dX8_inMonth_76
  · refine lv_iload_n hx hb dX8_inMonth_0 rfl (lv_at hl 0 rfl) ?_
    refine lv_iconst (v := 4) hx hb dX8_inMonth_1 (by decide) ?_
    refine lv_irem hx hb dX8_inMonth_2 (by decide) ?_
    refine lv_if_ne (tgt := 25) hx hb dX8_inMonth_3 (by decide) (fun c_1 => ?_) (fun c_1 => ?_)
    · refine lv_iconst (v := 0) hx hb dX8_inMonth_25 (by decide) ?_
      have e_2 : ((if (yr - yr / 4 * 4) = 0 then (if (yr - yr / 100 * 100) = 0 then (if (yr - yr / 400 * 400) = 0 then 1 else 0) else 1) else 0) : Int32) = 0 := by rw [if_neg c_1]
      exact hj _ _ _ e_2 ⟨hW, hS⟩
    · refine lv_iload_n hx hb dX8_inMonth_6 rfl (lv_at hl 0 rfl) ?_
      refine lv_bipush (v := 100) hx hb dX8_inMonth_7 (by decide) ?_
      refine lv_irem hx hb dX8_inMonth_9 (by decide) ?_
      refine lv_if_ne (tgt := 21) hx hb dX8_inMonth_10 (by decide) (fun c_3 => ?_) (fun c_3 => ?_)
      · refine lv_iconst (v := 1) hx hb dX8_inMonth_21 (by decide) ?_
        refine lv_goto (tgt := 26) hx hb dX8_inMonth_22 (by decide) ?_
        have e_4 : ((if (yr - yr / 4 * 4) = 0 then (if (yr - yr / 100 * 100) = 0 then (if (yr - yr / 400 * 400) = 0 then 1 else 0) else 1) else 0) : Int32) = 1 := by rw [if_pos c_1, if_neg c_3]
        exact hj _ _ _ e_4 ⟨hW, hS⟩
      · refine lv_iload_n hx hb dX8_inMonth_13 rfl (lv_at hl 0 rfl) ?_
        refine lv_sipush (v := 400) hx hb dX8_inMonth_14 (by decide) ?_
        refine lv_irem hx hb dX8_inMonth_17 (by decide) ?_
        refine lv_if_ne (tgt := 25) hx hb dX8_inMonth_18 (by decide) (fun c_5 => ?_) (fun c_5 => ?_)
        · refine lv_iconst (v := 0) hx hb dX8_inMonth_25 (by decide) ?_
          have e_6 : ((if (yr - yr / 4 * 4) = 0 then (if (yr - yr / 100 * 100) = 0 then (if (yr - yr / 400 * 400) = 0 then 1 else 0) else 1) else 0) : Int32) = 0 := by rw [if_pos c_1, if_pos c_3, if_neg c_5]
          exact hj _ _ _ e_6 ⟨hW, hS⟩
        · refine lv_iconst (v := 1) hx hb dX8_inMonth_21 (by decide) ?_
          refine lv_goto (tgt := 26) hx hb dX8_inMonth_22 (by decide) ?_
          have e_7 : ((if (yr - yr / 4 * 4) = 0 then (if (yr - yr / 100 * 100) = 0 then (if (yr - yr / 400 * 400) = 0 then 1 else 0) else 1) else 0) : Int32) = 1 := by rw [if_pos c_1, if_pos c_3, if_pos c_5]
          exact hj _ _ _ e_7 ⟨hW, hS⟩

theorem im_rg (yr mo : Int32) : 28 ≤ (m_X8_inMonth yr mo).toInt ∧ (m_X8_inMonth yr mo).toInt ≤ 31 := by
  unfold m_X8_inMonth
  repeat' split
  all_goals decide

def m_X8_isTerm (yr : Int32) (mo : Int32) : Int32 := (if (m_X8_isIn yr 0 100) = 0 then 0 else (if (m_X8_isIn mo 0 11) = 0 then 0 else 1))
set_option maxHeartbeats 4000000 in
set_option maxRecDepth 100000 in
theorem c_X8_isTerm (l : Launch) (D : va_G) (b0 : Nat) (Pc : Nat → Nat → Option va_E) (cA : Nat → ClassId) (ad : Nat → Nat → Nat) (q : qM) (yr : Int32) (mo : Int32) : mc_i l yX8_isTerm wsX8_isTerm 1 22 D b0 Pc cA ad q [.int yr, .int mo] (m_X8_isTerm yr mo, q) := by
  refine mc_of (by decide) rfl (Nat.le_of_ble_eq_true rfl) ?_
  intro p e s m below meth c hx hb hml hr hlk hown hts hK hW ls hl
  have hown : s.vm.findClass RX8 = some m.cls := hown
  have hS : va_S (wA b0) s.heap s.heap [] := va_S.rf
  have hl : lv_has ls 2 [(0, .int yr), (1, .int mo)] := hl
  refine lv_iload_n hx hb dX8_isTerm_0 rfl (lv_at hl 0 rfl) ?_
  refine lv_iconst (v := 0) hx hb dX8_isTerm_1 (by decide) ?_
  refine lv_bipush (v := 100) hx hb dX8_isTerm_2 (by decide) ?_
  refine mm_callSi (n := 3) (As := [.int yr, .int 0, .int 100]) (rest := []) (r := (m_X8_isIn yr 0 100)) (q2 := q) ⟨hx, hb, hml, hown, hts⟩ (c_X8_isIn l D b0 Pc cA ad q yr 0 100) gX8_isTerm_X8_isIn rfl (by decide +kernel) rfl ⟨Nat.le_of_ble_eq_true rfl, Nat.le_of_ble_eq_true rfl⟩ ⟨Nat.le_of_ble_eq_true rfl, Nat.le_of_ble_eq_true rfl⟩ hK hW hS hl.1 rfl (Nat.le_of_ble_eq_true rfl) dX8_isTerm_4 (fun H locs hW hS => ?_)
  refine lv_if_eq (tgt := 24) hx hb dX8_isTerm_7 (by decide) (fun c_1 => ?_) (fun c_1 => ?_)
  · refine lv_iconst (v := 0) hx hb dX8_isTerm_24 (by decide) ?_
    exact mm_zret hx hb hr hlk hK hW hS rfl (by rw [m_X8_isTerm, if_pos c_1]) dX8_isTerm_25
  · refine lv_iload_n hx hb dX8_isTerm_10 rfl (lv_at hl 1 rfl) ?_
    refine lv_iconst (v := 0) hx hb dX8_isTerm_11 (by decide) ?_
    refine lv_bipush (v := 11) hx hb dX8_isTerm_12 (by decide) ?_
    refine mm_callSi (n := 3) (As := [.int mo, .int 0, .int 11]) (rest := []) (r := (m_X8_isIn mo 0 11)) (q2 := q) ⟨hx, hb, hml, hown, hts⟩ (c_X8_isIn l D b0 Pc cA ad q mo 0 11) gX8_isTerm_X8_isIn rfl (by decide +kernel) rfl ⟨Nat.le_of_ble_eq_true rfl, Nat.le_of_ble_eq_true rfl⟩ ⟨Nat.le_of_ble_eq_true rfl, Nat.le_of_ble_eq_true rfl⟩ hK hW hS hl.1 rfl (Nat.le_of_ble_eq_true rfl) dX8_isTerm_14 (fun H locs hW hS => ?_)
    refine lv_if_eq (tgt := 24) hx hb dX8_isTerm_17 (by decide) (fun c_2 => ?_) (fun c_2 => ?_)
    · refine lv_iconst (v := 0) hx hb dX8_isTerm_24 (by decide) ?_
      exact mm_zret hx hb hr hlk hK hW hS rfl (by rw [m_X8_isTerm, if_neg c_1, if_pos c_2]) dX8_isTerm_25
    · refine lv_iconst (v := 1) hx hb dX8_isTerm_20 (by decide) ?_
      refine lv_goto (tgt := 25) hx hb dX8_isTerm_21 (by decide) ?_
      exact mm_zret hx hb hr hlk hK hW hS rfl (by rw [m_X8_isTerm, if_neg c_1, if_neg c_2]) dX8_isTerm_25

def m_X8_isDay (q : qM) (day : Int32) : Int32 := (if (m_X8_isIn day 0 120000) = 0 then 0 else (if day < (q.1 3 0) then 0 else 1))
set_option maxHeartbeats 4000000 in
set_option maxRecDepth 100000 in
theorem c_X8_isDay (l : Launch) (D : va_G) (b0 : Nat) (Pc : Nat → Nat → Option va_E) (cA : Nat → ClassId) (ad : Nat → Nat → Nat) (q : qM) (day : Int32) : mc_i l yX8_isDay wsX8_isDay 1 22 D b0 Pc cA ad q [.ref (ad 20 0), .int day] (m_X8_isDay q day, q) := by
  refine mc_of (by decide) rfl (Nat.le_of_ble_eq_true rfl) ?_
  intro p e s m below meth c hx hb hml hr hlk hown hts hK hW ls hl
  have hown : s.vm.findClass RX8 = some m.cls := hown
  have hS : va_S (wA b0) s.heap s.heap [] := va_S.rf
  have hl : lv_has ls 2 [(0, .ref (ad 20 0)), (1, .int day)] := hl
  have hin : ∀ w ∈ wsX80, w ∈ wsX8_isDay := fun w h => List.mem_cons_of_mem _ (List.mem_append_right _ h)
  refine lv_iload_n hx hb dX8_isDay_0 rfl (lv_at hl 1 rfl) ?_
  refine lv_iconst (v := 0) hx hb dX8_isDay_1 (by decide) ?_
  refine lv_ldc (v := 120000) hx hb hown (hts _ (List.mem_of_getElem? (i := 1) rfl)) dX8_isDay_2 ?_
  refine mm_callSi (n := 3) (As := [.int day, .int 0, .int 120000]) (rest := []) (r := (m_X8_isIn day 0 120000)) (q2 := q) ⟨hx, hb, hml, hown, hts⟩ (c_X8_isIn l D b0 Pc cA ad q day 0 120000) gX8_isDay_X8_isIn rfl (by decide +kernel) rfl ⟨Nat.le_of_ble_eq_true rfl, Nat.le_of_ble_eq_true rfl⟩ ⟨Nat.le_of_ble_eq_true rfl, Nat.le_of_ble_eq_true rfl⟩ hK hW hS hl.1 rfl (Nat.le_of_ble_eq_true rfl) dX8_isDay_4 (fun H locs hW hS => ?_)
  refine lv_if_eq (tgt := 22) hx hb dX8_isDay_7 (by decide) (fun c_1 => ?_) (fun c_1 => ?_)
  · refine lv_iconst (v := 0) hx hb dX8_isDay_22 (by decide) ?_
    exact mm_zret hx hb hr hlk hK hW hS rfl (by rw [m_X8_isDay, if_pos c_1]) dX8_isDay_23
  · refine lv_iload_n hx hb dX8_isDay_10 rfl (lv_at hl 1 rfl) ?_
    refine lv_aload_n hx hb dX8_isDay_11 rfl (lv_at hl 0 rfl) ?_
    refine mm_gets (v := (q.1 3 0)) hx hb hts hin hown hK hW 3 (by decide) (List.mem_of_getElem? (i := 2) rfl) rfl rfl (rfl) dX8_isDay_12 ?_
    refine lv_icmp_lt (tgt := 22) hx hb dX8_isDay_15 (by decide) (fun c_2 => ?_) (fun c_2 => ?_)
    · refine lv_iconst (v := 0) hx hb dX8_isDay_22 (by decide) ?_
      exact mm_zret hx hb hr hlk hK hW hS rfl (by rw [m_X8_isDay, if_neg c_1, if_pos c_2]) dX8_isDay_23
    · refine lv_iconst (v := 1) hx hb dX8_isDay_18 (by decide) ?_
      refine lv_goto (tgt := 23) hx hb dX8_isDay_19 (by decide) ?_
      exact mm_zret hx hb hr hlk hK hW hS rfl (by rw [m_X8_isDay, if_neg c_1, if_neg c_2]) dX8_isDay_23

def m_X8_noFolder (q : qM) (f : Int32) : Int32 := (if (m_X8_isIn f 0 15) = 0 then 1 else (if (q.1 9 (Int32.toNatClampNeg f)) = (-1) then 1 else 0))
set_option maxHeartbeats 4000000 in
set_option maxRecDepth 100000 in
theorem c_X8_noFolder (l : Launch) (D : va_G) (b0 : Nat) (Pc : Nat → Nat → Option va_E) (cA : Nat → ClassId) (ad : Nat → Nat → Nat) (q : qM) (f : Int32) : mc_i l yX8_noFolder wsX8_noFolder 1 22 D b0 Pc cA ad q [.ref (ad 20 0), .int f] (m_X8_noFolder q f, q) := by
  refine mc_of (by decide) rfl (Nat.le_of_ble_eq_true rfl) ?_
  intro p e s m below meth c hx hb hml hr hlk hown hts hK hW ls hl
  have hown : s.vm.findClass RX8 = some m.cls := hown
  have hS : va_S (wA b0) s.heap s.heap [] := va_S.rf
  have hl : lv_has ls 2 [(0, .ref (ad 20 0)), (1, .int f)] := hl
  have hin : ∀ w ∈ wsX80, w ∈ wsX8_noFolder := fun w h => List.mem_cons_of_mem _ (List.mem_append_right _ h)
  refine lv_iload_n hx hb dX8_noFolder_0 rfl (lv_at hl 1 rfl) ?_
  refine lv_iconst (v := 0) hx hb dX8_noFolder_1 (by decide) ?_
  refine lv_bipush (v := 15) hx hb dX8_noFolder_2 (by decide) ?_
  refine mm_callSi (n := 3) (As := [.int f, .int 0, .int 15]) (rest := []) (r := (m_X8_isIn f 0 15)) (q2 := q) ⟨hx, hb, hml, hown, hts⟩ (c_X8_isIn l D b0 Pc cA ad q f 0 15) gX8_noFolder_X8_isIn rfl (by decide +kernel) rfl ⟨Nat.le_of_ble_eq_true rfl, Nat.le_of_ble_eq_true rfl⟩ ⟨Nat.le_of_ble_eq_true rfl, Nat.le_of_ble_eq_true rfl⟩ hK hW hS hl.1 rfl (Nat.le_of_ble_eq_true rfl) dX8_noFolder_4 (fun H locs hW hS => ?_)
  refine lv_if_eq (tgt := 20) hx hb dX8_noFolder_7 (by decide) (fun c_1 => ?_) (fun c_1 => ?_)
  · refine lv_iconst (v := 1) hx hb dX8_noFolder_20 (by decide) ?_
    refine lv_goto (tgt := 25) hx hb dX8_noFolder_21 (by decide) ?_
    exact mm_zret hx hb hr hlk hK hW hS rfl (by rw [m_X8_noFolder, if_pos c_1]) dX8_noFolder_25
  · refine lv_aload_n hx hb dX8_noFolder_10 rfl (lv_at hl 0 rfl) ?_
    refine mm_get (v := .ref (ad 21 9)) hx hb hts hin hown hK hW 9 (by decide) (List.mem_of_getElem? (i := 1) rfl) rfl rfl dX8_noFolder_11 ?_
    refine lv_iload_n hx hb dX8_noFolder_14 rfl (lv_at hl 1 rfl) ?_
    have b_2 : vp_in f 16 := by
      have u_1 := rg_e f
      have u_2 := rg_e (m_X8_isIn f 0 15)
      have k_3 : (0 : Int32).toInt = 0 := rfl
      have v_4 := cv_ne c_1
      have k_5 : (15 : Int32).toInt = 15 := rfl
      have v_6 := is_t c_1
      exact vp_in_iff.mpr (by omega)
    refine mm_iald (v := (q.1 9 (Int32.toNatClampNeg f))) hx hb hK hW 9 16 rfl b_2 ((rfl)) dX8_noFolder_15 ?_
    refine lv_iconst (v := (-1)) hx hb dX8_noFolder_16 (by decide) ?_
    refine lv_icmp_ne (tgt := 24) hx hb dX8_noFolder_17 (by decide) (fun c_3 => ?_) (fun c_3 => ?_)
    · refine lv_iconst (v := 0) hx hb dX8_noFolder_24 (by decide) ?_
      exact mm_zret hx hb hr hlk hK hW hS rfl (by rw [m_X8_noFolder, if_neg c_1, if_neg c_3]) dX8_noFolder_25
    · refine lv_iconst (v := 1) hx hb dX8_noFolder_20 (by decide) ?_
      refine lv_goto (tgt := 25) hx hb dX8_noFolder_21 (by decide) ?_
      exact mm_zret hx hb hr hlk hK hW hS rfl (by rw [m_X8_noFolder, if_neg c_1, if_pos c_3]) dX8_noFolder_25

def m_X8_noRecord (q : qM) (r : Int32) : Int32 := (if (m_X8_isIn r 0 ((q.1 12 0) - 1)) = 0 then 1 else 0)
set_option maxHeartbeats 4000000 in
set_option maxRecDepth 100000 in
theorem c_X8_noRecord (l : Launch) (D : va_G) (b0 : Nat) (Pc : Nat → Nat → Option va_E) (cA : Nat → ClassId) (ad : Nat → Nat → Nat) (q : qM) (r : Int32) : mc_i l yX8_noRecord wsX8_noRecord 1 22 D b0 Pc cA ad q [.ref (ad 20 0), .int r] (m_X8_noRecord q r, q) := by
  refine mc_of (by decide) rfl (Nat.le_of_ble_eq_true rfl) ?_
  intro p e s m below meth c hx hb hml hr hlk hown hts hK hW ls hl
  have hown : s.vm.findClass RX8 = some m.cls := hown
  have hS : va_S (wA b0) s.heap s.heap [] := va_S.rf
  have hl : lv_has ls 2 [(0, .ref (ad 20 0)), (1, .int r)] := hl
  have hin : ∀ w ∈ wsX80, w ∈ wsX8_noRecord := fun w h => List.mem_cons_of_mem _ (List.mem_append_right _ h)
  refine lv_iload_n hx hb dX8_noRecord_0 rfl (lv_at hl 1 rfl) ?_
  refine lv_iconst (v := 0) hx hb dX8_noRecord_1 (by decide) ?_
  refine lv_aload_n hx hb dX8_noRecord_2 rfl (lv_at hl 0 rfl) ?_
  refine mm_gets (v := (q.1 12 0)) hx hb hts hin hown hK hW 12 (by decide) (List.mem_of_getElem? (i := 1) rfl) rfl rfl (rfl) dX8_noRecord_3 ?_
  refine lv_iconst (v := 1) hx hb dX8_noRecord_6 (by decide) ?_
  refine lv_isub hx hb dX8_noRecord_7 ?_
  refine mm_callSi (n := 3) (As := [.int r, .int 0, .int ((q.1 12 0) - 1)]) (rest := []) (r := (m_X8_isIn r 0 ((q.1 12 0) - 1))) (q2 := q) ⟨hx, hb, hml, hown, hts⟩ (c_X8_isIn l D b0 Pc cA ad q r 0 ((q.1 12 0) - 1)) gX8_noRecord_X8_isIn rfl (by decide +kernel) rfl ⟨Nat.le_of_ble_eq_true rfl, Nat.le_of_ble_eq_true rfl⟩ ⟨Nat.le_of_ble_eq_true rfl, Nat.le_of_ble_eq_true rfl⟩ hK hW hS hl.1 rfl (Nat.le_of_ble_eq_true rfl) dX8_noRecord_8 (fun H locs hW hS => ?_)
  refine lv_if_ne (tgt := 18) hx hb dX8_noRecord_11 (by decide) (fun c_1 => ?_) (fun c_1 => ?_)
  · refine lv_iconst (v := 0) hx hb dX8_noRecord_18 (by decide) ?_
    exact mm_zret hx hb hr hlk hK hW hS rfl (by rw [m_X8_noRecord, if_neg c_1]) dX8_noRecord_19
  · refine lv_iconst (v := 1) hx hb dX8_noRecord_14 (by decide) ?_
    refine lv_goto (tgt := 19) hx hb dX8_noRecord_15 (by decide) ?_
    exact mm_zret hx hb hr hlk hK hW hS rfl (by rw [m_X8_noRecord, if_pos c_1]) dX8_noRecord_19

def m_X8_noOfficer (k : Int32) : Int32 := (if (m_X8_isIn k 0 7) = 0 then 1 else 0)
set_option maxHeartbeats 4000000 in
set_option maxRecDepth 100000 in
theorem c_X8_noOfficer (l : Launch) (D : va_G) (b0 : Nat) (Pc : Nat → Nat → Option va_E) (cA : Nat → ClassId) (ad : Nat → Nat → Nat) (q : qM) (k : Int32) : mc_i l yX8_noOfficer wsX8_noOfficer 1 22 D b0 Pc cA ad q [.ref (ad 20 0), .int k] (m_X8_noOfficer k, q) := by
  refine mc_of (by decide) rfl (Nat.le_of_ble_eq_true rfl) ?_
  intro p e s m below meth c hx hb hml hr hlk hown hts hK hW ls hl
  have hown : s.vm.findClass RX8 = some m.cls := hown
  have hS : va_S (wA b0) s.heap s.heap [] := va_S.rf
  have hl : lv_has ls 2 [(0, .ref (ad 20 0)), (1, .int k)] := hl
  refine lv_iload_n hx hb dX8_noOfficer_0 rfl (lv_at hl 1 rfl) ?_
  refine lv_iconst (v := 0) hx hb dX8_noOfficer_1 (by decide) ?_
  refine lv_bipush (v := 7) hx hb dX8_noOfficer_2 (by decide) ?_
  refine mm_callSi (n := 3) (As := [.int k, .int 0, .int 7]) (rest := []) (r := (m_X8_isIn k 0 7)) (q2 := q) ⟨hx, hb, hml, hown, hts⟩ (c_X8_isIn l D b0 Pc cA ad q k 0 7) gX8_noOfficer_X8_isIn rfl (by decide +kernel) rfl ⟨Nat.le_of_ble_eq_true rfl, Nat.le_of_ble_eq_true rfl⟩ ⟨Nat.le_of_ble_eq_true rfl, Nat.le_of_ble_eq_true rfl⟩ hK hW hS hl.1 rfl (Nat.le_of_ble_eq_true rfl) dX8_noOfficer_4 (fun H locs hW hS => ?_)
  refine lv_if_ne (tgt := 14) hx hb dX8_noOfficer_7 (by decide) (fun c_1 => ?_) (fun c_1 => ?_)
  · refine lv_iconst (v := 0) hx hb dX8_noOfficer_14 (by decide) ?_
    exact mm_zret hx hb hr hlk hK hW hS rfl (by rw [m_X8_noOfficer, if_neg c_1]) dX8_noOfficer_15
  · refine lv_iconst (v := 1) hx hb dX8_noOfficer_10 (by decide) ?_
    refine lv_goto (tgt := 15) hx hb dX8_noOfficer_11 (by decide) ?_
    exact mm_zret hx hb hr hlk hK hW hS rfl (by rw [m_X8_noOfficer, if_pos c_1]) dX8_noOfficer_15

def m_X8_noList (q : qM) (k : Int32) : Int32 := (if (m_X8_isIn k 0 ((q.1 25 0) - 1)) = 0 then 1 else 0)
set_option maxHeartbeats 4000000 in
set_option maxRecDepth 100000 in
theorem c_X8_noList (l : Launch) (D : va_G) (b0 : Nat) (Pc : Nat → Nat → Option va_E) (cA : Nat → ClassId) (ad : Nat → Nat → Nat) (q : qM) (k : Int32) : mc_i l yX8_noList wsX8_noList 1 22 D b0 Pc cA ad q [.ref (ad 20 0), .int k] (m_X8_noList q k, q) := by
  refine mc_of (by decide) rfl (Nat.le_of_ble_eq_true rfl) ?_
  intro p e s m below meth c hx hb hml hr hlk hown hts hK hW ls hl
  have hown : s.vm.findClass RX8 = some m.cls := hown
  have hS : va_S (wA b0) s.heap s.heap [] := va_S.rf
  have hl : lv_has ls 2 [(0, .ref (ad 20 0)), (1, .int k)] := hl
  have hin : ∀ w ∈ wsX80, w ∈ wsX8_noList := fun w h => List.mem_cons_of_mem _ (List.mem_append_right _ h)
  refine lv_iload_n hx hb dX8_noList_0 rfl (lv_at hl 1 rfl) ?_
  refine lv_iconst (v := 0) hx hb dX8_noList_1 (by decide) ?_
  refine lv_aload_n hx hb dX8_noList_2 rfl (lv_at hl 0 rfl) ?_
  refine mm_gets (v := (q.1 25 0)) hx hb hts hin hown hK hW 25 (by decide) (List.mem_of_getElem? (i := 1) rfl) rfl rfl (rfl) dX8_noList_3 ?_
  refine lv_iconst (v := 1) hx hb dX8_noList_6 (by decide) ?_
  refine lv_isub hx hb dX8_noList_7 ?_
  refine mm_callSi (n := 3) (As := [.int k, .int 0, .int ((q.1 25 0) - 1)]) (rest := []) (r := (m_X8_isIn k 0 ((q.1 25 0) - 1))) (q2 := q) ⟨hx, hb, hml, hown, hts⟩ (c_X8_isIn l D b0 Pc cA ad q k 0 ((q.1 25 0) - 1)) gX8_noList_X8_isIn rfl (by decide +kernel) rfl ⟨Nat.le_of_ble_eq_true rfl, Nat.le_of_ble_eq_true rfl⟩ ⟨Nat.le_of_ble_eq_true rfl, Nat.le_of_ble_eq_true rfl⟩ hK hW hS hl.1 rfl (Nat.le_of_ble_eq_true rfl) dX8_noList_8 (fun H locs hW hS => ?_)
  refine lv_if_ne (tgt := 18) hx hb dX8_noList_11 (by decide) (fun c_1 => ?_) (fun c_1 => ?_)
  · refine lv_iconst (v := 0) hx hb dX8_noList_18 (by decide) ?_
    exact mm_zret hx hb hr hlk hK hW hS rfl (by rw [m_X8_noList, if_neg c_1]) dX8_noList_19
  · refine lv_iconst (v := 1) hx hb dX8_noList_14 (by decide) ?_
    refine lv_goto (tgt := 19) hx hb dX8_noList_15 (by decide) ?_
    exact mm_zret hx hb hr hlk hK hW hS rfl (by rw [m_X8_noList, if_pos c_1]) dX8_noList_19

def m_X8_noAct (q : qM) (i : Int32) : Int32 := (if (m_X8_isIn i 0 ((q.1 31 0) - 1)) = 0 then 1 else 0)
set_option maxHeartbeats 4000000 in
set_option maxRecDepth 100000 in
theorem c_X8_noAct (l : Launch) (D : va_G) (b0 : Nat) (Pc : Nat → Nat → Option va_E) (cA : Nat → ClassId) (ad : Nat → Nat → Nat) (q : qM) (i : Int32) : mc_i l yX8_noAct wsX8_noAct 1 22 D b0 Pc cA ad q [.ref (ad 20 0), .int i] (m_X8_noAct q i, q) := by
  refine mc_of (by decide) rfl (Nat.le_of_ble_eq_true rfl) ?_
  intro p e s m below meth c hx hb hml hr hlk hown hts hK hW ls hl
  have hown : s.vm.findClass RX8 = some m.cls := hown
  have hS : va_S (wA b0) s.heap s.heap [] := va_S.rf
  have hl : lv_has ls 2 [(0, .ref (ad 20 0)), (1, .int i)] := hl
  have hin : ∀ w ∈ wsX80, w ∈ wsX8_noAct := fun w h => List.mem_cons_of_mem _ (List.mem_append_right _ h)
  refine lv_iload_n hx hb dX8_noAct_0 rfl (lv_at hl 1 rfl) ?_
  refine lv_iconst (v := 0) hx hb dX8_noAct_1 (by decide) ?_
  refine lv_aload_n hx hb dX8_noAct_2 rfl (lv_at hl 0 rfl) ?_
  refine mm_gets (v := (q.1 31 0)) hx hb hts hin hown hK hW 31 (by decide) (List.mem_of_getElem? (i := 1) rfl) rfl rfl (rfl) dX8_noAct_3 ?_
  refine lv_iconst (v := 1) hx hb dX8_noAct_6 (by decide) ?_
  refine lv_isub hx hb dX8_noAct_7 ?_
  refine mm_callSi (n := 3) (As := [.int i, .int 0, .int ((q.1 31 0) - 1)]) (rest := []) (r := (m_X8_isIn i 0 ((q.1 31 0) - 1))) (q2 := q) ⟨hx, hb, hml, hown, hts⟩ (c_X8_isIn l D b0 Pc cA ad q i 0 ((q.1 31 0) - 1)) gX8_noAct_X8_isIn rfl (by decide +kernel) rfl ⟨Nat.le_of_ble_eq_true rfl, Nat.le_of_ble_eq_true rfl⟩ ⟨Nat.le_of_ble_eq_true rfl, Nat.le_of_ble_eq_true rfl⟩ hK hW hS hl.1 rfl (Nat.le_of_ble_eq_true rfl) dX8_noAct_8 (fun H locs hW hS => ?_)
  refine lv_if_ne (tgt := 18) hx hb dX8_noAct_11 (by decide) (fun c_1 => ?_) (fun c_1 => ?_)
  · refine lv_iconst (v := 0) hx hb dX8_noAct_18 (by decide) ?_
    exact mm_zret hx hb hr hlk hK hW hS rfl (by rw [m_X8_noAct, if_neg c_1]) dX8_noAct_19
  · refine lv_iconst (v := 1) hx hb dX8_noAct_14 (by decide) ?_
    refine lv_goto (tgt := 19) hx hb dX8_noAct_15 (by decide) ?_
    exact mm_zret hx hb hr hlk hK hW hS rfl (by rw [m_X8_noAct, if_pos c_1]) dX8_noAct_19

def m_X8_monthOf_lp : Nat → Int32 → Int32 → Int32
  | 0, _, _ => 0
  | n + 1, left, k => (if left < (m_X8_inMonth (1900 + (k / 12)) ((k - k / 12 * 12) + 1)) then k else (m_X8_monthOf_lp n (left - (m_X8_inMonth (1900 + (k / 12)) ((k - k / 12 * 12) + 1))) (k + 1)))
def m_X8_monthOf (day : Int32) : Int32 := (m_X8_monthOf_lp (Int.toNat day.toInt + 1) day 0)
set_option maxHeartbeats 4000000 in
set_option maxRecDepth 100000 in
theorem c_X8_monthOf (l : Launch) (D : va_G) (b0 : Nat) (Pc : Nat → Nat → Option va_E) (cA : Nat → ClassId) (ad : Nat → Nat → Nat) (q : qM) (day : Int32) (hd : 0 ≤ (day : Int32).toInt) : mc_i l yX8_monthOf wsX8_monthOf 1 22 D b0 Pc cA ad q [.int day] (m_X8_monthOf day, q) := by
  refine mc_of (by decide) rfl (Nat.le_of_ble_eq_true rfl) ?_
  intro p e s m below meth c hx hb hml hr hlk hown hts hK hW ls hl
  have hown : s.vm.findClass RX8 = some m.cls := hown
  have hS : va_S (wA b0) s.heap s.heap [] := va_S.rf
  have hl : lv_has ls 3 [(0, .int day)] := hl
  refine lv_iload_n hx hb dX8_monthOf_0 rfl (lv_at hl 0 rfl) ?_
  refine lv_istore_n (lv' := [(1, .int day), (0, .int day)]) hx hb dX8_monthOf_1 rfl hl (by decide) rfl (fun ls hl => ?_)
  refine lv_iconst (v := 0) hx hb dX8_monthOf_2 (by decide) ?_
  refine lv_istore_n (lv' := [(2, .int 0), (1, .int day), (0, .int day)]) hx hb dX8_monthOf_3 rfl hl (by decide) rfl (fun ls hl => ?_)
  have lp_5 : ∀ (Q : State → Prop) (n : Nat) (left : Int32) (k : Int32), (0 ≤ left.toInt) → left.toInt < (n : Int) → (∀ o_1 : Int32, o_1 = (m_X8_monthOf_lp n left k) → ∀ (H : Heap) (locs : List Loc), wd D (wA b0) (PW Pc cA ad q) ad H → va_S (wA b0) s.heap H locs → ∀ ls : Array Slot, lv_has ls 3 [(2, .int o_1), (0, .int day)] → W p l e { frames := 1, cells := 0, slots := 0, locals := 22 } s m [.int day].toArray below meth c H locs 0 0 Q (F0 m 51 ls [])) → ∀ (H : Heap) (locs : List Loc), wd D (wA b0) (PW Pc cA ad q) ad H → va_S (wA b0) s.heap H locs → ∀ ls : Array Slot, lv_has ls 3 [(1, .int left), (2, .int k), (0, .int day)] → W p l e { frames := 1, cells := 0, slots := 0, locals := 22 } s m [.int day].toArray below meth c H locs 0 0 Q (F0 m 4 ls []) := by
    intro Q n
    induction n with
    | zero =>
      intro left k i1 hm
      have hz : 0 ≤ left.toInt := by
        have w_1 := hd
        have w_2 := i1
        omega
      exact absurd hm (by omega)
    | succ n ih =>
      intro left k i1 hm kk H locs hW hS ls hl
      refine lv_iload_n hx hb dX8_monthOf_4 rfl (lv_at hl 0 rfl) ?_
      refine lv_sipush (v := 1900) hx hb dX8_monthOf_5 (by decide) ?_
      refine lv_iload_n hx hb dX8_monthOf_8 rfl (lv_at hl 1 rfl) ?_
      refine lv_bipush (v := 12) hx hb dX8_monthOf_9 (by decide) ?_
      refine lv_idiv hx hb dX8_monthOf_11 (by decide) ?_
      refine lv_iadd hx hb dX8_monthOf_12 ?_
      refine lv_iload_n hx hb dX8_monthOf_13 rfl (lv_at hl 1 rfl) ?_
      refine lv_bipush (v := 12) hx hb dX8_monthOf_14 (by decide) ?_
      refine lv_irem hx hb dX8_monthOf_16 (by decide) ?_
      refine lv_iconst (v := 1) hx hb dX8_monthOf_17 (by decide) ?_
      refine lv_iadd hx hb dX8_monthOf_18 ?_
      refine mm_callSi (n := 2) (As := [.int (1900 + (k / 12)), .int ((k - k / 12 * 12) + 1)]) (rest := [.int left]) (r := (m_X8_inMonth (1900 + (k / 12)) ((k - k / 12 * 12) + 1))) (q2 := q) ⟨hx, hb, hml, hown, hts⟩ (c_X8_inMonth l D b0 Pc cA ad q (1900 + (k / 12)) ((k - k / 12 * 12) + 1)) gX8_monthOf_X8_inMonth rfl (by decide +kernel) rfl ⟨Nat.le_of_ble_eq_true rfl, Nat.le_of_ble_eq_true rfl⟩ ⟨Nat.le_of_ble_eq_true rfl, Nat.le_of_ble_eq_true rfl⟩ hK hW hS hl.1 rfl (Nat.le_of_ble_eq_true rfl) dX8_monthOf_19 (fun H locs hW hS => ?_)
      refine lv_icmp_lt (tgt := 51) hx hb dX8_monthOf_22 (by decide) (fun c_2 => ?_) (fun c_2 => ?_)
      · exact kk k (by rw [m_X8_monthOf_lp, if_pos c_2])  H locs hW hS ls (lv_sub hl [1, 2] rfl)
      · refine lv_iload_n hx hb dX8_monthOf_25 rfl (lv_at hl 0 rfl) ?_
        refine lv_sipush (v := 1900) hx hb dX8_monthOf_26 (by decide) ?_
        refine lv_iload_n hx hb dX8_monthOf_29 rfl (lv_at hl 1 rfl) ?_
        refine lv_bipush (v := 12) hx hb dX8_monthOf_30 (by decide) ?_
        refine lv_idiv hx hb dX8_monthOf_32 (by decide) ?_
        refine lv_iadd hx hb dX8_monthOf_33 ?_
        refine lv_iload_n hx hb dX8_monthOf_34 rfl (lv_at hl 1 rfl) ?_
        refine lv_bipush (v := 12) hx hb dX8_monthOf_35 (by decide) ?_
        refine lv_irem hx hb dX8_monthOf_37 (by decide) ?_
        refine lv_iconst (v := 1) hx hb dX8_monthOf_38 (by decide) ?_
        refine lv_iadd hx hb dX8_monthOf_39 ?_
        refine mm_callSi (n := 2) (As := [.int (1900 + (k / 12)), .int ((k - k / 12 * 12) + 1)]) (rest := [.int left]) (r := (m_X8_inMonth (1900 + (k / 12)) ((k - k / 12 * 12) + 1))) (q2 := q) ⟨hx, hb, hml, hown, hts⟩ (c_X8_inMonth l D b0 Pc cA ad q (1900 + (k / 12)) ((k - k / 12 * 12) + 1)) gX8_monthOf_X8_inMonth rfl (by decide +kernel) rfl ⟨Nat.le_of_ble_eq_true rfl, Nat.le_of_ble_eq_true rfl⟩ ⟨Nat.le_of_ble_eq_true rfl, Nat.le_of_ble_eq_true rfl⟩ hK hW hS hl.1 rfl (Nat.le_of_ble_eq_true rfl) dX8_monthOf_40 (fun H locs hW hS => ?_)
        refine lv_isub hx hb dX8_monthOf_43 ?_
        refine lv_istore_n (lv' := [(1, .int (left - (m_X8_inMonth (1900 + (k / 12)) ((k - k / 12 * 12) + 1)))), (2, .int k), (0, .int day)]) hx hb dX8_monthOf_44 rfl hl (by decide) rfl (fun ls hl => ?_)
        refine lv_iinc (v := (k + 1)) (lv' := [(2, .int (k + 1)), (1, .int (left - (m_X8_inMonth (1900 + (k / 12)) ((k - k / 12 * 12) + 1)))), (0, .int day)]) hx hb dX8_monthOf_45 hl (k := 1) rfl (by first | rfl | decide) (by decide) rfl (fun ls hl => ?_)
        refine lv_goto (tgt := 4) hx hb dX8_monthOf_48 (by decide) ?_
        have h_3 : 0 ≤ (left - (m_X8_inMonth (1900 + (k / 12)) ((k - k / 12 * 12) + 1))).toInt := by
          have u_1 := rg_e left
          have u_2 := rg_e (m_X8_inMonth (1900 + (k / 12)) ((k - k / 12 * 12) + 1))
          have k_3 : (1900 : Int32).toInt = 1900 := rfl
          have u_4 := rg_e k
          have k_5 : (12 : Int32).toInt = 12 := rfl
          have r_6 := rg_e (k / 12)
          have r_8 := rg_e (k - k / 12 * 12)
          have k_9 : (1 : Int32).toInt = 1 := rfl
          have v_14 := cv_nlt c_2
          have w_15 := hd
          have w_16 := i1
          have u_6 := dv_e 12 k (rfl : (12 : Int32).toInt = 12) (by decide)
          have u_7 := ad_o 1900 (k / 12)
          have u_8 := rm_e 12 k (rfl : (12 : Int32).toInt = 12) (by decide)
          have u_10 := ad_o (k - k / 12 * 12) 1
          have u_11 := im_rg (1900 + (k / 12)) ((k - k / 12 * 12) + 1)
          have u_12 := su_o left (m_X8_inMonth (1900 + (k / 12)) ((k - k / 12 * 12) + 1))
          have u_13 := ad_o k 1
          omega
        have h_4 : (left - (m_X8_inMonth (1900 + (k / 12)) ((k - k / 12 * 12) + 1))).toInt < (n : Int) := by
          have u_1 := rg_e left
          have u_2 := rg_e (m_X8_inMonth (1900 + (k / 12)) ((k - k / 12 * 12) + 1))
          have k_3 : (1900 : Int32).toInt = 1900 := rfl
          have u_4 := rg_e k
          have k_5 : (12 : Int32).toInt = 12 := rfl
          have r_6 := rg_e (k / 12)
          have r_8 := rg_e (k - k / 12 * 12)
          have k_9 : (1 : Int32).toInt = 1 := rfl
          have v_14 := cv_nlt c_2
          have w_15 := hd
          have w_16 := i1
          have w_17 := hm
          have u_6 := dv_e 12 k (rfl : (12 : Int32).toInt = 12) (by decide)
          have u_7 := ad_o 1900 (k / 12)
          have u_8 := rm_e 12 k (rfl : (12 : Int32).toInt = 12) (by decide)
          have u_10 := ad_o (k - k / 12 * 12) 1
          have u_11 := im_rg (1900 + (k / 12)) ((k - k / 12 * 12) + 1)
          have u_12 := su_o left (m_X8_inMonth (1900 + (k / 12)) ((k - k / 12 * 12) + 1))
          have u_13 := ad_o k 1
          omega
        exact ih (left - (m_X8_inMonth (1900 + (k / 12)) ((k - k / 12 * 12) + 1))) (k + 1) h_3 h_4 (fun o_1 eo_1 => kk o_1 (eo_1.trans (by rw [m_X8_monthOf_lp, if_neg c_2]))) _ _ hW hS ls (lv_sub hl [1, 0, 2] rfl)
  have h_6 : 0 ≤ day.toInt := by
    have u_1 := rg_e day
    have k_2 : (0 : Int32).toInt = 0 := rfl
    have w_3 := hd
    omega
  have h_7 : day.toInt < (((Int.toNat day.toInt + 1) : Nat) : Int) := by
    have u_1 := rg_e day
    have k_2 : (0 : Int32).toInt = 0 := rfl
    have w_3 := hd
    omega
  refine lp_5 _ (Int.toNat day.toInt + 1) day 0 h_6 h_7 (fun o_1 eo_1 H locs hW hS ls hl => ?_) _ _ hW hS ls (lv_sub hl [1, 0, 2] rfl)
  refine lv_iload_n hx hb dX8_monthOf_51 rfl (lv_at hl 0 rfl) ?_
  exact mm_iret hx hb hr hlk hK hW hS (by rw [m_X8_monthOf, ← eo_1]) dX8_monthOf_52
