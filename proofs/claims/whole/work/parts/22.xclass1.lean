/-! laid by wip/whole/tools/xclass1.py -/
def m_X7_needClass (cl : Int32) : Int32 := (if cl < 0 then 1 else (if cl < 8 then 0 else 1))
set_option maxHeartbeats 4000000 in
set_option maxRecDepth 100000 in
theorem c_X7_needClass (l : Launch) (hlt : l.stackTraces = false) (D : va_G) (b0 : Nat) (cA : Nat → ClassId) (ad : Nat → Nat → Nat) (mq : qM) (q : qC) (cl : Int32) : xc_v l yX7_needClass wsX7_needClass 6 90 1 6 D b0 cA ad mq q [.int cl] ((m_X7_needClass cl), q) := by
  refine xc_of (by decide) rfl (Nat.le_of_ble_eq_true rfl) ?_
  intro p e s m below meth c hx hb hml hr hlk hown hts hK hW hKD hKX hz hxt ls hl
  have hown : s.vm.findClass RX7 = some m.cls := hown
  have hS : va_S (wA b0) s.heap s.heap [] := va_S.rf
  have hl : lv_has ls 1 [(0, .int cl)] := hl
  have hat_1 := xat_1 (fun w h => hts w (List.mem_cons_of_mem _ (List.mem_append_right _ h))) hKX
  refine lv_iload_n hx hb dX7_needClass_0 rfl (lv_at hl 0 rfl) ?_
  refine lv_if_lt (tgt := 10) hx hb dX7_needClass_1 (by decide) (fun c_1 => ?_) (fun c_1 => ?_)
  · exact ox_throwW (cls := "java/lang/IndexOutOfBoundsException") (text := "no such class") hx hb hlt hown (hts _ (List.mem_of_getElem? (i := 1) rfl)) (hts _ (List.mem_of_getElem? (i := 2) rfl)) hat_1 (by decide +kernel) (by decide +kernel) hK hW hS hKX (by decide +kernel) (hl.1.trans hml.symm) hxt (by rw [m_X7_needClass, if_pos c_1]; exact ⟨rfl, show ¬ (1 : Int32) = 0 by decide⟩) (Nat.le_of_ble_eq_true rfl) (Nat.le_of_ble_eq_true rfl) (Nat.le_of_ble_eq_true rfl) (Nat.le_of_ble_eq_true rfl) hlk (Nat.le_of_ble_eq_true rfl) (Nat.le_of_ble_eq_true rfl) dX7_needClass_10 dX7_needClass_13 dX7_needClass_14 dX7_needClass_17 dX7_needClass_20
  · refine lv_iload_n hx hb dX7_needClass_4 rfl (lv_at hl 0 rfl) ?_
    refine lv_bipush (v := 8) hx hb dX7_needClass_5 (by decide) ?_
    refine lv_icmp_lt (tgt := 21) hx hb dX7_needClass_7 (by decide) (fun c_2 => ?_) (fun c_2 => ?_)
    · exact ox_vret hx hb hr hlk hK hW hS (Nat.le_of_ble_eq_true rfl) (Nat.le_of_ble_eq_true rfl) (by rw [m_X7_needClass, if_neg c_1, if_pos c_2]) dX7_needClass_21
    · exact ox_throwW (cls := "java/lang/IndexOutOfBoundsException") (text := "no such class") hx hb hlt hown (hts _ (List.mem_of_getElem? (i := 1) rfl)) (hts _ (List.mem_of_getElem? (i := 2) rfl)) hat_1 (by decide +kernel) (by decide +kernel) hK hW hS hKX (by decide +kernel) (hl.1.trans hml.symm) hxt (by rw [m_X7_needClass, if_neg c_1, if_neg c_2]; exact ⟨rfl, show ¬ (1 : Int32) = 0 by decide⟩) (Nat.le_of_ble_eq_true rfl) (Nat.le_of_ble_eq_true rfl) (Nat.le_of_ble_eq_true rfl) (Nat.le_of_ble_eq_true rfl) hlk (Nat.le_of_ble_eq_true rfl) (Nat.le_of_ble_eq_true rfl) dX7_needClass_10 dX7_needClass_13 dX7_needClass_14 dX7_needClass_17 dX7_needClass_20

def m_X7_needHold (h : Int32) : Int32 := (if h < 0 then 1 else (if h < 8 then 0 else 1))
set_option maxHeartbeats 4000000 in
set_option maxRecDepth 100000 in
theorem c_X7_needHold (l : Launch) (hlt : l.stackTraces = false) (D : va_G) (b0 : Nat) (cA : Nat → ClassId) (ad : Nat → Nat → Nat) (mq : qM) (q : qC) (h : Int32) : xc_v l yX7_needHold wsX7_needHold 6 90 1 6 D b0 cA ad mq q [.int h] ((m_X7_needHold h), q) := by
  refine xc_of (by decide) rfl (Nat.le_of_ble_eq_true rfl) ?_
  intro p e s m below meth c hx hb hml hr hlk hown hts hK hW hKD hKX hz hxt ls hl
  have hown : s.vm.findClass RX7 = some m.cls := hown
  have hS : va_S (wA b0) s.heap s.heap [] := va_S.rf
  have hl : lv_has ls 1 [(0, .int h)] := hl
  have hat_1 := xat_1 (fun w h => hts w (List.mem_cons_of_mem _ (List.mem_append_right _ h))) hKX
  refine lv_iload_n hx hb dX7_needHold_0 rfl (lv_at hl 0 rfl) ?_
  refine lv_if_lt (tgt := 10) hx hb dX7_needHold_1 (by decide) (fun c_1 => ?_) (fun c_1 => ?_)
  · exact ox_throwW (cls := "java/lang/IndexOutOfBoundsException") (text := "no such hold") hx hb hlt hown (hts _ (List.mem_of_getElem? (i := 1) rfl)) (hts _ (List.mem_of_getElem? (i := 2) rfl)) hat_1 (by decide +kernel) (by decide +kernel) hK hW hS hKX (by decide +kernel) (hl.1.trans hml.symm) hxt (by rw [m_X7_needHold, if_pos c_1]; exact ⟨rfl, show ¬ (1 : Int32) = 0 by decide⟩) (Nat.le_of_ble_eq_true rfl) (Nat.le_of_ble_eq_true rfl) (Nat.le_of_ble_eq_true rfl) (Nat.le_of_ble_eq_true rfl) hlk (Nat.le_of_ble_eq_true rfl) (Nat.le_of_ble_eq_true rfl) dX7_needHold_10 dX7_needHold_13 dX7_needHold_14 dX7_needHold_17 dX7_needHold_20
  · refine lv_iload_n hx hb dX7_needHold_4 rfl (lv_at hl 0 rfl) ?_
    refine lv_bipush (v := 8) hx hb dX7_needHold_5 (by decide) ?_
    refine lv_icmp_lt (tgt := 21) hx hb dX7_needHold_7 (by decide) (fun c_2 => ?_) (fun c_2 => ?_)
    · exact ox_vret hx hb hr hlk hK hW hS (Nat.le_of_ble_eq_true rfl) (Nat.le_of_ble_eq_true rfl) (by rw [m_X7_needHold, if_neg c_1, if_pos c_2]) dX7_needHold_21
    · exact ox_throwW (cls := "java/lang/IndexOutOfBoundsException") (text := "no such hold") hx hb hlt hown (hts _ (List.mem_of_getElem? (i := 1) rfl)) (hts _ (List.mem_of_getElem? (i := 2) rfl)) hat_1 (by decide +kernel) (by decide +kernel) hK hW hS hKX (by decide +kernel) (hl.1.trans hml.symm) hxt (by rw [m_X7_needHold, if_neg c_1, if_neg c_2]; exact ⟨rfl, show ¬ (1 : Int32) = 0 by decide⟩) (Nat.le_of_ble_eq_true rfl) (Nat.le_of_ble_eq_true rfl) (Nat.le_of_ble_eq_true rfl) (Nat.le_of_ble_eq_true rfl) hlk (Nat.le_of_ble_eq_true rfl) (Nat.le_of_ble_eq_true rfl) dX7_needHold_10 dX7_needHold_13 dX7_needHold_14 dX7_needHold_17 dX7_needHold_20

def m_X7_needOfficer (o : Int32) : Int32 := (if o < 0 then 1 else (if o < 8 then 0 else 1))
set_option maxHeartbeats 4000000 in
set_option maxRecDepth 100000 in
theorem c_X7_needOfficer (l : Launch) (hlt : l.stackTraces = false) (D : va_G) (b0 : Nat) (cA : Nat → ClassId) (ad : Nat → Nat → Nat) (mq : qM) (q : qC) (o : Int32) : xc_v l yX7_needOfficer wsX7_needOfficer 6 90 1 6 D b0 cA ad mq q [.int o] ((m_X7_needOfficer o), q) := by
  refine xc_of (by decide) rfl (Nat.le_of_ble_eq_true rfl) ?_
  intro p e s m below meth c hx hb hml hr hlk hown hts hK hW hKD hKX hz hxt ls hl
  have hown : s.vm.findClass RX7 = some m.cls := hown
  have hS : va_S (wA b0) s.heap s.heap [] := va_S.rf
  have hl : lv_has ls 1 [(0, .int o)] := hl
  have hat_1 := xat_1 (fun w h => hts w (List.mem_cons_of_mem _ (List.mem_append_right _ h))) hKX
  refine lv_iload_n hx hb dX7_needOfficer_0 rfl (lv_at hl 0 rfl) ?_
  refine lv_if_lt (tgt := 10) hx hb dX7_needOfficer_1 (by decide) (fun c_1 => ?_) (fun c_1 => ?_)
  · exact ox_throwW (cls := "java/lang/IndexOutOfBoundsException") (text := "no such officer") hx hb hlt hown (hts _ (List.mem_of_getElem? (i := 1) rfl)) (hts _ (List.mem_of_getElem? (i := 2) rfl)) hat_1 (by decide +kernel) (by decide +kernel) hK hW hS hKX (by decide +kernel) (hl.1.trans hml.symm) hxt (by rw [m_X7_needOfficer, if_pos c_1]; exact ⟨rfl, show ¬ (1 : Int32) = 0 by decide⟩) (Nat.le_of_ble_eq_true rfl) (Nat.le_of_ble_eq_true rfl) (Nat.le_of_ble_eq_true rfl) (Nat.le_of_ble_eq_true rfl) hlk (Nat.le_of_ble_eq_true rfl) (Nat.le_of_ble_eq_true rfl) dX7_needOfficer_10 dX7_needOfficer_13 dX7_needOfficer_14 dX7_needOfficer_17 dX7_needOfficer_20
  · refine lv_iload_n hx hb dX7_needOfficer_4 rfl (lv_at hl 0 rfl) ?_
    refine lv_bipush (v := 8) hx hb dX7_needOfficer_5 (by decide) ?_
    refine lv_icmp_lt (tgt := 21) hx hb dX7_needOfficer_7 (by decide) (fun c_2 => ?_) (fun c_2 => ?_)
    · exact ox_vret hx hb hr hlk hK hW hS (Nat.le_of_ble_eq_true rfl) (Nat.le_of_ble_eq_true rfl) (by rw [m_X7_needOfficer, if_neg c_1, if_pos c_2]) dX7_needOfficer_21
    · exact ox_throwW (cls := "java/lang/IndexOutOfBoundsException") (text := "no such officer") hx hb hlt hown (hts _ (List.mem_of_getElem? (i := 1) rfl)) (hts _ (List.mem_of_getElem? (i := 2) rfl)) hat_1 (by decide +kernel) (by decide +kernel) hK hW hS hKX (by decide +kernel) (hl.1.trans hml.symm) hxt (by rw [m_X7_needOfficer, if_neg c_1, if_neg c_2]; exact ⟨rfl, show ¬ (1 : Int32) = 0 by decide⟩) (Nat.le_of_ble_eq_true rfl) (Nat.le_of_ble_eq_true rfl) (Nat.le_of_ble_eq_true rfl) (Nat.le_of_ble_eq_true rfl) hlk (Nat.le_of_ble_eq_true rfl) (Nat.le_of_ble_eq_true rfl) dX7_needOfficer_10 dX7_needOfficer_13 dX7_needOfficer_14 dX7_needOfficer_17 dX7_needOfficer_20

def m_X7_needDay (day : Int32) : Int32 := (if day < 0 then 2 else (if day ≤ 120000 then 0 else 2))
set_option maxHeartbeats 4000000 in
set_option maxRecDepth 100000 in
theorem c_X7_needDay (l : Launch) (hlt : l.stackTraces = false) (D : va_G) (b0 : Nat) (cA : Nat → ClassId) (ad : Nat → Nat → Nat) (mq : qM) (q : qC) (day : Int32) : xc_v l yX7_needDay wsX7_needDay 6 90 1 6 D b0 cA ad mq q [.int day] ((m_X7_needDay day), q) := by
  refine xc_of (by decide) rfl (Nat.le_of_ble_eq_true rfl) ?_
  intro p e s m below meth c hx hb hml hr hlk hown hts hK hW hKD hKX hz hxt ls hl
  have hown : s.vm.findClass RX7 = some m.cls := hown
  have hS : va_S (wA b0) s.heap s.heap [] := va_S.rf
  have hl : lv_has ls 1 [(0, .int day)] := hl
  have hat_2 := xat_2 (fun w h => hts w (List.mem_cons_of_mem _ (List.mem_append_right _ h))) hKX
  refine lv_iload_n hx hb dX7_needDay_0 rfl (lv_at hl 0 rfl) ?_
  refine lv_if_lt (tgt := 11) hx hb dX7_needDay_1 (by decide) (fun c_1 => ?_) (fun c_1 => ?_)
  · exact ox_throwW (cls := "java/lang/IllegalArgumentException") (text := "no such day") hx hb hlt hown (hts _ (List.mem_of_getElem? (i := 1) rfl)) (hts _ (List.mem_of_getElem? (i := 2) rfl)) hat_2 (by decide +kernel) (by decide +kernel) hK hW hS hKX (by decide +kernel) (hl.1.trans hml.symm) hxt (by rw [m_X7_needDay, if_pos c_1]; exact ⟨rfl, show ¬ (2 : Int32) = 0 by decide⟩) (Nat.le_of_ble_eq_true rfl) (Nat.le_of_ble_eq_true rfl) (Nat.le_of_ble_eq_true rfl) (Nat.le_of_ble_eq_true rfl) hlk (Nat.le_of_ble_eq_true rfl) (Nat.le_of_ble_eq_true rfl) dX7_needDay_11 dX7_needDay_14 dX7_needDay_15 dX7_needDay_18 dX7_needDay_21
  · refine lv_iload_n hx hb dX7_needDay_4 rfl (lv_at hl 0 rfl) ?_
    refine lv_ldcw (v := 120000) hx hb hown (hts _ (List.mem_of_getElem? (i := 3) rfl)) dX7_needDay_5 ?_
    refine lv_icmp_le (tgt := 22) hx hb dX7_needDay_8 (by decide) (fun c_2 => ?_) (fun c_2 => ?_)
    · exact ox_vret hx hb hr hlk hK hW hS (Nat.le_of_ble_eq_true rfl) (Nat.le_of_ble_eq_true rfl) (by rw [m_X7_needDay, if_neg c_1, if_pos c_2]) dX7_needDay_22
    · exact ox_throwW (cls := "java/lang/IllegalArgumentException") (text := "no such day") hx hb hlt hown (hts _ (List.mem_of_getElem? (i := 1) rfl)) (hts _ (List.mem_of_getElem? (i := 2) rfl)) hat_2 (by decide +kernel) (by decide +kernel) hK hW hS hKX (by decide +kernel) (hl.1.trans hml.symm) hxt (by rw [m_X7_needDay, if_neg c_1, if_neg c_2]; exact ⟨rfl, show ¬ (2 : Int32) = 0 by decide⟩) (Nat.le_of_ble_eq_true rfl) (Nat.le_of_ble_eq_true rfl) (Nat.le_of_ble_eq_true rfl) (Nat.le_of_ble_eq_true rfl) hlk (Nat.le_of_ble_eq_true rfl) (Nat.le_of_ble_eq_true rfl) dX7_needDay_11 dX7_needDay_14 dX7_needDay_15 dX7_needDay_18 dX7_needDay_21

def m_X7_needKeyOrNone (key : Int32) : Int32 := (if key < (-1) then 2 else (if key ≤ 99 then 0 else 2))
set_option maxHeartbeats 4000000 in
set_option maxRecDepth 100000 in
theorem c_X7_needKeyOrNone (l : Launch) (hlt : l.stackTraces = false) (D : va_G) (b0 : Nat) (cA : Nat → ClassId) (ad : Nat → Nat → Nat) (mq : qM) (q : qC) (key : Int32) : xc_v l yX7_needKeyOrNone wsX7_needKeyOrNone 6 90 1 6 D b0 cA ad mq q [.int key] ((m_X7_needKeyOrNone key), q) := by
  refine xc_of (by decide) rfl (Nat.le_of_ble_eq_true rfl) ?_
  intro p e s m below meth c hx hb hml hr hlk hown hts hK hW hKD hKX hz hxt ls hl
  have hown : s.vm.findClass RX7 = some m.cls := hown
  have hS : va_S (wA b0) s.heap s.heap [] := va_S.rf
  have hl : lv_has ls 1 [(0, .int key)] := hl
  have hat_2 := xat_2 (fun w h => hts w (List.mem_cons_of_mem _ (List.mem_append_right _ h))) hKX
  refine lv_iload_n hx hb dX7_needKeyOrNone_0 rfl (lv_at hl 0 rfl) ?_
  refine lv_iconst (v := (-1)) hx hb dX7_needKeyOrNone_1 (by decide) ?_
  refine lv_icmp_lt (tgt := 11) hx hb dX7_needKeyOrNone_2 (by decide) (fun c_1 => ?_) (fun c_1 => ?_)
  · exact ox_throwW (cls := "java/lang/IllegalArgumentException") (text := "no such key") hx hb hlt hown (hts _ (List.mem_of_getElem? (i := 1) rfl)) (hts _ (List.mem_of_getElem? (i := 2) rfl)) hat_2 (by decide +kernel) (by decide +kernel) hK hW hS hKX (by decide +kernel) (hl.1.trans hml.symm) hxt (by rw [m_X7_needKeyOrNone, if_pos c_1]; exact ⟨rfl, show ¬ (2 : Int32) = 0 by decide⟩) (Nat.le_of_ble_eq_true rfl) (Nat.le_of_ble_eq_true rfl) (Nat.le_of_ble_eq_true rfl) (Nat.le_of_ble_eq_true rfl) hlk (Nat.le_of_ble_eq_true rfl) (Nat.le_of_ble_eq_true rfl) dX7_needKeyOrNone_11 dX7_needKeyOrNone_14 dX7_needKeyOrNone_15 dX7_needKeyOrNone_18 dX7_needKeyOrNone_21
  · refine lv_iload_n hx hb dX7_needKeyOrNone_5 rfl (lv_at hl 0 rfl) ?_
    refine lv_bipush (v := 99) hx hb dX7_needKeyOrNone_6 (by decide) ?_
    refine lv_icmp_le (tgt := 22) hx hb dX7_needKeyOrNone_8 (by decide) (fun c_2 => ?_) (fun c_2 => ?_)
    · exact ox_vret hx hb hr hlk hK hW hS (Nat.le_of_ble_eq_true rfl) (Nat.le_of_ble_eq_true rfl) (by rw [m_X7_needKeyOrNone, if_neg c_1, if_pos c_2]) dX7_needKeyOrNone_22
    · exact ox_throwW (cls := "java/lang/IllegalArgumentException") (text := "no such key") hx hb hlt hown (hts _ (List.mem_of_getElem? (i := 1) rfl)) (hts _ (List.mem_of_getElem? (i := 2) rfl)) hat_2 (by decide +kernel) (by decide +kernel) hK hW hS hKX (by decide +kernel) (hl.1.trans hml.symm) hxt (by rw [m_X7_needKeyOrNone, if_neg c_1, if_neg c_2]; exact ⟨rfl, show ¬ (2 : Int32) = 0 by decide⟩) (Nat.le_of_ble_eq_true rfl) (Nat.le_of_ble_eq_true rfl) (Nat.le_of_ble_eq_true rfl) (Nat.le_of_ble_eq_true rfl) hlk (Nat.le_of_ble_eq_true rfl) (Nat.le_of_ble_eq_true rfl) dX7_needKeyOrNone_11 dX7_needKeyOrNone_14 dX7_needKeyOrNone_15 dX7_needKeyOrNone_18 dX7_needKeyOrNone_21

def m_X7_needNumberOfAct (what : Int32) : Int32 := (if what < 0 then 2 else (if what < 4 then 0 else 2))
set_option maxHeartbeats 4000000 in
set_option maxRecDepth 100000 in
theorem c_X7_needNumberOfAct (l : Launch) (hlt : l.stackTraces = false) (D : va_G) (b0 : Nat) (cA : Nat → ClassId) (ad : Nat → Nat → Nat) (mq : qM) (q : qC) (what : Int32) : xc_v l yX7_needNumberOfAct wsX7_needNumberOfAct 6 90 1 6 D b0 cA ad mq q [.int what] ((m_X7_needNumberOfAct what), q) := by
  refine xc_of (by decide) rfl (Nat.le_of_ble_eq_true rfl) ?_
  intro p e s m below meth c hx hb hml hr hlk hown hts hK hW hKD hKX hz hxt ls hl
  have hown : s.vm.findClass RX7 = some m.cls := hown
  have hS : va_S (wA b0) s.heap s.heap [] := va_S.rf
  have hl : lv_has ls 1 [(0, .int what)] := hl
  have hat_2 := xat_2 (fun w h => hts w (List.mem_cons_of_mem _ (List.mem_append_right _ h))) hKX
  refine lv_iload_n hx hb dX7_needNumberOfAct_0 rfl (lv_at hl 0 rfl) ?_
  refine lv_if_lt (tgt := 9) hx hb dX7_needNumberOfAct_1 (by decide) (fun c_1 => ?_) (fun c_1 => ?_)
  · exact ox_throwW (cls := "java/lang/IllegalArgumentException") (text := "an act has no such number") hx hb hlt hown (hts _ (List.mem_of_getElem? (i := 1) rfl)) (hts _ (List.mem_of_getElem? (i := 2) rfl)) hat_2 (by decide +kernel) (by decide +kernel) hK hW hS hKX (by decide +kernel) (hl.1.trans hml.symm) hxt (by rw [m_X7_needNumberOfAct, if_pos c_1]; exact ⟨rfl, show ¬ (2 : Int32) = 0 by decide⟩) (Nat.le_of_ble_eq_true rfl) (Nat.le_of_ble_eq_true rfl) (Nat.le_of_ble_eq_true rfl) (Nat.le_of_ble_eq_true rfl) hlk (Nat.le_of_ble_eq_true rfl) (Nat.le_of_ble_eq_true rfl) dX7_needNumberOfAct_9 dX7_needNumberOfAct_12 dX7_needNumberOfAct_13 dX7_needNumberOfAct_16 dX7_needNumberOfAct_19
  · refine lv_iload_n hx hb dX7_needNumberOfAct_4 rfl (lv_at hl 0 rfl) ?_
    refine lv_iconst (v := 4) hx hb dX7_needNumberOfAct_5 (by decide) ?_
    refine lv_icmp_lt (tgt := 20) hx hb dX7_needNumberOfAct_6 (by decide) (fun c_2 => ?_) (fun c_2 => ?_)
    · exact ox_vret hx hb hr hlk hK hW hS (Nat.le_of_ble_eq_true rfl) (Nat.le_of_ble_eq_true rfl) (by rw [m_X7_needNumberOfAct, if_neg c_1, if_pos c_2]) dX7_needNumberOfAct_20
    · exact ox_throwW (cls := "java/lang/IllegalArgumentException") (text := "an act has no such number") hx hb hlt hown (hts _ (List.mem_of_getElem? (i := 1) rfl)) (hts _ (List.mem_of_getElem? (i := 2) rfl)) hat_2 (by decide +kernel) (by decide +kernel) hK hW hS hKX (by decide +kernel) (hl.1.trans hml.symm) hxt (by rw [m_X7_needNumberOfAct, if_neg c_1, if_neg c_2]; exact ⟨rfl, show ¬ (2 : Int32) = 0 by decide⟩) (Nat.le_of_ble_eq_true rfl) (Nat.le_of_ble_eq_true rfl) (Nat.le_of_ble_eq_true rfl) (Nat.le_of_ble_eq_true rfl) hlk (Nat.le_of_ble_eq_true rfl) (Nat.le_of_ble_eq_true rfl) dX7_needNumberOfAct_9 dX7_needNumberOfAct_12 dX7_needNumberOfAct_13 dX7_needNumberOfAct_16 dX7_needNumberOfAct_19

def m_X7_needTerm (yr : Int32) (mo : Int32) : Int32 := (if yr < 0 then 2 else (if 100 < yr then 2 else (if mo < 0 then 2 else (if mo ≤ 11 then 0 else 2))))
set_option maxHeartbeats 4000000 in
set_option maxRecDepth 100000 in
theorem c_X7_needTerm (l : Launch) (hlt : l.stackTraces = false) (D : va_G) (b0 : Nat) (cA : Nat → ClassId) (ad : Nat → Nat → Nat) (mq : qM) (q : qC) (yr : Int32) (mo : Int32) : xc_v l yX7_needTerm wsX7_needTerm 6 90 1 6 D b0 cA ad mq q [.int yr, .int mo] ((m_X7_needTerm yr mo), q) := by
  refine xc_of (by decide) rfl (Nat.le_of_ble_eq_true rfl) ?_
  intro p e s m below meth c hx hb hml hr hlk hown hts hK hW hKD hKX hz hxt ls hl
  have hown : s.vm.findClass RX7 = some m.cls := hown
  have hS : va_S (wA b0) s.heap s.heap [] := va_S.rf
  have hl : lv_has ls 2 [(0, .int yr), (1, .int mo)] := hl
  have hat_2 := xat_2 (fun w h => hts w (List.mem_cons_of_mem _ (List.mem_append_right _ h))) hKX
  refine lv_iload_n hx hb dX7_needTerm_0 rfl (lv_at hl 0 rfl) ?_
  refine lv_if_lt (tgt := 20) hx hb dX7_needTerm_1 (by decide) (fun c_1 => ?_) (fun c_1 => ?_)
  · exact ox_throwW (cls := "java/lang/IllegalArgumentException") (text := "no such term") hx hb hlt hown (hts _ (List.mem_of_getElem? (i := 1) rfl)) (hts _ (List.mem_of_getElem? (i := 2) rfl)) hat_2 (by decide +kernel) (by decide +kernel) hK hW hS hKX (by decide +kernel) (hl.1.trans hml.symm) hxt (by rw [m_X7_needTerm, if_pos c_1]; exact ⟨rfl, show ¬ (2 : Int32) = 0 by decide⟩) (Nat.le_of_ble_eq_true rfl) (Nat.le_of_ble_eq_true rfl) (Nat.le_of_ble_eq_true rfl) (Nat.le_of_ble_eq_true rfl) hlk (Nat.le_of_ble_eq_true rfl) (Nat.le_of_ble_eq_true rfl) dX7_needTerm_20 dX7_needTerm_23 dX7_needTerm_24 dX7_needTerm_27 dX7_needTerm_30
  · refine lv_iload_n hx hb dX7_needTerm_4 rfl (lv_at hl 0 rfl) ?_
    refine lv_bipush (v := 100) hx hb dX7_needTerm_5 (by decide) ?_
    refine lv_icmp_gt (tgt := 20) hx hb dX7_needTerm_7 (by decide) (fun c_2 => ?_) (fun c_2 => ?_)
    · exact ox_throwW (cls := "java/lang/IllegalArgumentException") (text := "no such term") hx hb hlt hown (hts _ (List.mem_of_getElem? (i := 1) rfl)) (hts _ (List.mem_of_getElem? (i := 2) rfl)) hat_2 (by decide +kernel) (by decide +kernel) hK hW hS hKX (by decide +kernel) (hl.1.trans hml.symm) hxt (by rw [m_X7_needTerm, if_neg c_1, if_pos c_2]; exact ⟨rfl, show ¬ (2 : Int32) = 0 by decide⟩) (Nat.le_of_ble_eq_true rfl) (Nat.le_of_ble_eq_true rfl) (Nat.le_of_ble_eq_true rfl) (Nat.le_of_ble_eq_true rfl) hlk (Nat.le_of_ble_eq_true rfl) (Nat.le_of_ble_eq_true rfl) dX7_needTerm_20 dX7_needTerm_23 dX7_needTerm_24 dX7_needTerm_27 dX7_needTerm_30
    · refine lv_iload_n hx hb dX7_needTerm_10 rfl (lv_at hl 1 rfl) ?_
      refine lv_if_lt (tgt := 20) hx hb dX7_needTerm_11 (by decide) (fun c_3 => ?_) (fun c_3 => ?_)
      · exact ox_throwW (cls := "java/lang/IllegalArgumentException") (text := "no such term") hx hb hlt hown (hts _ (List.mem_of_getElem? (i := 1) rfl)) (hts _ (List.mem_of_getElem? (i := 2) rfl)) hat_2 (by decide +kernel) (by decide +kernel) hK hW hS hKX (by decide +kernel) (hl.1.trans hml.symm) hxt (by rw [m_X7_needTerm, if_neg c_1, if_neg c_2, if_pos c_3]; exact ⟨rfl, show ¬ (2 : Int32) = 0 by decide⟩) (Nat.le_of_ble_eq_true rfl) (Nat.le_of_ble_eq_true rfl) (Nat.le_of_ble_eq_true rfl) (Nat.le_of_ble_eq_true rfl) hlk (Nat.le_of_ble_eq_true rfl) (Nat.le_of_ble_eq_true rfl) dX7_needTerm_20 dX7_needTerm_23 dX7_needTerm_24 dX7_needTerm_27 dX7_needTerm_30
      · refine lv_iload_n hx hb dX7_needTerm_14 rfl (lv_at hl 1 rfl) ?_
        refine lv_bipush (v := 11) hx hb dX7_needTerm_15 (by decide) ?_
        refine lv_icmp_le (tgt := 31) hx hb dX7_needTerm_17 (by decide) (fun c_4 => ?_) (fun c_4 => ?_)
        · exact ox_vret hx hb hr hlk hK hW hS (Nat.le_of_ble_eq_true rfl) (Nat.le_of_ble_eq_true rfl) (by rw [m_X7_needTerm, if_neg c_1, if_neg c_2, if_neg c_3, if_pos c_4]) dX7_needTerm_31
        · exact ox_throwW (cls := "java/lang/IllegalArgumentException") (text := "no such term") hx hb hlt hown (hts _ (List.mem_of_getElem? (i := 1) rfl)) (hts _ (List.mem_of_getElem? (i := 2) rfl)) hat_2 (by decide +kernel) (by decide +kernel) hK hW hS hKX (by decide +kernel) (hl.1.trans hml.symm) hxt (by rw [m_X7_needTerm, if_neg c_1, if_neg c_2, if_neg c_3, if_neg c_4]; exact ⟨rfl, show ¬ (2 : Int32) = 0 by decide⟩) (Nat.le_of_ble_eq_true rfl) (Nat.le_of_ble_eq_true rfl) (Nat.le_of_ble_eq_true rfl) (Nat.le_of_ble_eq_true rfl) hlk (Nat.le_of_ble_eq_true rfl) (Nat.le_of_ble_eq_true rfl) dX7_needTerm_20 dX7_needTerm_23 dX7_needTerm_24 dX7_needTerm_27 dX7_needTerm_30
