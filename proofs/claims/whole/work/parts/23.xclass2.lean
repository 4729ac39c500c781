/-! laid by wip/whole/tools/xclass2.py -/
def m_X7_needAct (q : qC) (i : Int32) : Int32 := (if i < 0 then 1 else (if i < (q.1 7 0 2) then 0 else 1))
set_option maxHeartbeats 4000000 in
set_option maxRecDepth 100000 in
theorem c_X7_needAct (l : Launch) (hlt : l.stackTraces = false) (D : va_G) (b0 : Nat) (cA : Nat → ClassId) (ad : Nat → Nat → Nat) (mq : qM) (q : qC) (i : Int32) (hI : cI q) : xc_v l yX7_needAct wsX7_needAct 6 90 1 6 D b0 cA ad mq q [.ref (ad 0 0), .int i] ((m_X7_needAct q i), q) := by
  refine xc_of (by decide) rfl (Nat.le_of_ble_eq_true rfl) ?_
  intro p e s m below meth c hx hb hml hr hlk hown hts hK hW hKD hKX hz hxt ls hl
  have hown : s.vm.findClass RX7 = some m.cls := hown
  have hS : va_S (wA b0) s.heap s.heap [] := va_S.rf
  have hl : lv_has ls 2 [(0, .ref (ad 0 0)), (1, .int i)] := hl
  have hin_X7 : ∀ w ∈ wsX70, w ∈ wsX7_needAct := fun w h => List.mem_cons_of_mem _ (List.mem_append_left _ (List.mem_append_left _ (List.mem_append_right _ h)))
  have hin_X0 : ∀ w ∈ wsX00, w ∈ wsX7_needAct := fun w h => List.mem_cons_of_mem _ (List.mem_append_left _ (List.mem_append_right _ h))
  have hat_1 := xat_1 (fun w h => hts w (List.mem_cons_of_mem _ (List.mem_append_right _ h))) hKX
  refine lv_iload_n hx hb dX7_needAct_0 rfl (lv_at hl 1 rfl) ?_
  refine lv_if_lt (tgt := 15) hx hb dX7_needAct_1 (by decide) (fun c_1 => ?_) (fun c_1 => ?_)
  · exact ox_throwW (cls := "java/lang/IndexOutOfBoundsException") (text := "no such act") hx hb hlt hown (hts _ (List.mem_of_getElem? (i := 1) rfl)) (hts _ (List.mem_of_getElem? (i := 2) rfl)) hat_1 (by decide +kernel) (by decide +kernel) hK hW hS hKX (by decide +kernel) (hl.1.trans hml.symm) hxt (by rw [m_X7_needAct, if_pos c_1]; exact ⟨rfl, show ¬ (1 : Int32) = 0 by decide⟩) (Nat.le_of_ble_eq_true rfl) (Nat.le_of_ble_eq_true rfl) (Nat.le_of_ble_eq_true rfl) (Nat.le_of_ble_eq_true rfl) hlk (Nat.le_of_ble_eq_true rfl) (Nat.le_of_ble_eq_true rfl) dX7_needAct_15 dX7_needAct_18 dX7_needAct_19 dX7_needAct_22 dX7_needAct_25
  · refine lv_iload_n hx hb dX7_needAct_4 rfl (lv_at hl 1 rfl) ?_
    refine lv_aload_n hx hb dX7_needAct_5 rfl (lv_at hl 0 rfl) ?_
    refine ow_get (v2 := .ref (ad 7 0)) (ci := 6) (C := RX7) (T := TX7) (N := 11) hx hb hts hin_X7 hown hK hW 0 0 (PO_k0) rfl 6 (by decide) (List.mem_of_getElem? (i := 3) rfl) rfl rfl rfl dX7_needAct_6 ?_
    refine ow_get (v2 := .int (q.1 7 0 2)) (ci := 0) (C := RX0) (T := TX0) (N := 3) hx hb hts hin_X0 hown hK hW 7 0 (PO_k7) rfl 2 (by decide) (List.mem_of_getElem? (i := 4) rfl) rfl rfl rfl dX7_needAct_9 ?_
    refine lv_icmp_lt (tgt := 26) hx hb dX7_needAct_12 (by decide) (fun c_2 => ?_) (fun c_2 => ?_)
    · exact ox_vret hx hb hr hlk hK hW hS (Nat.le_of_ble_eq_true rfl) (Nat.le_of_ble_eq_true rfl) (by rw [m_X7_needAct, if_neg c_1, if_pos c_2]) dX7_needAct_26
    · exact ox_throwW (cls := "java/lang/IndexOutOfBoundsException") (text := "no such act") hx hb hlt hown (hts _ (List.mem_of_getElem? (i := 1) rfl)) (hts _ (List.mem_of_getElem? (i := 2) rfl)) hat_1 (by decide +kernel) (by decide +kernel) hK hW hS hKX (by decide +kernel) (hl.1.trans hml.symm) hxt (by rw [m_X7_needAct, if_neg c_1, if_neg c_2]; exact ⟨rfl, show ¬ (1 : Int32) = 0 by decide⟩) (Nat.le_of_ble_eq_true rfl) (Nat.le_of_ble_eq_true rfl) (Nat.le_of_ble_eq_true rfl) (Nat.le_of_ble_eq_true rfl) hlk (Nat.le_of_ble_eq_true rfl) (Nat.le_of_ble_eq_true rfl) dX7_needAct_15 dX7_needAct_18 dX7_needAct_19 dX7_needAct_22 dX7_needAct_25

def m_X7_needRoom (q : qC) (n : Int32) : Int32 := (if n ≤ (400 - (q.1 7 0 2)) then 0 else 3)
set_option maxHeartbeats 4000000 in
set_option maxRecDepth 100000 in
theorem c_X7_needRoom (l : Launch) (hlt : l.stackTraces = false) (D : va_G) (b0 : Nat) (cA : Nat → ClassId) (ad : Nat → Nat → Nat) (mq : qM) (q : qC) (n : Int32) : xc_v l yX7_needRoom wsX7_needRoom 6 90 1 6 D b0 cA ad mq q [.ref (ad 0 0), .int n] ((m_X7_needRoom q n), q) := by
  refine xc_of (by decide) rfl (Nat.le_of_ble_eq_true rfl) ?_
  intro p e s m below meth c hx hb hml hr hlk hown hts hK hW hKD hKX hz hxt ls hl
  have hown : s.vm.findClass RX7 = some m.cls := hown
  have hS : va_S (wA b0) s.heap s.heap [] := va_S.rf
  have hl : lv_has ls 2 [(0, .ref (ad 0 0)), (1, .int n)] := hl
  have hin_X7 : ∀ w ∈ wsX70, w ∈ wsX7_needRoom := fun w h => List.mem_cons_of_mem _ (List.mem_append_left _ (List.mem_append_left _ (List.mem_append_right _ h)))
  have hin_X0 : ∀ w ∈ wsX00, w ∈ wsX7_needRoom := fun w h => List.mem_cons_of_mem _ (List.mem_append_left _ (List.mem_append_right _ h))
  have hat_3 := xat_3 (fun w h => hts w (List.mem_cons_of_mem _ (List.mem_append_right _ h))) hKX
  refine lv_sipush (v := 400) hx hb dX7_needRoom_0 (by decide) ?_
  refine lv_aload_n hx hb dX7_needRoom_3 rfl (lv_at hl 0 rfl) ?_
  refine ow_get (v2 := .ref (ad 7 0)) (ci := 6) (C := RX7) (T := TX7) (N := 11) hx hb hts hin_X7 hown hK hW 0 0 (PO_k0) rfl 6 (by decide) (List.mem_of_getElem? (i := 3) rfl) rfl rfl rfl dX7_needRoom_4 ?_
  refine ow_get (v2 := .int (q.1 7 0 2)) (ci := 0) (C := RX0) (T := TX0) (N := 3) hx hb hts hin_X0 hown hK hW 7 0 (PO_k7) rfl 2 (by decide) (List.mem_of_getElem? (i := 4) rfl) rfl rfl rfl dX7_needRoom_7 ?_
  refine lv_isub hx hb dX7_needRoom_10 ?_
  refine lv_iload_n hx hb dX7_needRoom_11 rfl (lv_at hl 1 rfl) ?_
  refine lv_icmp_ge (tgt := 26) hx hb dX7_needRoom_12 (by decide) (fun c_1 => ?_) (fun c_1 => ?_)
  · exact ox_vret hx hb hr hlk hK hW hS (Nat.le_of_ble_eq_true rfl) (Nat.le_of_ble_eq_true rfl) (by rw [m_X7_needRoom, if_pos c_1]) dX7_needRoom_26
  · exact ox_throwW (cls := "java/lang/IllegalStateException") (text := "no room in the book") hx hb hlt hown (hts _ (List.mem_of_getElem? (i := 1) rfl)) (hts _ (List.mem_of_getElem? (i := 2) rfl)) hat_3 (by decide +kernel) (by decide +kernel) hK hW hS hKX (by decide +kernel) (hl.1.trans hml.symm) hxt (by rw [m_X7_needRoom, if_neg c_1]; exact ⟨rfl, show ¬ (3 : Int32) = 0 by decide⟩) (Nat.le_of_ble_eq_true rfl) (Nat.le_of_ble_eq_true rfl) (Nat.le_of_ble_eq_true rfl) (Nat.le_of_ble_eq_true rfl) hlk (Nat.le_of_ble_eq_true rfl) (Nat.le_of_ble_eq_true rfl) dX7_needRoom_15 dX7_needRoom_18 dX7_needRoom_19 dX7_needRoom_22 dX7_needRoom_25

def m_X7_needDayOfAct (q : qC) (day : Int32) : Int32 := (if (m_X7_needDay day) = 0 then (if (q.1 0 0 9) ≤ day then 0 else 2) else (m_X7_needDay day))
set_option maxHeartbeats 4000000 in
set_option maxRecDepth 100000 in
theorem c_X7_needDayOfAct (l : Launch) (hlt : l.stackTraces = false) (D : va_G) (b0 : Nat) (cA : Nat → ClassId) (ad : Nat → Nat → Nat) (mq : qM) (q : qC) (day : Int32) : xc_v l yX7_needDayOfAct wsX7_needDayOfAct 7 110 2 12 D b0 cA ad mq q [.ref (ad 0 0), .int day] ((m_X7_needDayOfAct q day), q) := by
  refine xc_of (by decide) rfl (Nat.le_of_ble_eq_true rfl) ?_
  intro p e s m below meth c hx hb hml hr hlk hown hts hK hW hKD hKX hz hxt ls hl
  have hown : s.vm.findClass RX7 = some m.cls := hown
  have hS : va_S (wA b0) s.heap s.heap [] := va_S.rf
  have hl : lv_has ls 2 [(0, .ref (ad 0 0)), (1, .int day)] := hl
  have hin_X7 : ∀ w ∈ wsX70, w ∈ wsX7_needDayOfAct := fun w h => List.mem_cons_of_mem _ (List.mem_append_left _ (List.mem_append_right _ h))
  have hat_2 := xat_2 (fun w h => hts w (List.mem_cons_of_mem _ (List.mem_append_right _ h))) hKX
  refine lv_iload_n hx hb dX7_needDayOfAct_0 rfl (lv_at hl 1 rfl) ?_
  refine ox_callSv (n := 1) (As := [.int day]) (rest := []) (z2 := q) (k0 := (m_X7_needDay day)) ⟨hx, hb, hml, hown, hts⟩ (c_X7_needDay l hlt D b0 cA ad mq q day) gX7_needDayOfAct_X7_needDay rfl (by decide +kernel) rfl ⟨Nat.le_of_ble_eq_true rfl, Nat.le_of_ble_eq_true rfl⟩ ⟨Nat.le_of_ble_eq_true rfl, Nat.le_of_ble_eq_true rfl⟩ hK hW hS hKD hKX hz hl.1 rfl (Nat.le_of_ble_eq_true rfl) dX7_needDayOfAct_1 (fun hne H locs ce q9 hW hS h1 h2 h3 => ox_out hxt hlk hK (by rw [m_X7_needDayOfAct, if_neg hne]) hne hW hS h1 h2 h3 (Nat.le_of_ble_eq_true rfl) (Nat.le_of_ble_eq_true rfl)) (fun c_1 H locs hW hS => ?_)
  refine lv_iload_n hx hb dX7_needDayOfAct_4 rfl (lv_at hl 1 rfl) ?_
  refine lv_aload_n hx hb dX7_needDayOfAct_5 rfl (lv_at hl 0 rfl) ?_
  refine ow_get (v2 := .int (q.1 0 0 9)) (ci := 6) (C := RX7) (T := TX7) (N := 11) hx hb hts hin_X7 hown hK hW 0 0 (PO_k0) rfl 9 (by decide) (List.mem_of_getElem? (i := 3) rfl) rfl rfl rfl dX7_needDayOfAct_6 ?_
  refine lv_icmp_ge (tgt := 23) hx hb dX7_needDayOfAct_9 (by decide) (fun c_2 => ?_) (fun c_2 => ?_)
  · exact ox_vret hx hb hr hlk hK hW hS (Nat.le_of_ble_eq_true rfl) (Nat.le_of_ble_eq_true rfl) (by rw [m_X7_needDayOfAct, if_pos c_1, if_pos c_2]) dX7_needDayOfAct_23
  · exact ox_throwW (cls := "java/lang/IllegalArgumentException") (text := "a day before that of the office") hx hb hlt hown (hts _ (List.mem_of_getElem? (i := 1) rfl)) (hts _ (List.mem_of_getElem? (i := 2) rfl)) hat_2 (by decide +kernel) (by decide +kernel) hK hW hS hKX (by decide +kernel) (hl.1.trans hml.symm) hxt (by rw [m_X7_needDayOfAct, if_pos c_1, if_neg c_2]; exact ⟨rfl, show ¬ (2 : Int32) = 0 by decide⟩) (Nat.le_of_ble_eq_true rfl) (Nat.le_of_ble_eq_true rfl) (Nat.le_of_ble_eq_true rfl) (Nat.le_of_ble_eq_true rfl) hlk (Nat.le_of_ble_eq_true rfl) (Nat.le_of_ble_eq_true rfl) dX7_needDayOfAct_12 dX7_needDayOfAct_15 dX7_needDayOfAct_16 dX7_needDayOfAct_19 dX7_needDayOfAct_22

def m_X7_needRight (q : qC) (o : Int32) (right : Int32) : Int32 := (if ((q.1 1 0 (Int32.toNatClampNeg o)) &&& right) = 0 then 3 else 0)
set_option maxHeartbeats 4000000 in
set_option maxRecDepth 100000 in
theorem c_X7_needRight (l : Launch) (hlt : l.stackTraces = false) (D : va_G) (b0 : Nat) (cA : Nat → ClassId) (ad : Nat → Nat → Nat) (mq : qM) (q : qC) (o : Int32) (right : Int32) (ho : 0 ≤ (o : Int32).toInt ∧ (o : Int32).toInt ≤ 7) : xc_v l yX7_needRight wsX7_needRight 6 90 1 6 D b0 cA ad mq q [.ref (ad 0 0), .int o, .int right] ((m_X7_needRight q o right), q) := by
  refine xc_of (by decide) rfl (Nat.le_of_ble_eq_true rfl) ?_
  intro p e s m below meth c hx hb hml hr hlk hown hts hK hW hKD hKX hz hxt ls hl
  have hown : s.vm.findClass RX7 = some m.cls := hown
  have hS : va_S (wA b0) s.heap s.heap [] := va_S.rf
  have hl : lv_has ls 3 [(0, .ref (ad 0 0)), (1, .int o), (2, .int right)] := hl
  have hin_X7 : ∀ w ∈ wsX70, w ∈ wsX7_needRight := fun w h => List.mem_cons_of_mem _ (List.mem_append_left _ (List.mem_append_right _ h))
  have hat_3 := xat_3 (fun w h => hts w (List.mem_cons_of_mem _ (List.mem_append_right _ h))) hKX
  refine lv_aload_n hx hb dX7_needRight_0 rfl (lv_at hl 0 rfl) ?_
  refine ow_get (v2 := .ref (ad 1 0)) (ci := 6) (C := RX7) (T := TX7) (N := 11) hx hb hts hin_X7 hown hK hW 0 0 (PO_k0) rfl 0 (by decide) (List.mem_of_getElem? (i := 3) rfl) rfl rfl rfl dX7_needRight_1 ?_
  refine lv_iload_n hx hb dX7_needRight_4 rfl (lv_at hl 1 rfl) ?_
  have b_1 : vp_in o 8 := by
    have u_1 := rg_e o
    have w_2 := ho
    exact vp_in_iff.mpr (by omega)
  refine ow_iald (v := (q.1 1 0 (Int32.toNatClampNeg o))) hx hb hK hW 1 0 (PO_k1) b_1 (rfl) dX7_needRight_5 ?_
  refine lv_iload_n hx hb dX7_needRight_6 rfl (lv_at hl 2 rfl) ?_
  refine lv_iand hx hb dX7_needRight_7 ?_
  refine lv_if_ne (tgt := 22) hx hb dX7_needRight_8 (by decide) (fun c_2 => ?_) (fun c_2 => ?_)
  · exact ox_vret hx hb hr hlk hK hW hS (Nat.le_of_ble_eq_true rfl) (Nat.le_of_ble_eq_true rfl) (by rw [m_X7_needRight, if_neg c_2]) dX7_needRight_22
  · exact ox_throwW (cls := "java/lang/IllegalStateException") (text := "the officer has not the right") hx hb hlt hown (hts _ (List.mem_of_getElem? (i := 1) rfl)) (hts _ (List.mem_of_getElem? (i := 2) rfl)) hat_3 (by decide +kernel) (by decide +kernel) hK hW hS hKX (by decide +kernel) (hl.1.trans hml.symm) hxt (by rw [m_X7_needRight, if_pos c_2]; exact ⟨rfl, show ¬ (3 : Int32) = 0 by decide⟩) (Nat.le_of_ble_eq_true rfl) (Nat.le_of_ble_eq_true rfl) (Nat.le_of_ble_eq_true rfl) (Nat.le_of_ble_eq_true rfl) hlk (Nat.le_of_ble_eq_true rfl) (Nat.le_of_ble_eq_true rfl) dX7_needRight_11 dX7_needRight_14 dX7_needRight_15 dX7_needRight_18 dX7_needRight_21

def m_X7_needOpen (q : qC) (li : Nat) : Int32 := (if (q.1 17 li 3) = 0 then 3 else 0)
set_option maxHeartbeats 4000000 in
set_option maxRecDepth 100000 in
theorem c_X7_needOpen (l : Launch) (hlt : l.stackTraces = false) (D : va_G) (b0 : Nat) (cA : Nat → ClassId) (ad : Nat → Nat → Nat) (mq : qM) (q : qC) (li : Nat) (hpl : ¬ q.1 6 0 li = 0) : xc_v l yX7_needOpen wsX7_needOpen 6 90 1 6 D b0 cA ad mq q [.ref (ad 17 li)] ((m_X7_needOpen q li), q) := by
  refine xc_of (by decide) rfl (Nat.le_of_ble_eq_true rfl) ?_
  intro p e s m below meth c hx hb hml hr hlk hown hts hK hW hKD hKX hz hxt ls hl
  have hown : s.vm.findClass RX7 = some m.cls := hown
  have hS : va_S (wA b0) s.heap s.heap [] := va_S.rf
  have hl : lv_has ls 1 [(0, .ref (ad 17 li))] := hl
  have hin_X2 : ∀ w ∈ wsX20, w ∈ wsX7_needOpen := fun w h => List.mem_cons_of_mem _ (List.mem_append_left _ (List.mem_append_right _ h))
  have hat_3 := xat_3 (fun w h => hts w (List.mem_cons_of_mem _ (List.mem_append_right _ h))) hKX
  refine lv_aload_n hx hb dX7_needOpen_0 rfl (lv_at hl 0 rfl) ?_
  refine ow_get (v2 := .int (q.1 17 li 3)) (ci := 1) (C := RX2) (T := TX2) (N := 4) hx hb hts hin_X2 hown hK hW 17 li (PO_k17 hpl) rfl 3 (by decide) (List.mem_of_getElem? (i := 3) rfl) rfl rfl rfl dX7_needOpen_1 ?_
  refine lv_if_ne (tgt := 18) hx hb dX7_needOpen_4 (by decide) (fun c_1 => ?_) (fun c_1 => ?_)
  · exact ox_vret hx hb hr hlk hK hW hS (Nat.le_of_ble_eq_true rfl) (Nat.le_of_ble_eq_true rfl) (by rw [m_X7_needOpen, if_neg c_1]) dX7_needOpen_18
  · exact ox_throwW (cls := "java/lang/IllegalStateException") (text := "the list is not open") hx hb hlt hown (hts _ (List.mem_of_getElem? (i := 1) rfl)) (hts _ (List.mem_of_getElem? (i := 2) rfl)) hat_3 (by decide +kernel) (by decide +kernel) hK hW hS hKX (by decide +kernel) (hl.1.trans hml.symm) hxt (by rw [m_X7_needOpen, if_pos c_1]; exact ⟨rfl, show ¬ (3 : Int32) = 0 by decide⟩) (Nat.le_of_ble_eq_true rfl) (Nat.le_of_ble_eq_true rfl) (Nat.le_of_ble_eq_true rfl) (Nat.le_of_ble_eq_true rfl) hlk (Nat.le_of_ble_eq_true rfl) (Nat.le_of_ble_eq_true rfl) dX7_needOpen_7 dX7_needOpen_10 dX7_needOpen_11 dX7_needOpen_14 dX7_needOpen_17

def m_X7_folderAt (q : qC) (f : Int32) : Int32 := (if f < 0 then 1 else (if 16 ≤ f then 1 else (if (q.1 3 0 (Int32.toNatClampNeg f)) = 0 then 1 else 0)))
set_option maxHeartbeats 4000000 in
set_option maxRecDepth 100000 in
theorem c_X7_folderAt (l : Launch) (hlt : l.stackTraces = false) (D : va_G) (b0 : Nat) (cA : Nat → ClassId) (ad : Nat → Nat → Nat) (mq : qM) (q : qC) (f : Int32) : xc_r l yX7_folderAt wsX7_folderAt 6 90 1 6 D b0 cA ad mq q [.ref (ad 0 0), .int f] (ad 14 (Int32.toNatClampNeg f)) (m_X7_folderAt q f) := by
  refine xc_of (by decide) rfl (Nat.le_of_ble_eq_true rfl) ?_
  intro p e s m below meth c hx hb hml hr hlk hown hts hK hW hKD hKX hz hxt ls hl
  have hown : s.vm.findClass RX7 = some m.cls := hown
  have hS : va_S (wA b0) s.heap s.heap [] := va_S.rf
  have hl : lv_has ls 2 [(0, .ref (ad 0 0)), (1, .int f)] := hl
  have hin_X7 : ∀ w ∈ wsX70, w ∈ wsX7_folderAt := fun w h => List.mem_cons_of_mem _ (List.mem_append_left _ (List.mem_append_right _ h))
  have hat_1 := xat_1 (fun w h => hts w (List.mem_cons_of_mem _ (List.mem_append_right _ h))) hKX
  refine lv_iload_n hx hb dX7_folderAt_0 rfl (lv_at hl 1 rfl) ?_
  refine lv_if_lt (tgt := 19) hx hb dX7_folderAt_1 (by decide) (fun c_1 => ?_) (fun c_1 => ?_)
  · exact ox_throwS (cls := "java/lang/IndexOutOfBoundsException") (text := "no such folder") hx hb hlt hown (hts _ (List.mem_of_getElem? (i := 1) rfl)) (hts _ (List.mem_of_getElem? (i := 2) rfl)) hat_1 (by decide +kernel) (by decide +kernel) hK hW hS hKX (by decide +kernel) (hl.1.trans hml.symm) hxt (by rw [m_X7_folderAt, if_pos c_1]; exact ⟨rfl, show ¬ (1 : Int32) = 0 by decide⟩) (Nat.le_of_ble_eq_true rfl) (Nat.le_of_ble_eq_true rfl) (Nat.le_of_ble_eq_true rfl) (Nat.le_of_ble_eq_true rfl) hlk (Nat.le_of_ble_eq_true rfl) (Nat.le_of_ble_eq_true rfl) dX7_folderAt_19 dX7_folderAt_22 dX7_folderAt_23 dX7_folderAt_25 dX7_folderAt_28
  · refine lv_iload_n hx hb dX7_folderAt_4 rfl (lv_at hl 1 rfl) ?_
    refine lv_bipush (v := 16) hx hb dX7_folderAt_5 (by decide) ?_
    refine lv_icmp_ge (tgt := 19) hx hb dX7_folderAt_7 (by decide) (fun c_2 => ?_) (fun c_2 => ?_)
    · exact ox_throwS (cls := "java/lang/IndexOutOfBoundsException") (text := "no such folder") hx hb hlt hown (hts _ (List.mem_of_getElem? (i := 1) rfl)) (hts _ (List.mem_of_getElem? (i := 2) rfl)) hat_1 (by decide +kernel) (by decide +kernel) hK hW hS hKX (by decide +kernel) (hl.1.trans hml.symm) hxt (by rw [m_X7_folderAt, if_neg c_1, if_pos c_2]; exact ⟨rfl, show ¬ (1 : Int32) = 0 by decide⟩) (Nat.le_of_ble_eq_true rfl) (Nat.le_of_ble_eq_true rfl) (Nat.le_of_ble_eq_true rfl) (Nat.le_of_ble_eq_true rfl) hlk (Nat.le_of_ble_eq_true rfl) (Nat.le_of_ble_eq_true rfl) dX7_folderAt_19 dX7_folderAt_22 dX7_folderAt_23 dX7_folderAt_25 dX7_folderAt_28
    · refine lv_aload_n hx hb dX7_folderAt_10 rfl (lv_at hl 0 rfl) ?_
      refine ow_get (v2 := .ref (ad 3 0)) (ci := 6) (C := RX7) (T := TX7) (N := 11) hx hb hts hin_X7 hown hK hW 0 0 (PO_k0) rfl 2 (by decide) (List.mem_of_getElem? (i := 3) rfl) rfl rfl rfl dX7_folderAt_11 ?_
      refine lv_iload_n hx hb dX7_folderAt_14 rfl (lv_at hl 1 rfl) ?_
      have b_3 : vp_in f 16 := by
        have u_1 := rg_e f
        have k_2 : (0 : Int32).toInt = 0 := rfl
        have v_3 := cv_nlt c_1
        have k_4 : (16 : Int32).toInt = 16 := rfl
        have v_5 := cv_nle c_2
        exact vp_in_iff.mpr (by omega)
      by_cases c_4 : (q.1 3 0 (Int32.toNatClampNeg f)) = 0
      · refine ow_aldn hx hb hK hW 3 0 (PO_k3) 4 rfl b_3 c_4 dX7_folderAt_15 ?_
        refine lv_ifnonnullN hx hb dX7_folderAt_16 ?_
        exact ox_throwS (cls := "java/lang/IndexOutOfBoundsException") (text := "no such folder") hx hb hlt hown (hts _ (List.mem_of_getElem? (i := 1) rfl)) (hts _ (List.mem_of_getElem? (i := 2) rfl)) hat_1 (by decide +kernel) (by decide +kernel) hK hW hS hKX (by decide +kernel) (hl.1.trans hml.symm) hxt (by rw [m_X7_folderAt, if_neg c_1, if_neg c_2, if_pos c_4]; exact ⟨rfl, show ¬ (1 : Int32) = 0 by decide⟩) (Nat.le_of_ble_eq_true rfl) (Nat.le_of_ble_eq_true rfl) (Nat.le_of_ble_eq_true rfl) (Nat.le_of_ble_eq_true rfl) hlk (Nat.le_of_ble_eq_true rfl) (Nat.le_of_ble_eq_true rfl) dX7_folderAt_19 dX7_folderAt_22 dX7_folderAt_23 dX7_folderAt_25 dX7_folderAt_28
      · refine ow_aldp hx hb hK hW 3 0 (PO_k3) 4 rfl b_3 c_4 dX7_folderAt_15 ?_
        refine lv_ifnonnull (tgt := 29) hx hb dX7_folderAt_16 (by decide) ?_
        refine lv_aload_n hx hb dX7_folderAt_29 rfl (lv_at hl 0 rfl) ?_
        refine ow_get (v2 := .ref (ad 3 0)) (ci := 6) (C := RX7) (T := TX7) (N := 11) hx hb hts hin_X7 hown hK hW 0 0 (PO_k0) rfl 2 (by decide) (List.mem_of_getElem? (i := 3) rfl) rfl rfl rfl dX7_folderAt_30 ?_
        refine lv_iload_n hx hb dX7_folderAt_33 rfl (lv_at hl 1 rfl) ?_
        have b_5 : vp_in f 16 := by
          have u_1 := rg_e f
          have k_2 : (0 : Int32).toInt = 0 := rfl
          have v_3 := cv_nlt c_1
          have k_4 : (16 : Int32).toInt = 16 := rfl
          have v_5 := cv_nle c_2
          exact vp_in_iff.mpr (by omega)
        refine ow_aldp hx hb hK hW 3 0 (PO_k3) 4 rfl b_5 c_4 dX7_folderAt_34 ?_
        exact ox_aret hx hb hr hlk hK hW hS (Nat.le_of_ble_eq_true rfl) (Nat.le_of_ble_eq_true rfl) (by rw [m_X7_folderAt, if_neg c_1, if_neg c_2, if_neg c_4]) dX7_folderAt_35

def m_X7_recordAt (q : qC) (r : Int32) : Int32 := (if r < 0 then 1 else (if r < (q.1 0 0 7) then 0 else 1))
set_option maxHeartbeats 4000000 in
set_option maxRecDepth 100000 in
theorem c_X7_recordAt (l : Launch) (hlt : l.stackTraces = false) (D : va_G) (b0 : Nat) (cA : Nat → ClassId) (ad : Nat → Nat → Nat) (mq : qM) (q : qC) (r : Int32) (hI : cI q) : xc_r l yX7_recordAt wsX7_recordAt 6 90 1 6 D b0 cA ad mq q [.ref (ad 0 0), .int r] (ad 16 (Int32.toNatClampNeg r)) (m_X7_recordAt q r) := by
  refine xc_of (by decide) rfl (Nat.le_of_ble_eq_true rfl) ?_
  intro p e s m below meth c hx hb hml hr hlk hown hts hK hW hKD hKX hz hxt ls hl
  have hown : s.vm.findClass RX7 = some m.cls := hown
  have hS : va_S (wA b0) s.heap s.heap [] := va_S.rf
  have hl : lv_has ls 2 [(0, .ref (ad 0 0)), (1, .int r)] := hl
  have hin_X7 : ∀ w ∈ wsX70, w ∈ wsX7_recordAt := fun w h => List.mem_cons_of_mem _ (List.mem_append_left _ (List.mem_append_right _ h))
  have hat_1 := xat_1 (fun w h => hts w (List.mem_cons_of_mem _ (List.mem_append_right _ h))) hKX
  refine lv_iload_n hx hb dX7_recordAt_0 rfl (lv_at hl 1 rfl) ?_
  refine lv_if_lt (tgt := 12) hx hb dX7_recordAt_1 (by decide) (fun c_1 => ?_) (fun c_1 => ?_)
  · exact ox_throwW (cls := "java/lang/IndexOutOfBoundsException") (text := "no such record") hx hb hlt hown (hts _ (List.mem_of_getElem? (i := 1) rfl)) (hts _ (List.mem_of_getElem? (i := 2) rfl)) hat_1 (by decide +kernel) (by decide +kernel) hK hW hS hKX (by decide +kernel) (hl.1.trans hml.symm) hxt (by rw [m_X7_recordAt, if_pos c_1]; exact ⟨rfl, show ¬ (1 : Int32) = 0 by decide⟩) (Nat.le_of_ble_eq_true rfl) (Nat.le_of_ble_eq_true rfl) (Nat.le_of_ble_eq_true rfl) (Nat.le_of_ble_eq_true rfl) hlk (Nat.le_of_ble_eq_true rfl) (Nat.le_of_ble_eq_true rfl) dX7_recordAt_12 dX7_recordAt_15 dX7_recordAt_16 dX7_recordAt_19 dX7_recordAt_22
  · refine lv_iload_n hx hb dX7_recordAt_4 rfl (lv_at hl 1 rfl) ?_
    refine lv_aload_n hx hb dX7_recordAt_5 rfl (lv_at hl 0 rfl) ?_
    refine ow_get (v2 := .int (q.1 0 0 7)) (ci := 6) (C := RX7) (T := TX7) (N := 11) hx hb hts hin_X7 hown hK hW 0 0 (PO_k0) rfl 7 (by decide) (List.mem_of_getElem? (i := 3) rfl) rfl rfl rfl dX7_recordAt_6 ?_
    refine lv_icmp_lt (tgt := 23) hx hb dX7_recordAt_9 (by decide) (fun c_2 => ?_) (fun c_2 => ?_)
    · refine lv_aload_n hx hb dX7_recordAt_23 rfl (lv_at hl 0 rfl) ?_
      refine ow_get (v2 := .ref (ad 5 0)) (ci := 6) (C := RX7) (T := TX7) (N := 11) hx hb hts hin_X7 hown hK hW 0 0 (PO_k0) rfl 4 (by decide) (List.mem_of_getElem? (i := 4) rfl) rfl rfl rfl dX7_recordAt_24 ?_
      refine lv_iload_n hx hb dX7_recordAt_27 rfl (lv_at hl 1 rfl) ?_
      have b_3 : vp_in r 64 := by
        have u_1 := rg_e r
        have k_2 : (0 : Int32).toInt = 0 := rfl
        have v_3 := cv_nlt c_1
        have u_4 := rg_e (q.1 0 0 7)
        have v_5 := cv_lt c_2
        have w_6 := hI.2.2.2.2.2.1
        exact vp_in_iff.mpr (by omega)
      refine ow_aldp hx hb hK hW 5 0 (PO_k5) 6 rfl b_3 (cI_rec hI (cv_nlt c_1) (cv_lt c_2)) dX7_recordAt_28 ?_
      exact ox_aret hx hb hr hlk hK hW hS (Nat.le_of_ble_eq_true rfl) (Nat.le_of_ble_eq_true rfl) (by rw [m_X7_recordAt, if_neg c_1, if_pos c_2]) dX7_recordAt_29
    · exact ox_throwW (cls := "java/lang/IndexOutOfBoundsException") (text := "no such record") hx hb hlt hown (hts _ (List.mem_of_getElem? (i := 1) rfl)) (hts _ (List.mem_of_getElem? (i := 2) rfl)) hat_1 (by decide +kernel) (by decide +kernel) hK hW hS hKX (by decide +kernel) (hl.1.trans hml.symm) hxt (by rw [m_X7_recordAt, if_neg c_1, if_neg c_2]; exact ⟨rfl, show ¬ (1 : Int32) = 0 by decide⟩) (Nat.le_of_ble_eq_true rfl) (Nat.le_of_ble_eq_true rfl) (Nat.le_of_ble_eq_true rfl) (Nat.le_of_ble_eq_true rfl) hlk (Nat.le_of_ble_eq_true rfl) (Nat.le_of_ble_eq_true rfl) dX7_recordAt_12 dX7_recordAt_15 dX7_recordAt_16 dX7_recordAt_19 dX7_recordAt_22

def m_X7_listAt (q : qC) (li : Int32) : Int32 := (if li < 0 then 1 else (if li < (q.1 0 0 8) then 0 else 1))
set_option maxHeartbeats 4000000 in
set_option maxRecDepth 100000 in
theorem c_X7_listAt (l : Launch) (hlt : l.stackTraces = false) (D : va_G) (b0 : Nat) (cA : Nat → ClassId) (ad : Nat → Nat → Nat) (mq : qM) (q : qC) (li : Int32) (hI : cI q) : xc_r l yX7_listAt wsX7_listAt 6 90 1 6 D b0 cA ad mq q [.ref (ad 0 0), .int li] (ad 17 (Int32.toNatClampNeg li)) (m_X7_listAt q li) := by
  refine xc_of (by decide) rfl (Nat.le_of_ble_eq_true rfl) ?_
  intro p e s m below meth c hx hb hml hr hlk hown hts hK hW hKD hKX hz hxt ls hl
  have hown : s.vm.findClass RX7 = some m.cls := hown
  have hS : va_S (wA b0) s.heap s.heap [] := va_S.rf
  have hl : lv_has ls 2 [(0, .ref (ad 0 0)), (1, .int li)] := hl
  have hin_X7 : ∀ w ∈ wsX70, w ∈ wsX7_listAt := fun w h => List.mem_cons_of_mem _ (List.mem_append_left _ (List.mem_append_right _ h))
  have hat_1 := xat_1 (fun w h => hts w (List.mem_cons_of_mem _ (List.mem_append_right _ h))) hKX
  refine lv_iload_n hx hb dX7_listAt_0 rfl (lv_at hl 1 rfl) ?_
  refine lv_if_lt (tgt := 12) hx hb dX7_listAt_1 (by decide) (fun c_1 => ?_) (fun c_1 => ?_)
  · exact ox_throwW (cls := "java/lang/IndexOutOfBoundsException") (text := "no such list") hx hb hlt hown (hts _ (List.mem_of_getElem? (i := 1) rfl)) (hts _ (List.mem_of_getElem? (i := 2) rfl)) hat_1 (by decide +kernel) (by decide +kernel) hK hW hS hKX (by decide +kernel) (hl.1.trans hml.symm) hxt (by rw [m_X7_listAt, if_pos c_1]; exact ⟨rfl, show ¬ (1 : Int32) = 0 by decide⟩) (Nat.le_of_ble_eq_true rfl) (Nat.le_of_ble_eq_true rfl) (Nat.le_of_ble_eq_true rfl) (Nat.le_of_ble_eq_true rfl) hlk (Nat.le_of_ble_eq_true rfl) (Nat.le_of_ble_eq_true rfl) dX7_listAt_12 dX7_listAt_15 dX7_listAt_16 dX7_listAt_19 dX7_listAt_22
  · refine lv_iload_n hx hb dX7_listAt_4 rfl (lv_at hl 1 rfl) ?_
    refine lv_aload_n hx hb dX7_listAt_5 rfl (lv_at hl 0 rfl) ?_
    refine ow_get (v2 := .int (q.1 0 0 8)) (ci := 6) (C := RX7) (T := TX7) (N := 11) hx hb hts hin_X7 hown hK hW 0 0 (PO_k0) rfl 8 (by decide) (List.mem_of_getElem? (i := 3) rfl) rfl rfl rfl dX7_listAt_6 ?_
    refine lv_icmp_lt (tgt := 23) hx hb dX7_listAt_9 (by decide) (fun c_2 => ?_) (fun c_2 => ?_)
    · refine lv_aload_n hx hb dX7_listAt_23 rfl (lv_at hl 0 rfl) ?_
      refine ow_get (v2 := .ref (ad 6 0)) (ci := 6) (C := RX7) (T := TX7) (N := 11) hx hb hts hin_X7 hown hK hW 0 0 (PO_k0) rfl 5 (by decide) (List.mem_of_getElem? (i := 4) rfl) rfl rfl rfl dX7_listAt_24 ?_
      refine lv_iload_n hx hb dX7_listAt_27 rfl (lv_at hl 1 rfl) ?_
      have b_3 : vp_in li 16 := by
        have u_1 := rg_e li
        have k_2 : (0 : Int32).toInt = 0 := rfl
        have v_3 := cv_nlt c_1
        have u_4 := rg_e (q.1 0 0 8)
        have v_5 := cv_lt c_2
        have w_6 := hI.2.2.2.2.2.2.2.2.2.2.2.1
        exact vp_in_iff.mpr (by omega)
      refine ow_aldp hx hb hK hW 6 0 (PO_k6) 7 rfl b_3 (cI_lis hI (cv_nlt c_1) (cv_lt c_2)) dX7_listAt_28 ?_
      exact ox_aret hx hb hr hlk hK hW hS (Nat.le_of_ble_eq_true rfl) (Nat.le_of_ble_eq_true rfl) (by rw [m_X7_listAt, if_neg c_1, if_pos c_2]) dX7_listAt_29
    · exact ox_throwW (cls := "java/lang/IndexOutOfBoundsException") (text := "no such list") hx hb hlt hown (hts _ (List.mem_of_getElem? (i := 1) rfl)) (hts _ (List.mem_of_getElem? (i := 2) rfl)) hat_1 (by decide +kernel) (by decide +kernel) hK hW hS hKX (by decide +kernel) (hl.1.trans hml.symm) hxt (by rw [m_X7_listAt, if_neg c_1, if_neg c_2]; exact ⟨rfl, show ¬ (1 : Int32) = 0 by decide⟩) (Nat.le_of_ble_eq_true rfl) (Nat.le_of_ble_eq_true rfl) (Nat.le_of_ble_eq_true rfl) (Nat.le_of_ble_eq_true rfl) hlk (Nat.le_of_ble_eq_true rfl) (Nat.le_of_ble_eq_true rfl) dX7_listAt_12 dX7_listAt_15 dX7_listAt_16 dX7_listAt_19 dX7_listAt_22
