def m_X8_file (q : qM) (f : Int32) (size : Int32) (digest : Int64) (ka : Int32) (kb : Int32) (kc : Int32) (day : Int32) : Int32 × qM := (if (m_X8_isIn ka (-1) 99) = 0 then (if (m_X8_noFolder q f) = 0 then (0, (mq_i q 0 0 2)) else (0, (mq_i q 0 0 1))) else (if (m_X8_isIn kb (-1) 99) = 0 then (if (m_X8_noFolder q f) = 0 then (0, (mq_i q 0 0 2)) else (0, (mq_i q 0 0 1))) else (if (m_X8_isIn kc (-1) 99) = 0 then (if (m_X8_noFolder q f) = 0 then (0, (mq_i q 0 0 2)) else (0, (mq_i q 0 0 1))) else (if (m_X8_isIn size 1 65536) = 0 then (if (m_X8_noFolder q f) = 0 then (0, (mq_i q 0 0 2)) else (0, (mq_i q 0 0 1))) else (if (m_X8_isDay q day) = 0 then (if (m_X8_noFolder q f) = 0 then (0, (mq_i q 0 0 2)) else (0, (mq_i q 0 0 1))) else (if (m_X8_noFolder q f) = 0 then (if (q.1 10 (Int32.toNatClampNeg f)) = (-1) then (if (q.1 12 0) = 64 then (0, (mq_i q 0 0 3)) else (if (m_X8_hasRoom q 1) = 0 then (0, (mq_i q 0 0 3)) else ((q.1 12 0), (m_X8_write (mq_i (mq_i (mq_i (mq_i (mq_i (mq_l (mq_i (mq_i (mq_i (mq_i q 0 0 0) 13 (Int32.toNatClampNeg (q.1 12 0)) f) 14 (Int32.toNatClampNeg (q.1 12 0)) day) 15 (Int32.toNatClampNeg (q.1 12 0)) size) 16 (Int32.toNatClampNeg (q.1 12 0)) digest) 17 (Int32.toNatClampNeg (3 * (q.1 12 0))) ka) 17 (Int32.toNatClampNeg ((3 * (q.1 12 0)) + 1)) kb) 17 (Int32.toNatClampNeg ((3 * (q.1 12 0)) + 2)) kc) 12 0 ((q.1 12 0) + 1)) 3 0 day) 5 (q.1 12 0) f day)))) else (0, (mq_i q 0 0 3))) else (0, (mq_i q 0 0 1))))))))
set_option maxHeartbeats 4000000 in
set_option maxRecDepth 100000 in
theorem c_X8_file (l : Launch) (D : va_G) (b0 : Nat) (Pc : Nat → Nat → Option va_E) (cA : Nat → ClassId) (ad : Nat → Nat → Nat) (q : qM) (f : Int32) (size : Int32) (digest : Int64) (ka : Int32) (kb : Int32) (kc : Int32) (day : Int32) (hI : gI q) (hL : lI q) : mc_i l yX8_file wsX8_file 3 74 D b0 Pc cA ad q [.ref (ad 20 0), .int f, .int size, .long digest, .int ka, .int kb, .int kc, .int day] (m_X8_file q f size digest ka kb kc day) := by
  refine mc_of (by decide) rfl (Nat.le_of_ble_eq_true rfl) ?_
  intro p e s m below meth c hx hb hml hr hlk hown hts hK hW ls hl
  have hown : s.vm.findClass RX8 = some m.cls := hown
  have hS : va_S (wA b0) s.heap s.heap [] := va_S.rf
  have hl : lv_has ls 11 [(0, .ref (ad 20 0)), (1, .int f), (2, .int size), (3, .long digest), (5, .int ka), (6, .int kb), (7, .int kc), (8, .int day)] := hl
  have hin : ∀ w ∈ wsX80, w ∈ wsX8_file := fun w h => List.mem_cons_of_mem _ (List.mem_append_right _ h)
  refine lv_iload hx hb dX8_file_0 (lv_at hl 4 rfl) ?_
  refine lv_iconst (v := (-1)) hx hb dX8_file_2 (by decide) ?_
  refine lv_bipush (v := 99) hx hb dX8_file_3 (by decide) ?_
  refine mm_callSi (n := 3) (As := [.int ka, .int (-1), .int 99]) (rest := []) (r := (m_X8_isIn ka (-1) 99)) (q2 := q) ⟨hx, hb, hml, hown, hts⟩ (c_X8_isIn l D b0 Pc cA ad q ka (-1) 99) gX8_file_X8_isIn rfl (by decide +kernel) rfl ⟨Nat.le_of_ble_eq_true rfl, Nat.le_of_ble_eq_true rfl⟩ ⟨Nat.le_of_ble_eq_true rfl, Nat.le_of_ble_eq_true rfl⟩ hK hW hS hl.1 rfl (Nat.le_of_ble_eq_true rfl) dX8_file_5 (fun H locs hW hS => ?_)
  refine lv_if_eq (tgt := 56) hx hb dX8_file_8 (by decide) (fun c_1 => ?_) (fun c_1 => ?_)
  · refine lv_iconst (v := 0) hx hb dX8_file_56 (by decide) ?_
    refine lv_istore (lv' := [(9, .int 0), (0, .ref (ad 20 0)), (1, .int f), (2, .int size), (3, .long digest), (5, .int ka), (6, .int kb), (7, .int kc), (8, .int day)]) hx hb dX8_file_57 hl (by decide) rfl (fun ls hl => ?_)
    refine lv_aload_n hx hb dX8_file_59 rfl (lv_at hl 1 rfl) ?_
    refine lv_aload_n hx hb dX8_file_60 rfl (lv_at hl 1 rfl) ?_
    refine lv_iload_n hx hb dX8_file_61 rfl (lv_at hl 2 rfl) ?_
    refine mm_callVi (n := 1) (As := [.int f]) (rest := [.ref (ad 20 0)]) (r := (m_X8_noFolder q f)) (q2 := q) ⟨hx, hb, hml, hown, hts⟩ (c_X8_noFolder l D b0 Pc cA ad q f) gX8_file_X8_noFolder rfl (by decide +kernel) rfl ⟨Nat.le_of_ble_eq_true rfl, Nat.le_of_ble_eq_true rfl⟩ ⟨Nat.le_of_ble_eq_true rfl, Nat.le_of_ble_eq_true rfl⟩ hK hW hS hl.1 rfl (Nat.le_of_ble_eq_true rfl) dX8_file_62 (fun H locs hW hS => ?_)
    refine lv_if_eq (tgt := 72) hx hb dX8_file_65 (by decide) (fun c_2 => ?_) (fun c_2 => ?_)
    · refine lv_iload hx hb dX8_file_72 (lv_at hl 0 rfl) ?_
      refine lv_if_ne (tgt := 81) hx hb dX8_file_74 (by decide) (fun h => absurd h (by decide)) (fun _ => ?_)
      refine lv_iconst (v := 2) hx hb dX8_file_77 (by decide) ?_
      refine lv_goto (tgt := 113) hx hb dX8_file_78 (by decide) ?_
      refine mm_put hx hb hts hin hown hK hW hS 0 (by decide) (List.mem_of_getElem? (i := 4) rfl) rfl rfl (by decide +kernel) rfl (ws_0 ad _ _) dX8_file_113 (fun H locs hW hS => ?_)
      refine lv_aload_n hx hb dX8_file_116 rfl (lv_at hl 1 rfl) ?_
      refine mm_gets (v := 2) hx hb hts hin hown hK hW 0 (by decide) (List.mem_of_getElem? (i := 4) rfl) rfl rfl (mq_same q 0 0 2) dX8_file_117 ?_
      refine lv_if_le (tgt := 125) hx hb dX8_file_120 (by decide) (fun h => absurd h (by decide)) (fun _ => ?_)
      refine lv_iconst (v := 0) hx hb dX8_file_123 (by decide) ?_
      exact mm_iret hx hb hr hlk hK hW hS (by rw [m_X8_file, if_pos c_1, if_pos c_2]) dX8_file_124
    · refine lv_iconst (v := 1) hx hb dX8_file_68 (by decide) ?_
      refine lv_goto (tgt := 113) hx hb dX8_file_69 (by decide) ?_
      refine mm_put hx hb hts hin hown hK hW hS 0 (by decide) (List.mem_of_getElem? (i := 4) rfl) rfl rfl (by decide +kernel) rfl (ws_0 ad _ _) dX8_file_113 (fun H locs hW hS => ?_)
      refine lv_aload_n hx hb dX8_file_116 rfl (lv_at hl 1 rfl) ?_
      refine mm_gets (v := 1) hx hb hts hin hown hK hW 0 (by decide) (List.mem_of_getElem? (i := 4) rfl) rfl rfl (mq_same q 0 0 1) dX8_file_117 ?_
      refine lv_if_le (tgt := 125) hx hb dX8_file_120 (by decide) (fun h => absurd h (by decide)) (fun _ => ?_)
      refine lv_iconst (v := 0) hx hb dX8_file_123 (by decide) ?_
      exact mm_iret hx hb hr hlk hK hW hS (by rw [m_X8_file, if_pos c_1, if_neg c_2]) dX8_file_124
  · refine lv_iload hx hb dX8_file_11 (lv_at hl 5 rfl) ?_
    refine lv_iconst (v := (-1)) hx hb dX8_file_13 (by decide) ?_
    refine lv_bipush (v := 99) hx hb dX8_file_14 (by decide) ?_
    refine mm_callSi (n := 3) (As := [.int kb, .int (-1), .int 99]) (rest := []) (r := (m_X8_isIn kb (-1) 99)) (q2 := q) ⟨hx, hb, hml, hown, hts⟩ (c_X8_isIn l D b0 Pc cA ad q kb (-1) 99) gX8_file_X8_isIn rfl (by decide +kernel) rfl ⟨Nat.le_of_ble_eq_true rfl, Nat.le_of_ble_eq_true rfl⟩ ⟨Nat.le_of_ble_eq_true rfl, Nat.le_of_ble_eq_true rfl⟩ hK hW hS hl.1 rfl (Nat.le_of_ble_eq_true rfl) dX8_file_16 (fun H locs hW hS => ?_)
    refine lv_if_eq (tgt := 56) hx hb dX8_file_19 (by decide) (fun c_3 => ?_) (fun c_3 => ?_)
    · refine lv_iconst (v := 0) hx hb dX8_file_56 (by decide) ?_
      refine lv_istore (lv' := [(9, .int 0), (0, .ref (ad 20 0)), (1, .int f), (2, .int size), (3, .long digest), (5, .int ka), (6, .int kb), (7, .int kc), (8, .int day)]) hx hb dX8_file_57 hl (by decide) rfl (fun ls hl => ?_)
      refine lv_aload_n hx hb dX8_file_59 rfl (lv_at hl 1 rfl) ?_
      refine lv_aload_n hx hb dX8_file_60 rfl (lv_at hl 1 rfl) ?_
      refine lv_iload_n hx hb dX8_file_61 rfl (lv_at hl 2 rfl) ?_
      refine mm_callVi (n := 1) (As := [.int f]) (rest := [.ref (ad 20 0)]) (r := (m_X8_noFolder q f)) (q2 := q) ⟨hx, hb, hml, hown, hts⟩ (c_X8_noFolder l D b0 Pc cA ad q f) gX8_file_X8_noFolder rfl (by decide +kernel) rfl ⟨Nat.le_of_ble_eq_true rfl, Nat.le_of_ble_eq_true rfl⟩ ⟨Nat.le_of_ble_eq_true rfl, Nat.le_of_ble_eq_true rfl⟩ hK hW hS hl.1 rfl (Nat.le_of_ble_eq_true rfl) dX8_file_62 (fun H locs hW hS => ?_)
      refine lv_if_eq (tgt := 72) hx hb dX8_file_65 (by decide) (fun c_4 => ?_) (fun c_4 => ?_)
      · refine lv_iload hx hb dX8_file_72 (lv_at hl 0 rfl) ?_
        refine lv_if_ne (tgt := 81) hx hb dX8_file_74 (by decide) (fun h => absurd h (by decide)) (fun _ => ?_)
        refine lv_iconst (v := 2) hx hb dX8_file_77 (by decide) ?_
        refine lv_goto (tgt := 113) hx hb dX8_file_78 (by decide) ?_
        refine mm_put hx hb hts hin hown hK hW hS 0 (by decide) (List.mem_of_getElem? (i := 4) rfl) rfl rfl (by decide +kernel) rfl (ws_0 ad _ _) dX8_file_113 (fun H locs hW hS => ?_)
        refine lv_aload_n hx hb dX8_file_116 rfl (lv_at hl 1 rfl) ?_
        refine mm_gets (v := 2) hx hb hts hin hown hK hW 0 (by decide) (List.mem_of_getElem? (i := 4) rfl) rfl rfl (mq_same q 0 0 2) dX8_file_117 ?_
        refine lv_if_le (tgt := 125) hx hb dX8_file_120 (by decide) (fun h => absurd h (by decide)) (fun _ => ?_)
        refine lv_iconst (v := 0) hx hb dX8_file_123 (by decide) ?_
        exact mm_iret hx hb hr hlk hK hW hS (by rw [m_X8_file, if_neg c_1, if_pos c_3, if_pos c_4]) dX8_file_124
      · refine lv_iconst (v := 1) hx hb dX8_file_68 (by decide) ?_
        refine lv_goto (tgt := 113) hx hb dX8_file_69 (by decide) ?_
        refine mm_put hx hb hts hin hown hK hW hS 0 (by decide) (List.mem_of_getElem? (i := 4) rfl) rfl rfl (by decide +kernel) rfl (ws_0 ad _ _) dX8_file_113 (fun H locs hW hS => ?_)
        refine lv_aload_n hx hb dX8_file_116 rfl (lv_at hl 1 rfl) ?_
        refine mm_gets (v := 1) hx hb hts hin hown hK hW 0 (by decide) (List.mem_of_getElem? (i := 4) rfl) rfl rfl (mq_same q 0 0 1) dX8_file_117 ?_
        refine lv_if_le (tgt := 125) hx hb dX8_file_120 (by decide) (fun h => absurd h (by decide)) (fun _ => ?_)
        refine lv_iconst (v := 0) hx hb dX8_file_123 (by decide) ?_
        exact mm_iret hx hb hr hlk hK hW hS (by rw [m_X8_file, if_neg c_1, if_pos c_3, if_neg c_4]) dX8_file_124
    · refine lv_iload hx hb dX8_file_22 (lv_at hl 6 rfl) ?_
      refine lv_iconst (v := (-1)) hx hb dX8_file_24 (by decide) ?_
      refine lv_bipush (v := 99) hx hb dX8_file_25 (by decide) ?_
      refine mm_callSi (n := 3) (As := [.int kc, .int (-1), .int 99]) (rest := []) (r := (m_X8_isIn kc (-1) 99)) (q2 := q) ⟨hx, hb, hml, hown, hts⟩ (c_X8_isIn l D b0 Pc cA ad q kc (-1) 99) gX8_file_X8_isIn rfl (by decide +kernel) rfl ⟨Nat.le_of_ble_eq_true rfl, Nat.le_of_ble_eq_true rfl⟩ ⟨Nat.le_of_ble_eq_true rfl, Nat.le_of_ble_eq_true rfl⟩ hK hW hS hl.1 rfl (Nat.le_of_ble_eq_true rfl) dX8_file_27 (fun H locs hW hS => ?_)
      refine lv_if_eq (tgt := 56) hx hb dX8_file_30 (by decide) (fun c_5 => ?_) (fun c_5 => ?_)
      · refine lv_iconst (v := 0) hx hb dX8_file_56 (by decide) ?_
        refine lv_istore (lv' := [(9, .int 0), (0, .ref (ad 20 0)), (1, .int f), (2, .int size), (3, .long digest), (5, .int ka), (6, .int kb), (7, .int kc), (8, .int day)]) hx hb dX8_file_57 hl (by decide) rfl (fun ls hl => ?_)
        refine lv_aload_n hx hb dX8_file_59 rfl (lv_at hl 1 rfl) ?_
        refine lv_aload_n hx hb dX8_file_60 rfl (lv_at hl 1 rfl) ?_
        refine lv_iload_n hx hb dX8_file_61 rfl (lv_at hl 2 rfl) ?_
        refine mm_callVi (n := 1) (As := [.int f]) (rest := [.ref (ad 20 0)]) (r := (m_X8_noFolder q f)) (q2 := q) ⟨hx, hb, hml, hown, hts⟩ (c_X8_noFolder l D b0 Pc cA ad q f) gX8_file_X8_noFolder rfl (by decide +kernel) rfl ⟨Nat.le_of_ble_eq_true rfl, Nat.le_of_ble_eq_true rfl⟩ ⟨Nat.le_of_ble_eq_true rfl, Nat.le_of_ble_eq_true rfl⟩ hK hW hS hl.1 rfl (Nat.le_of_ble_eq_true rfl) dX8_file_62 (fun H locs hW hS => ?_)
        refine lv_if_eq (tgt := 72) hx hb dX8_file_65 (by decide) (fun c_6 => ?_) (fun c_6 => ?_)
        · refine lv_iload hx hb dX8_file_72 (lv_at hl 0 rfl) ?_
          refine lv_if_ne (tgt := 81) hx hb dX8_file_74 (by decide) (fun h => absurd h (by decide)) (fun _ => ?_)
          refine lv_iconst (v := 2) hx hb dX8_file_77 (by decide) ?_
          refine lv_goto (tgt := 113) hx hb dX8_file_78 (by decide) ?_
          refine mm_put hx hb hts hin hown hK hW hS 0 (by decide) (List.mem_of_getElem? (i := 4) rfl) rfl rfl (by decide +kernel) rfl (ws_0 ad _ _) dX8_file_113 (fun H locs hW hS => ?_)
          refine lv_aload_n hx hb dX8_file_116 rfl (lv_at hl 1 rfl) ?_
          refine mm_gets (v := 2) hx hb hts hin hown hK hW 0 (by decide) (List.mem_of_getElem? (i := 4) rfl) rfl rfl (mq_same q 0 0 2) dX8_file_117 ?_
          refine lv_if_le (tgt := 125) hx hb dX8_file_120 (by decide) (fun h => absurd h (by decide)) (fun _ => ?_)
          refine lv_iconst (v := 0) hx hb dX8_file_123 (by decide) ?_
          exact mm_iret hx hb hr hlk hK hW hS (by rw [m_X8_file, if_neg c_1, if_neg c_3, if_pos c_5, if_pos c_6]) dX8_file_124
        · refine lv_iconst (v := 1) hx hb dX8_file_68 (by decide) ?_
          refine lv_goto (tgt := 113) hx hb dX8_file_69 (by decide) ?_
          refine mm_put hx hb hts hin hown hK hW hS 0 (by decide) (List.mem_of_getElem? (i := 4) rfl) rfl rfl (by decide +kernel) rfl (ws_0 ad _ _) dX8_file_113 (fun H locs hW hS => ?_)
          refine lv_aload_n hx hb dX8_file_116 rfl (lv_at hl 1 rfl) ?_
          refine mm_gets (v := 1) hx hb hts hin hown hK hW 0 (by decide) (List.mem_of_getElem? (i := 4) rfl) rfl rfl (mq_same q 0 0 1) dX8_file_117 ?_
          refine lv_if_le (tgt := 125) hx hb dX8_file_120 (by decide) (fun h => absurd h (by decide)) (fun _ => ?_)
          refine lv_iconst (v := 0) hx hb dX8_file_123 (by decide) ?_
          exact mm_iret hx hb hr hlk hK hW hS (by rw [m_X8_file, if_neg c_1, if_neg c_3, if_pos c_5, if_neg c_6]) dX8_file_124
      · refine lv_iload_n hx hb dX8_file_33 rfl (lv_at hl 2 rfl) ?_
        refine lv_iconst (v := 1) hx hb dX8_file_34 (by decide) ?_
        refine lv_ldc (v := 65536) hx hb hown (hts _ (List.mem_of_getElem? (i := 1) rfl)) dX8_file_35 ?_
        refine mm_callSi (n := 3) (As := [.int size, .int 1, .int 65536]) (rest := []) (r := (m_X8_isIn size 1 65536)) (q2 := q) ⟨hx, hb, hml, hown, hts⟩ (c_X8_isIn l D b0 Pc cA ad q size 1 65536) gX8_file_X8_isIn rfl (by decide +kernel) rfl ⟨Nat.le_of_ble_eq_true rfl, Nat.le_of_ble_eq_true rfl⟩ ⟨Nat.le_of_ble_eq_true rfl, Nat.le_of_ble_eq_true rfl⟩ hK hW hS hl.1 rfl (Nat.le_of_ble_eq_true rfl) dX8_file_37 (fun H locs hW hS => ?_)
        refine lv_if_eq (tgt := 56) hx hb dX8_file_40 (by decide) (fun c_7 => ?_) (fun c_7 => ?_)
        · refine lv_iconst (v := 0) hx hb dX8_file_56 (by decide) ?_
          refine lv_istore (lv' := [(9, .int 0), (0, .ref (ad 20 0)), (1, .int f), (2, .int size), (3, .long digest), (5, .int ka), (6, .int kb), (7, .int kc), (8, .int day)]) hx hb dX8_file_57 hl (by decide) rfl (fun ls hl => ?_)
          refine lv_aload_n hx hb dX8_file_59 rfl (lv_at hl 1 rfl) ?_
          refine lv_aload_n hx hb dX8_file_60 rfl (lv_at hl 1 rfl) ?_
          refine lv_iload_n hx hb dX8_file_61 rfl (lv_at hl 2 rfl) ?_
          refine mm_callVi (n := 1) (As := [.int f]) (rest := [.ref (ad 20 0)]) (r := (m_X8_noFolder q f)) (q2 := q) ⟨hx, hb, hml, hown, hts⟩ (c_X8_noFolder l D b0 Pc cA ad q f) gX8_file_X8_noFolder rfl (by decide +kernel) rfl ⟨Nat.le_of_ble_eq_true rfl, Nat.le_of_ble_eq_true rfl⟩ ⟨Nat.le_of_ble_eq_true rfl, Nat.le_of_ble_eq_true rfl⟩ hK hW hS hl.1 rfl (Nat.le_of_ble_eq_true rfl) dX8_file_62 (fun H locs hW hS => ?_)
          refine lv_if_eq (tgt := 72) hx hb dX8_file_65 (by decide) (fun c_8 => ?_) (fun c_8 => ?_)
          · refine lv_iload hx hb dX8_file_72 (lv_at hl 0 rfl) ?_
            refine lv_if_ne (tgt := 81) hx hb dX8_file_74 (by decide) (fun h => absurd h (by decide)) (fun _ => ?_)
            refine lv_iconst (v := 2) hx hb dX8_file_77 (by decide) ?_
            refine lv_goto (tgt := 113) hx hb dX8_file_78 (by decide) ?_
            refine mm_put hx hb hts hin hown hK hW hS 0 (by decide) (List.mem_of_getElem? (i := 4) rfl) rfl rfl (by decide +kernel) rfl (ws_0 ad _ _) dX8_file_113 (fun H locs hW hS => ?_)
            refine lv_aload_n hx hb dX8_file_116 rfl (lv_at hl 1 rfl) ?_
            refine mm_gets (v := 2) hx hb hts hin hown hK hW 0 (by decide) (List.mem_of_getElem? (i := 4) rfl) rfl rfl (mq_same q 0 0 2) dX8_file_117 ?_
            refine lv_if_le (tgt := 125) hx hb dX8_file_120 (by decide) (fun h => absurd h (by decide)) (fun _ => ?_)
            refine lv_iconst (v := 0) hx hb dX8_file_123 (by decide) ?_
            exact mm_iret hx hb hr hlk hK hW hS (by rw [m_X8_file, if_neg c_1, if_neg c_3, if_neg c_5, if_pos c_7, if_pos c_8]) dX8_file_124
          · refine lv_iconst (v := 1) hx hb dX8_file_68 (by decide) ?_
            refine lv_goto (tgt := 113) hx hb dX8_file_69 (by decide) ?_
            refine mm_put hx hb hts hin hown hK hW hS 0 (by decide) (List.mem_of_getElem? (i := 4) rfl) rfl rfl (by decide +kernel) rfl (ws_0 ad _ _) dX8_file_113 (fun H locs hW hS => ?_)
            refine lv_aload_n hx hb dX8_file_116 rfl (lv_at hl 1 rfl) ?_
            refine mm_gets (v := 1) hx hb hts hin hown hK hW 0 (by decide) (List.mem_of_getElem? (i := 4) rfl) rfl rfl (mq_same q 0 0 1) dX8_file_117 ?_
            refine lv_if_le (tgt := 125) hx hb dX8_file_120 (by decide) (fun h => absurd h (by decide)) (fun _ => ?_)
            refine lv_iconst (v := 0) hx hb dX8_file_123 (by decide) ?_
            exact mm_iret hx hb hr hlk hK hW hS (by rw [m_X8_file, if_neg c_1, if_neg c_3, if_neg c_5, if_pos c_7, if_neg c_8]) dX8_file_124
        · refine lv_aload_n hx hb dX8_file_43 rfl (lv_at hl 0 rfl) ?_
          refine lv_iload hx hb dX8_file_44 (lv_at hl 7 rfl) ?_
          refine mm_callVi (n := 1) (As := [.int day]) (rest := []) (r := (m_X8_isDay q day)) (q2 := q) ⟨hx, hb, hml, hown, hts⟩ (c_X8_isDay l D b0 Pc cA ad q day) gX8_file_X8_isDay rfl (by decide +kernel) rfl ⟨Nat.le_of_ble_eq_true rfl, Nat.le_of_ble_eq_true rfl⟩ ⟨Nat.le_of_ble_eq_true rfl, Nat.le_of_ble_eq_true rfl⟩ hK hW hS hl.1 rfl (Nat.le_of_ble_eq_true rfl) dX8_file_46 (fun H locs hW hS => ?_)
          refine lv_if_eq (tgt := 56) hx hb dX8_file_49 (by decide) (fun c_9 => ?_) (fun c_9 => ?_)
          · refine lv_iconst (v := 0) hx hb dX8_file_56 (by decide) ?_
            refine lv_istore (lv' := [(9, .int 0), (0, .ref (ad 20 0)), (1, .int f), (2, .int size), (3, .long digest), (5, .int ka), (6, .int kb), (7, .int kc), (8, .int day)]) hx hb dX8_file_57 hl (by decide) rfl (fun ls hl => ?_)
            refine lv_aload_n hx hb dX8_file_59 rfl (lv_at hl 1 rfl) ?_
            refine lv_aload_n hx hb dX8_file_60 rfl (lv_at hl 1 rfl) ?_
            refine lv_iload_n hx hb dX8_file_61 rfl (lv_at hl 2 rfl) ?_
            refine mm_callVi (n := 1) (As := [.int f]) (rest := [.ref (ad 20 0)]) (r := (m_X8_noFolder q f)) (q2 := q) ⟨hx, hb, hml, hown, hts⟩ (c_X8_noFolder l D b0 Pc cA ad q f) gX8_file_X8_noFolder rfl (by decide +kernel) rfl ⟨Nat.le_of_ble_eq_true rfl, Nat.le_of_ble_eq_true rfl⟩ ⟨Nat.le_of_ble_eq_true rfl, Nat.le_of_ble_eq_true rfl⟩ hK hW hS hl.1 rfl (Nat.le_of_ble_eq_true rfl) dX8_file_62 (fun H locs hW hS => ?_)
            refine lv_if_eq (tgt := 72) hx hb dX8_file_65 (by decide) (fun c_10 => ?_) (fun c_10 => ?_)
            · refine lv_iload hx hb dX8_file_72 (lv_at hl 0 rfl) ?_
              refine lv_if_ne (tgt := 81) hx hb dX8_file_74 (by decide) (fun h => absurd h (by decide)) (fun _ => ?_)
              refine lv_iconst (v := 2) hx hb dX8_file_77 (by decide) ?_
              refine lv_goto (tgt := 113) hx hb dX8_file_78 (by decide) ?_
              refine mm_put hx hb hts hin hown hK hW hS 0 (by decide) (List.mem_of_getElem? (i := 4) rfl) rfl rfl (by decide +kernel) rfl (ws_0 ad _ _) dX8_file_113 (fun H locs hW hS => ?_)
              refine lv_aload_n hx hb dX8_file_116 rfl (lv_at hl 1 rfl) ?_
              refine mm_gets (v := 2) hx hb hts hin hown hK hW 0 (by decide) (List.mem_of_getElem? (i := 4) rfl) rfl rfl (mq_same q 0 0 2) dX8_file_117 ?_
              refine lv_if_le (tgt := 125) hx hb dX8_file_120 (by decide) (fun h => absurd h (by decide)) (fun _ => ?_)
              refine lv_iconst (v := 0) hx hb dX8_file_123 (by decide) ?_
              exact mm_iret hx hb hr hlk hK hW hS (by rw [m_X8_file, if_neg c_1, if_neg c_3, if_neg c_5, if_neg c_7, if_pos c_9, if_pos c_10]) dX8_file_124
            · refine lv_iconst (v := 1) hx hb dX8_file_68 (by decide) ?_
              refine lv_goto (tgt := 113) hx hb dX8_file_69 (by decide) ?_
              refine mm_put hx hb hts hin hown hK hW hS 0 (by decide) (List.mem_of_getElem? (i := 4) rfl) rfl rfl (by decide +kernel) rfl (ws_0 ad _ _) dX8_file_113 (fun H locs hW hS => ?_)
              refine lv_aload_n hx hb dX8_file_116 rfl (lv_at hl 1 rfl) ?_
              refine mm_gets (v := 1) hx hb hts hin hown hK hW 0 (by decide) (List.mem_of_getElem? (i := 4) rfl) rfl rfl (mq_same q 0 0 1) dX8_file_117 ?_
              refine lv_if_le (tgt := 125) hx hb dX8_file_120 (by decide) (fun h => absurd h (by decide)) (fun _ => ?_)
              refine lv_iconst (v := 0) hx hb dX8_file_123 (by decide) ?_
              exact mm_iret hx hb hr hlk hK hW hS (by rw [m_X8_file, if_neg c_1, if_neg c_3, if_neg c_5, if_neg c_7, if_pos c_9, if_neg c_10]) dX8_file_124
          · refine lv_iconst (v := 1) hx hb dX8_file_52 (by decide) ?_
            refine lv_goto (tgt := 57) hx hb dX8_file_53 (by decide) ?_
            refine lv_istore (lv' := [(9, .int 1), (0, .ref (ad 20 0)), (1, .int f), (2, .int size), (3, .long digest), (5, .int ka), (6, .int kb), (7, .int kc), (8, .int day)]) hx hb dX8_file_57 hl (by decide) rfl (fun ls hl => ?_)
            refine lv_aload_n hx hb dX8_file_59 rfl (lv_at hl 1 rfl) ?_
            refine lv_aload_n hx hb dX8_file_60 rfl (lv_at hl 1 rfl) ?_
            refine lv_iload_n hx hb dX8_file_61 rfl (lv_at hl 2 rfl) ?_
            refine mm_callVi (n := 1) (As := [.int f]) (rest := [.ref (ad 20 0)]) (r := (m_X8_noFolder q f)) (q2 := q) ⟨hx, hb, hml, hown, hts⟩ (c_X8_noFolder l D b0 Pc cA ad q f) gX8_file_X8_noFolder rfl (by decide +kernel) rfl ⟨Nat.le_of_ble_eq_true rfl, Nat.le_of_ble_eq_true rfl⟩ ⟨Nat.le_of_ble_eq_true rfl, Nat.le_of_ble_eq_true rfl⟩ hK hW hS hl.1 rfl (Nat.le_of_ble_eq_true rfl) dX8_file_62 (fun H locs hW hS => ?_)
            refine lv_if_eq (tgt := 72) hx hb dX8_file_65 (by decide) (fun c_11 => ?_) (fun c_11 => ?_)
            · refine lv_iload hx hb dX8_file_72 (lv_at hl 0 rfl) ?_
              refine lv_if_ne (tgt := 81) hx hb dX8_file_74 (by decide) (fun _ => ?_) (fun h => absurd h (by decide))
              refine lv_aload_n hx hb dX8_file_81 rfl (lv_at hl 1 rfl) ?_
              refine mm_get (v := .ref (ad 21 10)) hx hb hts hin hown hK hW 10 (by decide) (List.mem_of_getElem? (i := 2) rfl) rfl rfl dX8_file_82 ?_
              refine lv_iload_n hx hb dX8_file_85 rfl (lv_at hl 2 rfl) ?_
              have b_12 : vp_in f 16 := by
                have u_1 := rg_e f
                have u_2 := rg_e (m_X8_isIn ka (-1) 99)
                have k_3 : (0 : Int32).toInt = 0 := rfl
                have v_4 := cv_ne c_1
                have u_5 := rg_e ka
                have k_6 : ((-1) : Int32).toInt = -1 := rfl
                have k_7 : (99 : Int32).toInt = 99 := rfl
                have v_8 := is_t c_1
                have u_9 := rg_e (m_X8_isIn kb (-1) 99)
                have v_10 := cv_ne c_3
                have u_11 := rg_e kb
                have v_12 := is_t c_3
                have u_13 := rg_e (m_X8_isIn kc (-1) 99)
                have v_14 := cv_ne c_5
                have u_15 := rg_e kc
                have v_16 := is_t c_5
                have u_17 := rg_e (m_X8_isIn size 1 65536)
                have v_18 := cv_ne c_7
                have u_19 := rg_e size
                have k_20 : (1 : Int32).toInt = 1 := rfl
                have k_21 : (65536 : Int32).toInt = 65536 := rfl
                have v_22 := is_t c_7
                have u_23 := rg_e (m_X8_isDay q day)
                have v_24 := cv_ne c_9
                have u_25 := rg_e day
                have v_26 := dy_t c_9
                have u_27 := rg_e (m_X8_noFolder q f)
                have v_28 := cv_eq c_11
                have v_29 := nf_t c_11
                have w_30 := hI.2.2.2.1
                have w_31 := hL.2.2.2.2.2
                exact vp_in_iff.mpr (by omega)
              refine mm_iald (v := (q.1 10 (Int32.toNatClampNeg f))) hx hb hK hW 10 16 rfl b_12 ((rfl)) dX8_file_86 ?_
              refine lv_iconst (v := (-1)) hx hb dX8_file_87 (by decide) ?_
              refine lv_icmp_ne (tgt := 108) hx hb dX8_file_88 (by decide) (fun c_13 => ?_) (fun c_13 => ?_)
              · refine lv_iconst (v := 3) hx hb dX8_file_108 (by decide) ?_
                refine lv_goto (tgt := 113) hx hb dX8_file_109 (by decide) ?_
                refine mm_put hx hb hts hin hown hK hW hS 0 (by decide) (List.mem_of_getElem? (i := 4) rfl) rfl rfl (by decide +kernel) rfl (ws_0 ad _ _) dX8_file_113 (fun H locs hW hS => ?_)
                refine lv_aload_n hx hb dX8_file_116 rfl (lv_at hl 1 rfl) ?_
                refine mm_gets (v := 3) hx hb hts hin hown hK hW 0 (by decide) (List.mem_of_getElem? (i := 4) rfl) rfl rfl (mq_same q 0 0 3) dX8_file_117 ?_
                refine lv_if_le (tgt := 125) hx hb dX8_file_120 (by decide) (fun h => absurd h (by decide)) (fun _ => ?_)
                refine lv_iconst (v := 0) hx hb dX8_file_123 (by decide) ?_
                exact mm_iret hx hb hr hlk hK hW hS (by rw [m_X8_file, if_neg c_1, if_neg c_3, if_neg c_5, if_neg c_7, if_neg c_9, if_pos c_11, if_neg c_13]) dX8_file_124
              · refine lv_aload_n hx hb dX8_file_91 rfl (lv_at hl 1 rfl) ?_
                refine mm_gets (v := (q.1 12 0)) hx hb hts hin hown hK hW 12 (by decide) (List.mem_of_getElem? (i := 3) rfl) rfl rfl (rfl) dX8_file_92 ?_
                refine lv_bipush (v := 64) hx hb dX8_file_95 (by decide) ?_
                refine lv_icmp_eq (tgt := 108) hx hb dX8_file_97 (by decide) (fun c_14 => ?_) (fun c_14 => ?_)
                · refine lv_iconst (v := 3) hx hb dX8_file_108 (by decide) ?_
                  refine lv_goto (tgt := 113) hx hb dX8_file_109 (by decide) ?_
                  refine mm_put hx hb hts hin hown hK hW hS 0 (by decide) (List.mem_of_getElem? (i := 4) rfl) rfl rfl (by decide +kernel) rfl (ws_0 ad _ _) dX8_file_113 (fun H locs hW hS => ?_)
                  refine lv_aload_n hx hb dX8_file_116 rfl (lv_at hl 1 rfl) ?_
                  refine mm_gets (v := 3) hx hb hts hin hown hK hW 0 (by decide) (List.mem_of_getElem? (i := 4) rfl) rfl rfl (mq_same q 0 0 3) dX8_file_117 ?_
                  refine lv_if_le (tgt := 125) hx hb dX8_file_120 (by decide) (fun h => absurd h (by decide)) (fun _ => ?_)
                  refine lv_iconst (v := 0) hx hb dX8_file_123 (by decide) ?_
                  exact mm_iret hx hb hr hlk hK hW hS (by rw [m_X8_file, if_neg c_1, if_neg c_3, if_neg c_5, if_neg c_7, if_neg c_9, if_pos c_11, if_pos c_13, if_pos c_14]) dX8_file_124
                · refine lv_aload_n hx hb dX8_file_100 rfl (lv_at hl 1 rfl) ?_
                  refine lv_iconst (v := 1) hx hb dX8_file_101 (by decide) ?_
                  refine mm_callVi (n := 1) (As := [.int 1]) (rest := [.ref (ad 20 0)]) (r := (m_X8_hasRoom q 1)) (q2 := q) ⟨hx, hb, hml, hown, hts⟩ (c_X8_hasRoom l D b0 Pc cA ad q 1) gX8_file_X8_hasRoom rfl (by decide +kernel) rfl ⟨Nat.le_of_ble_eq_true rfl, Nat.le_of_ble_eq_true rfl⟩ ⟨Nat.le_of_ble_eq_true rfl, Nat.le_of_ble_eq_true rfl⟩ hK hW hS hl.1 rfl (Nat.le_of_ble_eq_true rfl) dX8_file_102 (fun H locs hW hS => ?_)
                  refine lv_if_ne (tgt := 112) hx hb dX8_file_105 (by decide) (fun c_15 => ?_) (fun c_15 => ?_)
                  · refine lv_iconst (v := 0) hx hb dX8_file_112 (by decide) ?_
                    refine mm_put hx hb hts hin hown hK hW hS 0 (by decide) (List.mem_of_getElem? (i := 4) rfl) rfl rfl (by decide +kernel) rfl (ws_0 ad _ _) dX8_file_113 (fun H locs hW hS => ?_)
                    refine lv_aload_n hx hb dX8_file_116 rfl (lv_at hl 1 rfl) ?_
                    refine mm_gets (v := 0) hx hb hts hin hown hK hW 0 (by decide) (List.mem_of_getElem? (i := 4) rfl) rfl rfl (mq_same q 0 0 0) dX8_file_117 ?_
                    refine lv_if_le (tgt := 125) hx hb dX8_file_120 (by decide) (fun _ => ?_) (fun h => absurd h (by decide))
                    refine lv_aload_n hx hb dX8_file_125 rfl (lv_at hl 1 rfl) ?_
                    refine mm_gets (v := (q.1 12 0)) hx hb hts hin hown hK hW 12 (by decide) (List.mem_of_getElem? (i := 3) rfl) rfl rfl (mq_ne (by decide)) dX8_file_126 ?_
                    refine lv_istore (lv' := [(10, .int (q.1 12 0)), (9, .int 1), (0, .ref (ad 20 0)), (1, .int f), (2, .int size), (3, .long digest), (5, .int ka), (6, .int kb), (7, .int kc), (8, .int day)]) hx hb dX8_file_129 hl (by decide) rfl (fun ls hl => ?_)
                    refine lv_aload_n hx hb dX8_file_131 rfl (lv_at hl 2 rfl) ?_
                    refine mm_get (v := .ref (ad 21 13)) hx hb hts hin hown hK hW 13 (by decide) (List.mem_of_getElem? (i := 5) rfl) rfl rfl dX8_file_132 ?_
                    refine lv_iload hx hb dX8_file_135 (lv_at hl 0 rfl) ?_
                    refine lv_iload_n hx hb dX8_file_137 rfl (lv_at hl 3 rfl) ?_
                    have b_16 : vp_in (q.1 12 0) 64 := by
                      have u_1 := rg_e (q.1 12 0)
                      have u_2 := rg_e (m_X8_isIn ka (-1) 99)
                      have k_3 : (0 : Int32).toInt = 0 := rfl
                      have v_4 := cv_ne c_1
                      have u_5 := rg_e ka
                      have k_6 : ((-1) : Int32).toInt = -1 := rfl
                      have k_7 : (99 : Int32).toInt = 99 := rfl
                      have v_8 := is_t c_1
                      have u_9 := rg_e (m_X8_isIn kb (-1) 99)
                      have v_10 := cv_ne c_3
                      have u_11 := rg_e kb
                      have v_12 := is_t c_3
                      have u_13 := rg_e (m_X8_isIn kc (-1) 99)
                      have v_14 := cv_ne c_5
                      have u_15 := rg_e kc
                      have v_16 := is_t c_5
                      have u_17 := rg_e (m_X8_isIn size 1 65536)
                      have v_18 := cv_ne c_7
                      have u_19 := rg_e size
                      have k_20 : (1 : Int32).toInt = 1 := rfl
                      have k_21 : (65536 : Int32).toInt = 65536 := rfl
                      have v_22 := is_t c_7
                      have u_23 := rg_e (m_X8_isDay q day)
                      have v_24 := cv_ne c_9
                      have u_25 := rg_e day
                      have v_26 := dy_t c_9
                      have u_27 := rg_e (m_X8_noFolder q f)
                      have v_28 := cv_eq c_11
                      have u_29 := rg_e f
                      have v_30 := nf_t c_11
                      have u_31 := rg_e (q.1 10 (Int32.toNatClampNeg f))
                      have v_32 := cv_eq c_13
                      have k_33 : (64 : Int32).toInt = 64 := rfl
                      have v_34 := cv_ne c_14
                      have u_35 := rg_e (m_X8_hasRoom q 1)
                      have v_36 := cv_ne c_15
                      have v_37 := hr_t c_15
                      have w_38 := hI.2.2.2.1
                      have w_39 := hL.2.2.2.2.2
                      exact vp_in_iff.mpr (by omega)
                    refine mm_iast hx hb hK hW hS 13 64 rfl b_16 dX8_file_138 (fun H locs hW hS => ?_)
                    refine lv_aload_n hx hb dX8_file_139 rfl (lv_at hl 2 rfl) ?_
                    refine mm_get (v := .ref (ad 21 14)) hx hb hts hin hown hK hW 14 (by decide) (List.mem_of_getElem? (i := 6) rfl) rfl rfl dX8_file_140 ?_
                    refine lv_iload hx hb dX8_file_143 (lv_at hl 0 rfl) ?_
                    refine lv_iload hx hb dX8_file_145 (lv_at hl 9 rfl) ?_
                    have b_17 : vp_in (q.1 12 0) 64 := by
                      have u_1 := rg_e (q.1 12 0)
                      have u_2 := rg_e (m_X8_isIn ka (-1) 99)
                      have k_3 : (0 : Int32).toInt = 0 := rfl
                      have v_4 := cv_ne c_1
                      have u_5 := rg_e ka
                      have k_6 : ((-1) : Int32).toInt = -1 := rfl
                      have k_7 : (99 : Int32).toInt = 99 := rfl
                      have v_8 := is_t c_1
                      have u_9 := rg_e (m_X8_isIn kb (-1) 99)
                      have v_10 := cv_ne c_3
                      have u_11 := rg_e kb
                      have v_12 := is_t c_3
                      have u_13 := rg_e (m_X8_isIn kc (-1) 99)
                      have v_14 := cv_ne c_5
                      have u_15 := rg_e kc
                      have v_16 := is_t c_5
                      have u_17 := rg_e (m_X8_isIn size 1 65536)
                      have v_18 := cv_ne c_7
                      have u_19 := rg_e size
                      have k_20 : (1 : Int32).toInt = 1 := rfl
                      have k_21 : (65536 : Int32).toInt = 65536 := rfl
                      have v_22 := is_t c_7
                      have u_23 := rg_e (m_X8_isDay q day)
                      have v_24 := cv_ne c_9
                      have u_25 := rg_e day
                      have v_26 := dy_t c_9
                      have u_27 := rg_e (m_X8_noFolder q f)
                      have v_28 := cv_eq c_11
                      have u_29 := rg_e f
                      have v_30 := nf_t c_11
                      have u_31 := rg_e (q.1 10 (Int32.toNatClampNeg f))
                      have v_32 := cv_eq c_13
                      have k_33 : (64 : Int32).toInt = 64 := rfl
                      have v_34 := cv_ne c_14
                      have u_35 := rg_e (m_X8_hasRoom q 1)
                      have v_36 := cv_ne c_15
                      have v_37 := hr_t c_15
                      have w_38 := hI.2.2.2.1
                      have w_39 := hL.2.2.2.2.2
                      exact vp_in_iff.mpr (by omega)
                    refine mm_iast hx hb hK hW hS 14 64 rfl b_17 dX8_file_147 (fun H locs hW hS => ?_)
                    refine lv_aload_n hx hb dX8_file_148 rfl (lv_at hl 2 rfl) ?_
                    refine mm_get (v := .ref (ad 21 15)) hx hb hts hin hown hK hW 15 (by decide) (List.mem_of_getElem? (i := 7) rfl) rfl rfl dX8_file_149 ?_
                    refine lv_iload hx hb dX8_file_152 (lv_at hl 0 rfl) ?_
                    refine lv_iload_n hx hb dX8_file_154 rfl (lv_at hl 4 rfl) ?_
                    have b_18 : vp_in (q.1 12 0) 64 := by
                      have u_1 := rg_e (q.1 12 0)
                      have u_2 := rg_e (m_X8_isIn ka (-1) 99)
                      have k_3 : (0 : Int32).toInt = 0 := rfl
                      have v_4 := cv_ne c_1
                      have u_5 := rg_e ka
                      have k_6 : ((-1) : Int32).toInt = -1 := rfl
                      have k_7 : (99 : Int32).toInt = 99 := rfl
                      have v_8 := is_t c_1
                      have u_9 := rg_e (m_X8_isIn kb (-1) 99)
                      have v_10 := cv_ne c_3
                      have u_11 := rg_e kb
                      have v_12 := is_t c_3
                      have u_13 := rg_e (m_X8_isIn kc (-1) 99)
                      have v_14 := cv_ne c_5
                      have u_15 := rg_e kc
                      have v_16 := is_t c_5
                      have u_17 := rg_e (m_X8_isIn size 1 65536)
                      have v_18 := cv_ne c_7
                      have u_19 := rg_e size
                      have k_20 : (1 : Int32).toInt = 1 := rfl
                      have k_21 : (65536 : Int32).toInt = 65536 := rfl
                      have v_22 := is_t c_7
                      have u_23 := rg_e (m_X8_isDay q day)
                      have v_24 := cv_ne c_9
                      have u_25 := rg_e day
                      have v_26 := dy_t c_9
                      have u_27 := rg_e (m_X8_noFolder q f)
                      have v_28 := cv_eq c_11
                      have u_29 := rg_e f
                      have v_30 := nf_t c_11
                      have u_31 := rg_e (q.1 10 (Int32.toNatClampNeg f))
                      have v_32 := cv_eq c_13
                      have k_33 : (64 : Int32).toInt = 64 := rfl
                      have v_34 := cv_ne c_14
                      have u_35 := rg_e (m_X8_hasRoom q 1)
                      have v_36 := cv_ne c_15
                      have v_37 := hr_t c_15
                      have w_38 := hI.2.2.2.1
                      have w_39 := hL.2.2.2.2.2
                      exact vp_in_iff.mpr (by omega)
                    refine mm_iast hx hb hK hW hS 15 64 rfl b_18 dX8_file_155 (fun H locs hW hS => ?_)
                    refine lv_aload_n hx hb dX8_file_156 rfl (lv_at hl 2 rfl) ?_
                    refine mm_get (v := .ref (ad 21 16)) hx hb hts hin hown hK hW 16 (by decide) (List.mem_of_getElem? (i := 8) rfl) rfl rfl dX8_file_157 ?_
                    refine lv_iload hx hb dX8_file_160 (lv_at hl 0 rfl) ?_
                    refine lv_lload_n hx hb dX8_file_162 rfl (lv_at hl 5 rfl) ?_
                    have b_19 : vp_in (q.1 12 0) 64 := by
                      have u_1 := rg_e (q.1 12 0)
                      have u_2 := rg_e (m_X8_isIn ka (-1) 99)
                      have k_3 : (0 : Int32).toInt = 0 := rfl
                      have v_4 := cv_ne c_1
                      have u_5 := rg_e ka
                      have k_6 : ((-1) : Int32).toInt = -1 := rfl
                      have k_7 : (99 : Int32).toInt = 99 := rfl
                      have v_8 := is_t c_1
                      have u_9 := rg_e (m_X8_isIn kb (-1) 99)
                      have v_10 := cv_ne c_3
                      have u_11 := rg_e kb
                      have v_12 := is_t c_3
                      have u_13 := rg_e (m_X8_isIn kc (-1) 99)
                      have v_14 := cv_ne c_5
                      have u_15 := rg_e kc
                      have v_16 := is_t c_5
                      have u_17 := rg_e (m_X8_isIn size 1 65536)
                      have v_18 := cv_ne c_7
                      have u_19 := rg_e size
                      have k_20 : (1 : Int32).toInt = 1 := rfl
                      have k_21 : (65536 : Int32).toInt = 65536 := rfl
                      have v_22 := is_t c_7
                      have u_23 := rg_e (m_X8_isDay q day)
                      have v_24 := cv_ne c_9
                      have u_25 := rg_e day
                      have v_26 := dy_t c_9
                      have u_27 := rg_e (m_X8_noFolder q f)
                      have v_28 := cv_eq c_11
                      have u_29 := rg_e f
                      have v_30 := nf_t c_11
                      have u_31 := rg_e (q.1 10 (Int32.toNatClampNeg f))
                      have v_32 := cv_eq c_13
                      have k_33 : (64 : Int32).toInt = 64 := rfl
                      have v_34 := cv_ne c_14
                      have u_35 := rg_e (m_X8_hasRoom q 1)
                      have v_36 := cv_ne c_15
                      have v_37 := hr_t c_15
                      have w_38 := hI.2.2.2.1
                      have w_39 := hL.2.2.2.2.2
                      exact vp_in_iff.mpr (by omega)
                    refine mm_last hx hb hK hW hS 16 64 rfl b_19 dX8_file_163 (fun H locs hW hS => ?_)
                    refine lv_aload_n hx hb dX8_file_164 rfl (lv_at hl 2 rfl) ?_
                    refine mm_get (v := .ref (ad 21 17)) hx hb hts hin hown hK hW 17 (by decide) (List.mem_of_getElem? (i := 9) rfl) rfl rfl dX8_file_165 ?_
                    refine lv_iconst (v := 3) hx hb dX8_file_168 (by decide) ?_
                    refine lv_iload hx hb dX8_file_169 (lv_at hl 0 rfl) ?_
                    refine lv_imul hx hb dX8_file_171 ?_
                    refine lv_iload hx hb dX8_file_172 (lv_at hl 6 rfl) ?_
                    have b_20 : vp_in (3 * (q.1 12 0)) 192 := by
                      have k_1 : (3 : Int32).toInt = 3 := rfl
                      have u_2 := rg_e (q.1 12 0)
                      have u_4 := rg_e (m_X8_isIn ka (-1) 99)
                      have k_5 : (0 : Int32).toInt = 0 := rfl
                      have v_6 := cv_ne c_1
                      have u_7 := rg_e ka
                      have k_8 : ((-1) : Int32).toInt = -1 := rfl
                      have k_9 : (99 : Int32).toInt = 99 := rfl
                      have v_10 := is_t c_1
                      have u_11 := rg_e (m_X8_isIn kb (-1) 99)
                      have v_12 := cv_ne c_3
                      have u_13 := rg_e kb
                      have v_14 := is_t c_3
                      have u_15 := rg_e (m_X8_isIn kc (-1) 99)
                      have v_16 := cv_ne c_5
                      have u_17 := rg_e kc
                      have v_18 := is_t c_5
                      have u_19 := rg_e (m_X8_isIn size 1 65536)
                      have v_20 := cv_ne c_7
                      have u_21 := rg_e size
                      have k_22 : (1 : Int32).toInt = 1 := rfl
                      have k_23 : (65536 : Int32).toInt = 65536 := rfl
                      have v_24 := is_t c_7
                      have u_25 := rg_e (m_X8_isDay q day)
                      have v_26 := cv_ne c_9
                      have u_27 := rg_e day
                      have v_28 := dy_t c_9
                      have u_29 := rg_e (m_X8_noFolder q f)
                      have v_30 := cv_eq c_11
                      have u_31 := rg_e f
                      have v_32 := nf_t c_11
                      have u_33 := rg_e (q.1 10 (Int32.toNatClampNeg f))
                      have v_34 := cv_eq c_13
                      have k_35 : (64 : Int32).toInt = 64 := rfl
                      have v_36 := cv_ne c_14
                      have u_37 := rg_e (m_X8_hasRoom q 1)
                      have v_38 := cv_ne c_15
                      have v_39 := hr_t c_15
                      have w_40 := hI.2.2.2.1
                      have w_41 := hL.2.2.2.2.2
                      have u_3 := mu_o 3 3 (q.1 12 0) rfl
                      exact vp_in_iff.mpr (by omega)
                    refine mm_iast hx hb hK hW hS 17 192 rfl b_20 dX8_file_174 (fun H locs hW hS => ?_)
                    refine lv_aload_n hx hb dX8_file_175 rfl (lv_at hl 2 rfl) ?_
                    refine mm_get (v := .ref (ad 21 17)) hx hb hts hin hown hK hW 17 (by decide) (List.mem_of_getElem? (i := 9) rfl) rfl rfl dX8_file_176 ?_
                    refine lv_iconst (v := 3) hx hb dX8_file_179 (by decide) ?_
                    refine lv_iload hx hb dX8_file_180 (lv_at hl 0 rfl) ?_
                    refine lv_imul hx hb dX8_file_182 ?_
                    refine lv_iconst (v := 1) hx hb dX8_file_183 (by decide) ?_
                    refine lv_iadd hx hb dX8_file_184 ?_
                    refine lv_iload hx hb dX8_file_185 (lv_at hl 7 rfl) ?_
                    have b_21 : vp_in ((3 * (q.1 12 0)) + 1) 192 := by
                      have k_1 : (3 : Int32).toInt = 3 := rfl
                      have u_2 := rg_e (q.1 12 0)
                      have k_4 : (1 : Int32).toInt = 1 := rfl
                      have u_6 := rg_e (m_X8_isIn ka (-1) 99)
                      have k_7 : (0 : Int32).toInt = 0 := rfl
                      have v_8 := cv_ne c_1
                      have u_9 := rg_e ka
                      have k_10 : ((-1) : Int32).toInt = -1 := rfl
                      have k_11 : (99 : Int32).toInt = 99 := rfl
                      have v_12 := is_t c_1
                      have u_13 := rg_e (m_X8_isIn kb (-1) 99)
                      have v_14 := cv_ne c_3
                      have u_15 := rg_e kb
                      have v_16 := is_t c_3
                      have u_17 := rg_e (m_X8_isIn kc (-1) 99)
                      have v_18 := cv_ne c_5
                      have u_19 := rg_e kc
                      have v_20 := is_t c_5
                      have u_21 := rg_e (m_X8_isIn size 1 65536)
                      have v_22 := cv_ne c_7
                      have u_23 := rg_e size
                      have k_24 : (65536 : Int32).toInt = 65536 := rfl
                      have v_25 := is_t c_7
                      have u_26 := rg_e (m_X8_isDay q day)
                      have v_27 := cv_ne c_9
                      have u_28 := rg_e day
                      have v_29 := dy_t c_9
                      have u_30 := rg_e (m_X8_noFolder q f)
                      have v_31 := cv_eq c_11
                      have u_32 := rg_e f
                      have v_33 := nf_t c_11
                      have u_34 := rg_e (q.1 10 (Int32.toNatClampNeg f))
                      have v_35 := cv_eq c_13
                      have k_36 : (64 : Int32).toInt = 64 := rfl
                      have v_37 := cv_ne c_14
                      have u_38 := rg_e (m_X8_hasRoom q 1)
                      have v_39 := cv_ne c_15
                      have v_40 := hr_t c_15
                      have w_41 := hI.2.2.2.1
                      have w_42 := hL.2.2.2.2.2
                      have u_3 := mu_o 3 3 (q.1 12 0) rfl
                      have u_5 := ad_o (3 * (q.1 12 0)) 1
                      exact vp_in_iff.mpr (by omega)
                    refine mm_iast hx hb hK hW hS 17 192 rfl b_21 dX8_file_187 (fun H locs hW hS => ?_)
                    refine lv_aload_n hx hb dX8_file_188 rfl (lv_at hl 2 rfl) ?_
                    refine mm_get (v := .ref (ad 21 17)) hx hb hts hin hown hK hW 17 (by decide) (List.mem_of_getElem? (i := 9) rfl) rfl rfl dX8_file_189 ?_
                    refine lv_iconst (v := 3) hx hb dX8_file_192 (by decide) ?_
                    refine lv_iload hx hb dX8_file_193 (lv_at hl 0 rfl) ?_
                    refine lv_imul hx hb dX8_file_195 ?_
                    refine lv_iconst (v := 2) hx hb dX8_file_196 (by decide) ?_
                    refine lv_iadd hx hb dX8_file_197 ?_
                    refine lv_iload hx hb dX8_file_198 (lv_at hl 8 rfl) ?_
                    have b_22 : vp_in ((3 * (q.1 12 0)) + 2) 192 := by
                      have k_1 : (3 : Int32).toInt = 3 := rfl
                      have u_2 := rg_e (q.1 12 0)
                      have k_4 : (2 : Int32).toInt = 2 := rfl
                      have u_6 := rg_e (m_X8_isIn ka (-1) 99)
                      have k_7 : (0 : Int32).toInt = 0 := rfl
                      have v_8 := cv_ne c_1
                      have u_9 := rg_e ka
                      have k_10 : ((-1) : Int32).toInt = -1 := rfl
                      have k_11 : (99 : Int32).toInt = 99 := rfl
                      have v_12 := is_t c_1
                      have u_13 := rg_e (m_X8_isIn kb (-1) 99)
                      have v_14 := cv_ne c_3
                      have u_15 := rg_e kb
                      have v_16 := is_t c_3
                      have u_17 := rg_e (m_X8_isIn kc (-1) 99)
                      have v_18 := cv_ne c_5
                      have u_19 := rg_e kc
                      have v_20 := is_t c_5
                      have u_21 := rg_e (m_X8_isIn size 1 65536)
                      have v_22 := cv_ne c_7
                      have u_23 := rg_e size
                      have k_24 : (1 : Int32).toInt = 1 := rfl
                      have k_25 : (65536 : Int32).toInt = 65536 := rfl
                      have v_26 := is_t c_7
                      have u_27 := rg_e (m_X8_isDay q day)
                      have v_28 := cv_ne c_9
                      have u_29 := rg_e day
                      have v_30 := dy_t c_9
                      have u_31 := rg_e (m_X8_noFolder q f)
                      have v_32 := cv_eq c_11
                      have u_33 := rg_e f
                      have v_34 := nf_t c_11
                      have u_35 := rg_e (q.1 10 (Int32.toNatClampNeg f))
                      have v_36 := cv_eq c_13
                      have k_37 : (64 : Int32).toInt = 64 := rfl
                      have v_38 := cv_ne c_14
                      have u_39 := rg_e (m_X8_hasRoom q 1)
                      have v_40 := cv_ne c_15
                      have v_41 := hr_t c_15
                      have w_42 := hI.2.2.2.1
                      have w_43 := hL.2.2.2.2.2
                      have u_3 := mu_o 3 3 (q.1 12 0) rfl
                      have u_5 := ad_o (3 * (q.1 12 0)) 2
                      exact vp_in_iff.mpr (by omega)
                    refine mm_iast hx hb hK hW hS 17 192 rfl b_22 dX8_file_200 (fun H locs hW hS => ?_)
                    refine lv_aload_n hx hb dX8_file_201 rfl (lv_at hl 2 rfl) ?_
                    refine lv_dup hx hb dX8_file_202 rfl ?_
                    refine mm_gets (v := (q.1 12 0)) hx hb hts hin hown hK hW 12 (by decide) (List.mem_of_getElem? (i := 3) rfl) rfl rfl ((mq_ne (by decide)).trans ((mq_ne (by decide)).trans ((mq_ne (by decide)).trans ((mq_nel).trans ((mq_ne (by decide)).trans ((mq_ne (by decide)).trans ((mq_ne (by decide)).trans (mq_ne (by decide))))))))) dX8_file_203 ?_
                    refine lv_iconst (v := 1) hx hb dX8_file_206 (by decide) ?_
                    refine lv_iadd hx hb dX8_file_207 ?_
                    refine mm_put hx hb hts hin hown hK hW hS 12 (by decide) (List.mem_of_getElem? (i := 3) rfl) rfl rfl (by decide +kernel) rfl (ws_12 ad _ _) dX8_file_208 (fun H locs hW hS => ?_)
                    refine lv_aload_n hx hb dX8_file_211 rfl (lv_at hl 2 rfl) ?_
                    refine lv_iload hx hb dX8_file_212 (lv_at hl 9 rfl) ?_
                    refine mm_put hx hb hts hin hown hK hW hS 3 (by decide) (List.mem_of_getElem? (i := 10) rfl) rfl rfl (by decide +kernel) rfl (ws_3 ad _ _) dX8_file_214 (fun H locs hW hS => ?_)
                    refine lv_aload_n hx hb dX8_file_217 rfl (lv_at hl 2 rfl) ?_
                    refine lv_iconst (v := 5) hx hb dX8_file_218 (by decide) ?_
                    refine lv_iload hx hb dX8_file_219 (lv_at hl 0 rfl) ?_
                    refine lv_iload_n hx hb dX8_file_221 rfl (lv_at hl 3 rfl) ?_
                    refine lv_iload hx hb dX8_file_222 (lv_at hl 9 rfl) ?_
                    have h_23 : 0 ≤ ((mq_i (mq_i (mq_i (mq_i (mq_i (mq_l (mq_i (mq_i (mq_i (mq_i q 0 0 0) 13 (Int32.toNatClampNeg (q.1 12 0)) f) 14 (Int32.toNatClampNeg (q.1 12 0)) day) 15 (Int32.toNatClampNeg (q.1 12 0)) size) 16 (Int32.toNatClampNeg (q.1 12 0)) digest) 17 (Int32.toNatClampNeg (3 * (q.1 12 0))) ka) 17 (Int32.toNatClampNeg ((3 * (q.1 12 0)) + 1)) kb) 17 (Int32.toNatClampNeg ((3 * (q.1 12 0)) + 2)) kc) 12 0 ((q.1 12 0) + 1)) 3 0 day).1 31 0).toInt ∧ ((mq_i (mq_i (mq_i (mq_i (mq_i (mq_l (mq_i (mq_i (mq_i (mq_i q 0 0 0) 13 (Int32.toNatClampNeg (q.1 12 0)) f) 14 (Int32.toNatClampNeg (q.1 12 0)) day) 15 (Int32.toNatClampNeg (q.1 12 0)) size) 16 (Int32.toNatClampNeg (q.1 12 0)) digest) 17 (Int32.toNatClampNeg (3 * (q.1 12 0))) ka) 17 (Int32.toNatClampNeg ((3 * (q.1 12 0)) + 1)) kb) 17 (Int32.toNatClampNeg ((3 * (q.1 12 0)) + 2)) kc) 12 0 ((q.1 12 0) + 1)) 3 0 day).1 31 0).toInt ≤ 399 := by
                      rw [show (mq_i (mq_i (mq_i (mq_i (mq_i (mq_l (mq_i (mq_i (mq_i (mq_i q 0 0 0) 13 (Int32.toNatClampNeg (q.1 12 0)) f) 14 (Int32.toNatClampNeg (q.1 12 0)) day) 15 (Int32.toNatClampNeg (q.1 12 0)) size) 16 (Int32.toNatClampNeg (q.1 12 0)) digest) 17 (Int32.toNatClampNeg (3 * (q.1 12 0))) ka) 17 (Int32.toNatClampNeg ((3 * (q.1 12 0)) + 1)) kb) 17 (Int32.toNatClampNeg ((3 * (q.1 12 0)) + 2)) kc) 12 0 ((q.1 12 0) + 1)) 3 0 day).1 31 0 = (q.1 31 0) from ((mq_ne (by decide)).trans ((mq_ne (by decide)).trans ((mq_ne (by decide)).trans ((mq_ne (by decide)).trans ((mq_ne (by decide)).trans ((mq_nel).trans ((mq_ne (by decide)).trans ((mq_ne (by decide)).trans ((mq_ne (by decide)).trans (mq_ne (by decide)))))))))))]
                      have k_1 : (5 : Int32).toInt = 5 := rfl
                      have u_2 := rg_e (q.1 12 0)
                      have u_3 := rg_e f
                      have u_4 := rg_e day
                      have u_5 := rg_e (m_X8_isIn ka (-1) 99)
                      have k_6 : (0 : Int32).toInt = 0 := rfl
                      have v_7 := cv_ne c_1
                      have u_8 := rg_e ka
                      have k_9 : ((-1) : Int32).toInt = -1 := rfl
                      have k_10 : (99 : Int32).toInt = 99 := rfl
                      have v_11 := is_t c_1
                      have u_12 := rg_e (m_X8_isIn kb (-1) 99)
                      have v_13 := cv_ne c_3
                      have u_14 := rg_e kb
                      have v_15 := is_t c_3
                      have u_16 := rg_e (m_X8_isIn kc (-1) 99)
                      have v_17 := cv_ne c_5
                      have u_18 := rg_e kc
                      have v_19 := is_t c_5
                      have u_20 := rg_e (m_X8_isIn size 1 65536)
                      have v_21 := cv_ne c_7
                      have u_22 := rg_e size
                      have k_23 : (1 : Int32).toInt = 1 := rfl
                      have k_24 : (65536 : Int32).toInt = 65536 := rfl
                      have v_25 := is_t c_7
                      have u_26 := rg_e (m_X8_isDay q day)
                      have v_27 := cv_ne c_9
                      have v_28 := dy_t c_9
                      have u_29 := rg_e (m_X8_noFolder q f)
                      have v_30 := cv_eq c_11
                      have v_31 := nf_t c_11
                      have u_32 := rg_e (q.1 10 (Int32.toNatClampNeg f))
                      have v_33 := cv_eq c_13
                      have k_34 : (64 : Int32).toInt = 64 := rfl
                      have v_35 := cv_ne c_14
                      have u_36 := rg_e (m_X8_hasRoom q 1)
                      have v_37 := cv_ne c_15
                      have v_38 := hr_t c_15
                      have w_39 := hI.2.2.2.1
                      have w_40 := hL.2.2.2.2.2
                      exact by omega
                    have h_24 : 0 ≤ ((mq_i (mq_i (mq_i (mq_i (mq_i (mq_l (mq_i (mq_i (mq_i (mq_i q 0 0 0) 13 (Int32.toNatClampNeg (q.1 12 0)) f) 14 (Int32.toNatClampNeg (q.1 12 0)) day) 15 (Int32.toNatClampNeg (q.1 12 0)) size) 16 (Int32.toNatClampNeg (q.1 12 0)) digest) 17 (Int32.toNatClampNeg (3 * (q.1 12 0))) ka) 17 (Int32.toNatClampNeg ((3 * (q.1 12 0)) + 1)) kb) 17 (Int32.toNatClampNeg ((3 * (q.1 12 0)) + 2)) kc) 12 0 ((q.1 12 0) + 1)) 3 0 day).1 12 0).toInt ∧ ((mq_i (mq_i (mq_i (mq_i (mq_i (mq_l (mq_i (mq_i (mq_i (mq_i q 0 0 0) 13 (Int32.toNatClampNeg (q.1 12 0)) f) 14 (Int32.toNatClampNeg (q.1 12 0)) day) 15 (Int32.toNatClampNeg (q.1 12 0)) size) 16 (Int32.toNatClampNeg (q.1 12 0)) digest) 17 (Int32.toNatClampNeg (3 * (q.1 12 0))) ka) 17 (Int32.toNatClampNeg ((3 * (q.1 12 0)) + 1)) kb) 17 (Int32.toNatClampNeg ((3 * (q.1 12 0)) + 2)) kc) 12 0 ((q.1 12 0) + 1)) 3 0 day).1 12 0).toInt ≤ 64 := by
                      rw [show (mq_i (mq_i (mq_i (mq_i (mq_i (mq_l (mq_i (mq_i (mq_i (mq_i q 0 0 0) 13 (Int32.toNatClampNeg (q.1 12 0)) f) 14 (Int32.toNatClampNeg (q.1 12 0)) day) 15 (Int32.toNatClampNeg (q.1 12 0)) size) 16 (Int32.toNatClampNeg (q.1 12 0)) digest) 17 (Int32.toNatClampNeg (3 * (q.1 12 0))) ka) 17 (Int32.toNatClampNeg ((3 * (q.1 12 0)) + 1)) kb) 17 (Int32.toNatClampNeg ((3 * (q.1 12 0)) + 2)) kc) 12 0 ((q.1 12 0) + 1)) 3 0 day).1 12 0 = ((q.1 12 0) + 1) from ((mq_ne (by decide)).trans (mq_same (mq_i (mq_i (mq_i (mq_l (mq_i (mq_i (mq_i (mq_i q 0 0 0) 13 (Int32.toNatClampNeg (q.1 12 0)) f) 14 (Int32.toNatClampNeg (q.1 12 0)) day) 15 (Int32.toNatClampNeg (q.1 12 0)) size) 16 (Int32.toNatClampNeg (q.1 12 0)) digest) 17 (Int32.toNatClampNeg (3 * (q.1 12 0))) ka) 17 (Int32.toNatClampNeg ((3 * (q.1 12 0)) + 1)) kb) 17 (Int32.toNatClampNeg ((3 * (q.1 12 0)) + 2)) kc) 12 0 ((q.1 12 0) + 1)))]
                      have k_1 : (5 : Int32).toInt = 5 := rfl
                      have u_2 := rg_e (q.1 12 0)
                      have u_3 := rg_e f
                      have u_4 := rg_e day
                      have k_5 : (1 : Int32).toInt = 1 := rfl
                      have u_7 := rg_e (m_X8_isIn ka (-1) 99)
                      have k_8 : (0 : Int32).toInt = 0 := rfl
                      have v_9 := cv_ne c_1
                      have u_10 := rg_e ka
                      have k_11 : ((-1) : Int32).toInt = -1 := rfl
                      have k_12 : (99 : Int32).toInt = 99 := rfl
                      have v_13 := is_t c_1
                      have u_14 := rg_e (m_X8_isIn kb (-1) 99)
                      have v_15 := cv_ne c_3
                      have u_16 := rg_e kb
                      have v_17 := is_t c_3
                      have u_18 := rg_e (m_X8_isIn kc (-1) 99)
                      have v_19 := cv_ne c_5
                      have u_20 := rg_e kc
                      have v_21 := is_t c_5
                      have u_22 := rg_e (m_X8_isIn size 1 65536)
                      have v_23 := cv_ne c_7
                      have u_24 := rg_e size
                      have k_25 : (65536 : Int32).toInt = 65536 := rfl
                      have v_26 := is_t c_7
                      have u_27 := rg_e (m_X8_isDay q day)
                      have v_28 := cv_ne c_9
                      have v_29 := dy_t c_9
                      have u_30 := rg_e (m_X8_noFolder q f)
                      have v_31 := cv_eq c_11
                      have v_32 := nf_t c_11
                      have u_33 := rg_e (q.1 10 (Int32.toNatClampNeg f))
                      have v_34 := cv_eq c_13
                      have k_35 : (64 : Int32).toInt = 64 := rfl
                      have v_36 := cv_ne c_14
                      have u_37 := rg_e (m_X8_hasRoom q 1)
                      have v_38 := cv_ne c_15
                      have v_39 := hr_t c_15
                      have w_40 := hI.2.2.2.1
                      have w_41 := hL.2.2.2.2.2
                      have u_6 := ad_o (q.1 12 0) 1
                      exact by omega
                    refine mm_callVv (n := 4) (As := [.int 5, .int (q.1 12 0), .int f, .int day]) (rest := []) (q2 := (m_X8_write (mq_i (mq_i (mq_i (mq_i (mq_i (mq_l (mq_i (mq_i (mq_i (mq_i q 0 0 0) 13 (Int32.toNatClampNeg (q.1 12 0)) f) 14 (Int32.toNatClampNeg (q.1 12 0)) day) 15 (Int32.toNatClampNeg (q.1 12 0)) size) 16 (Int32.toNatClampNeg (q.1 12 0)) digest) 17 (Int32.toNatClampNeg (3 * (q.1 12 0))) ka) 17 (Int32.toNatClampNeg ((3 * (q.1 12 0)) + 1)) kb) 17 (Int32.toNatClampNeg ((3 * (q.1 12 0)) + 2)) kc) 12 0 ((q.1 12 0) + 1)) 3 0 day) 5 (q.1 12 0) f day)) ⟨hx, hb, hml, hown, hts⟩ (c_X8_write l D b0 Pc cA ad (mq_i (mq_i (mq_i (mq_i (mq_i (mq_l (mq_i (mq_i (mq_i (mq_i q 0 0 0) 13 (Int32.toNatClampNeg (q.1 12 0)) f) 14 (Int32.toNatClampNeg (q.1 12 0)) day) 15 (Int32.toNatClampNeg (q.1 12 0)) size) 16 (Int32.toNatClampNeg (q.1 12 0)) digest) 17 (Int32.toNatClampNeg (3 * (q.1 12 0))) ka) 17 (Int32.toNatClampNeg ((3 * (q.1 12 0)) + 1)) kb) 17 (Int32.toNatClampNeg ((3 * (q.1 12 0)) + 2)) kc) 12 0 ((q.1 12 0) + 1)) 3 0 day) 5 (q.1 12 0) f day h_23 h_24) gX8_file_X8_write rfl (by decide +kernel) rfl ⟨Nat.le_of_ble_eq_true rfl, Nat.le_of_ble_eq_true rfl⟩ ⟨Nat.le_of_ble_eq_true rfl, Nat.le_of_ble_eq_true rfl⟩ hK hW hS hl.1 rfl (Nat.le_of_ble_eq_true rfl) dX8_file_224 (fun H locs hW hS => ?_)
                    refine lv_iload hx hb dX8_file_227 (lv_at hl 0 rfl) ?_
                    exact mm_iret hx hb hr hlk hK hW hS (by rw [m_X8_file, if_neg c_1, if_neg c_3, if_neg c_5, if_neg c_7, if_neg c_9, if_pos c_11, if_pos c_13, if_neg c_14, if_neg c_15]) dX8_file_229
                  · refine lv_iconst (v := 3) hx hb dX8_file_108 (by decide) ?_
                    refine lv_goto (tgt := 113) hx hb dX8_file_109 (by decide) ?_
                    refine mm_put hx hb hts hin hown hK hW hS 0 (by decide) (List.mem_of_getElem? (i := 4) rfl) rfl rfl (by decide +kernel) rfl (ws_0 ad _ _) dX8_file_113 (fun H locs hW hS => ?_)
                    refine lv_aload_n hx hb dX8_file_116 rfl (lv_at hl 1 rfl) ?_
                    refine mm_gets (v := 3) hx hb hts hin hown hK hW 0 (by decide) (List.mem_of_getElem? (i := 4) rfl) rfl rfl (mq_same q 0 0 3) dX8_file_117 ?_
                    refine lv_if_le (tgt := 125) hx hb dX8_file_120 (by decide) (fun h => absurd h (by decide)) (fun _ => ?_)
                    refine lv_iconst (v := 0) hx hb dX8_file_123 (by decide) ?_
                    exact mm_iret hx hb hr hlk hK hW hS (by rw [m_X8_file, if_neg c_1, if_neg c_3, if_neg c_5, if_neg c_7, if_neg c_9, if_pos c_11, if_pos c_13, if_neg c_14, if_pos c_15]) dX8_file_124
            · refine lv_iconst (v := 1) hx hb dX8_file_68 (by decide) ?_
              refine lv_goto (tgt := 113) hx hb dX8_file_69 (by decide) ?_
              refine mm_put hx hb hts hin hown hK hW hS 0 (by decide) (List.mem_of_getElem? (i := 4) rfl) rfl rfl (by decide +kernel) rfl (ws_0 ad _ _) dX8_file_113 (fun H locs hW hS => ?_)
              refine lv_aload_n hx hb dX8_file_116 rfl (lv_at hl 1 rfl) ?_
              refine mm_gets (v := 1) hx hb hts hin hown hK hW 0 (by decide) (List.mem_of_getElem? (i := 4) rfl) rfl rfl (mq_same q 0 0 1) dX8_file_117 ?_
              refine lv_if_le (tgt := 125) hx hb dX8_file_120 (by decide) (fun h => absurd h (by decide)) (fun _ => ?_)
              refine lv_iconst (v := 0) hx hb dX8_file_123 (by decide) ?_
              exact mm_iret hx hb hr hlk hK hW hS (by rw [m_X8_file, if_neg c_1, if_neg c_3, if_neg c_5, if_neg c_7, if_neg c_9, if_neg c_11]) dX8_file_124
