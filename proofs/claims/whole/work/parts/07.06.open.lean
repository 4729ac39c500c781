def m_X8_open (q : qM) (f : Int32) (cl : Int32) : qM := (if (m_X8_isIn f 0 15) = 0 then (mq_i q 0 0 1) else (if (m_X8_isIn cl 0 7) = 0 then (mq_i q 0 0 1) else (if (q.1 9 (Int32.toNatClampNeg f)) = (-1) then (if (q.1 5 (Int32.toNatClampNeg cl)) = 0 then (mq_i q 0 0 2) else (if (m_X8_hasRoom q 1) = 0 then (mq_i q 0 0 2) else (m_X8_write (mq_i (mq_i q 0 0 0) 9 (Int32.toNatClampNeg f) cl) 2 f cl 0))) else (mq_i q 0 0 2))))
set_option maxHeartbeats 4000000 in
set_option maxRecDepth 100000 in
theorem c_X8_open (l : Launch) (D : va_G) (b0 : Nat) (Pc : Nat → Nat → Option va_E) (cA : Nat → ClassId) (ad : Nat → Nat → Nat) (q : qM) (f : Int32) (cl : Int32) (hI : gI q) (hL : lI q) : mc_v l yX8_open wsX8_open 3 74 D b0 Pc cA ad q [.ref (ad 20 0), .int f, .int cl] (m_X8_open q f cl) := by
  refine mc_of (by decide) rfl (Nat.le_of_ble_eq_true rfl) ?_
  intro p e s m below meth c hx hb hml hr hlk hown hts hK hW ls hl
  have hown : s.vm.findClass RX8 = some m.cls := hown
  have hS : va_S (wA b0) s.heap s.heap [] := va_S.rf
  have hl : lv_has ls 4 [(0, .ref (ad 20 0)), (1, .int f), (2, .int cl)] := hl
  have hin : ∀ w ∈ wsX80, w ∈ wsX8_open := fun w h => List.mem_cons_of_mem _ (List.mem_append_right _ h)
  refine lv_iload_n hx hb dX8_open_0 rfl (lv_at hl 1 rfl) ?_
  refine lv_iconst (v := 0) hx hb dX8_open_1 (by decide) ?_
  refine lv_bipush (v := 15) hx hb dX8_open_2 (by decide) ?_
  refine mm_callSi (n := 3) (As := [.int f, .int 0, .int 15]) (rest := []) (r := (m_X8_isIn f 0 15)) (q2 := q) ⟨hx, hb, hml, hown, hts⟩ (c_X8_isIn l D b0 Pc cA ad q f 0 15) gX8_open_X8_isIn rfl (by decide +kernel) rfl ⟨Nat.le_of_ble_eq_true rfl, Nat.le_of_ble_eq_true rfl⟩ ⟨Nat.le_of_ble_eq_true rfl, Nat.le_of_ble_eq_true rfl⟩ hK hW hS hl.1 rfl (Nat.le_of_ble_eq_true rfl) dX8_open_4 (fun H locs hW hS => ?_)
  refine lv_if_eq (tgt := 24) hx hb dX8_open_7 (by decide) (fun c_1 => ?_) (fun c_1 => ?_)
  · refine lv_iconst (v := 0) hx hb dX8_open_24 (by decide) ?_
    refine lv_istore_n (lv' := [(3, .int 0), (0, .ref (ad 20 0)), (1, .int f), (2, .int cl)]) hx hb dX8_open_25 rfl hl (by decide) rfl (fun ls hl => ?_)
    refine lv_aload_n hx hb dX8_open_26 rfl (lv_at hl 1 rfl) ?_
    refine lv_iload_n hx hb dX8_open_27 rfl (lv_at hl 0 rfl) ?_
    refine lv_if_ne (tgt := 35) hx hb dX8_open_28 (by decide) (fun h => absurd h (by decide)) (fun _ => ?_)
    refine lv_iconst (v := 1) hx hb dX8_open_31 (by decide) ?_
    refine lv_goto (tgt := 67) hx hb dX8_open_32 (by decide) ?_
    refine mm_put hx hb hts hin hown hK hW hS 0 (by decide) (List.mem_of_getElem? (i := 3) rfl) rfl rfl (by decide +kernel) rfl (ws_0 ad _ _) dX8_open_67 (fun H locs hW hS => ?_)
    refine lv_aload_n hx hb dX8_open_70 rfl (lv_at hl 1 rfl) ?_
    refine mm_gets (v := 1) hx hb hts hin hown hK hW 0 (by decide) (List.mem_of_getElem? (i := 3) rfl) rfl rfl (mq_same q 0 0 1) dX8_open_71 ?_
    refine lv_if_ne (tgt := 92) hx hb dX8_open_74 (by decide) (fun _ => ?_) (fun h => absurd h (by decide))
    exact mm_vret hx hb hr hlk hK hW hS (by rw [m_X8_open, if_pos c_1]) dX8_open_92
  · refine lv_iload_n hx hb dX8_open_10 rfl (lv_at hl 2 rfl) ?_
    refine lv_iconst (v := 0) hx hb dX8_open_11 (by decide) ?_
    refine lv_bipush (v := 7) hx hb dX8_open_12 (by decide) ?_
    refine mm_callSi (n := 3) (As := [.int cl, .int 0, .int 7]) (rest := []) (r := (m_X8_isIn cl 0 7)) (q2 := q) ⟨hx, hb, hml, hown, hts⟩ (c_X8_isIn l D b0 Pc cA ad q cl 0 7) gX8_open_X8_isIn rfl (by decide +kernel) rfl ⟨Nat.le_of_ble_eq_true rfl, Nat.le_of_ble_eq_true rfl⟩ ⟨Nat.le_of_ble_eq_true rfl, Nat.le_of_ble_eq_true rfl⟩ hK hW hS hl.1 rfl (Nat.le_of_ble_eq_true rfl) dX8_open_14 (fun H locs hW hS => ?_)
    refine lv_if_eq (tgt := 24) hx hb dX8_open_17 (by decide) (fun c_2 => ?_) (fun c_2 => ?_)
    · refine lv_iconst (v := 0) hx hb dX8_open_24 (by decide) ?_
      refine lv_istore_n (lv' := [(3, .int 0), (0, .ref (ad 20 0)), (1, .int f), (2, .int cl)]) hx hb dX8_open_25 rfl hl (by decide) rfl (fun ls hl => ?_)
      refine lv_aload_n hx hb dX8_open_26 rfl (lv_at hl 1 rfl) ?_
      refine lv_iload_n hx hb dX8_open_27 rfl (lv_at hl 0 rfl) ?_
      refine lv_if_ne (tgt := 35) hx hb dX8_open_28 (by decide) (fun h => absurd h (by decide)) (fun _ => ?_)
      refine lv_iconst (v := 1) hx hb dX8_open_31 (by decide) ?_
      refine lv_goto (tgt := 67) hx hb dX8_open_32 (by decide) ?_
      refine mm_put hx hb hts hin hown hK hW hS 0 (by decide) (List.mem_of_getElem? (i := 3) rfl) rfl rfl (by decide +kernel) rfl (ws_0 ad _ _) dX8_open_67 (fun H locs hW hS => ?_)
      refine lv_aload_n hx hb dX8_open_70 rfl (lv_at hl 1 rfl) ?_
      refine mm_gets (v := 1) hx hb hts hin hown hK hW 0 (by decide) (List.mem_of_getElem? (i := 3) rfl) rfl rfl (mq_same q 0 0 1) dX8_open_71 ?_
      refine lv_if_ne (tgt := 92) hx hb dX8_open_74 (by decide) (fun _ => ?_) (fun h => absurd h (by decide))
      exact mm_vret hx hb hr hlk hK hW hS (by rw [m_X8_open, if_neg c_1, if_pos c_2]) dX8_open_92
    · refine lv_iconst (v := 1) hx hb dX8_open_20 (by decide) ?_
      refine lv_goto (tgt := 25) hx hb dX8_open_21 (by decide) ?_
      refine lv_istore_n (lv' := [(3, .int 1), (0, .ref (ad 20 0)), (1, .int f), (2, .int cl)]) hx hb dX8_open_25 rfl hl (by decide) rfl (fun ls hl => ?_)
      refine lv_aload_n hx hb dX8_open_26 rfl (lv_at hl 1 rfl) ?_
      refine lv_iload_n hx hb dX8_open_27 rfl (lv_at hl 0 rfl) ?_
      refine lv_if_ne (tgt := 35) hx hb dX8_open_28 (by decide) (fun _ => ?_) (fun h => absurd h (by decide))
      refine lv_aload_n hx hb dX8_open_35 rfl (lv_at hl 1 rfl) ?_
      refine mm_get (v := .ref (ad 21 9)) hx hb hts hin hown hK hW 9 (by decide) (List.mem_of_getElem? (i := 1) rfl) rfl rfl dX8_open_36 ?_
      refine lv_iload_n hx hb dX8_open_39 rfl (lv_at hl 2 rfl) ?_
      have b_3 : vp_in f 16 := by
        have u_1 := rg_e f
        have u_2 := rg_e (m_X8_isIn f 0 15)
        have k_3 : (0 : Int32).toInt = 0 := rfl
        have v_4 := cv_ne c_1
        have k_5 : (15 : Int32).toInt = 15 := rfl
        have v_6 := is_t c_1
        have u_7 := rg_e (m_X8_isIn cl 0 7)
        have v_8 := cv_ne c_2
        have u_9 := rg_e cl
        have k_10 : (7 : Int32).toInt = 7 := rfl
        have v_11 := is_t c_2
        have w_12 := hL.2.2.2.2.2
        exact vp_in_iff.mpr (by omega)
      refine mm_iald (v := (q.1 9 (Int32.toNatClampNeg f))) hx hb hK hW 9 16 rfl b_3 ((rfl)) dX8_open_40 ?_
      refine lv_iconst (v := (-1)) hx hb dX8_open_41 (by decide) ?_
      refine lv_icmp_ne (tgt := 62) hx hb dX8_open_42 (by decide) (fun c_4 => ?_) (fun c_4 => ?_)
      · refine lv_iconst (v := 2) hx hb dX8_open_62 (by decide) ?_
        refine lv_goto (tgt := 67) hx hb dX8_open_63 (by decide) ?_
        refine mm_put hx hb hts hin hown hK hW hS 0 (by decide) (List.mem_of_getElem? (i := 3) rfl) rfl rfl (by decide +kernel) rfl (ws_0 ad _ _) dX8_open_67 (fun H locs hW hS => ?_)
        refine lv_aload_n hx hb dX8_open_70 rfl (lv_at hl 1 rfl) ?_
        refine mm_gets (v := 2) hx hb hts hin hown hK hW 0 (by decide) (List.mem_of_getElem? (i := 3) rfl) rfl rfl (mq_same q 0 0 2) dX8_open_71 ?_
        refine lv_if_ne (tgt := 92) hx hb dX8_open_74 (by decide) (fun _ => ?_) (fun h => absurd h (by decide))
        exact mm_vret hx hb hr hlk hK hW hS (by rw [m_X8_open, if_neg c_1, if_neg c_2, if_neg c_4]) dX8_open_92
      · refine lv_aload_n hx hb dX8_open_45 rfl (lv_at hl 1 rfl) ?_
        refine mm_get (v := .ref (ad 21 5)) hx hb hts hin hown hK hW 5 (by decide) (List.mem_of_getElem? (i := 2) rfl) rfl rfl dX8_open_46 ?_
        refine lv_iload_n hx hb dX8_open_49 rfl (lv_at hl 3 rfl) ?_
        have b_5 : vp_in cl 8 := by
          have u_1 := rg_e cl
          have u_2 := rg_e (m_X8_isIn f 0 15)
          have k_3 : (0 : Int32).toInt = 0 := rfl
          have v_4 := cv_ne c_1
          have u_5 := rg_e f
          have k_6 : (15 : Int32).toInt = 15 := rfl
          have v_7 := is_t c_1
          have u_8 := rg_e (m_X8_isIn cl 0 7)
          have v_9 := cv_ne c_2
          have k_10 : (7 : Int32).toInt = 7 := rfl
          have v_11 := is_t c_2
          have u_12 := rg_e (q.1 9 (Int32.toNatClampNeg f))
          have k_13 : ((-1) : Int32).toInt = -1 := rfl
          have v_14 := cv_eq c_4
          have w_15 := hL.2.2.2.2.2
          exact vp_in_iff.mpr (by omega)
        refine mm_iald (v := (q.1 5 (Int32.toNatClampNeg cl))) hx hb hK hW 5 8 rfl b_5 ((rfl)) dX8_open_50 ?_
        refine lv_if_eq (tgt := 62) hx hb dX8_open_51 (by decide) (fun c_6 => ?_) (fun c_6 => ?_)
        · refine lv_iconst (v := 2) hx hb dX8_open_62 (by decide) ?_
          refine lv_goto (tgt := 67) hx hb dX8_open_63 (by decide) ?_
          refine mm_put hx hb hts hin hown hK hW hS 0 (by decide) (List.mem_of_getElem? (i := 3) rfl) rfl rfl (by decide +kernel) rfl (ws_0 ad _ _) dX8_open_67 (fun H locs hW hS => ?_)
          refine lv_aload_n hx hb dX8_open_70 rfl (lv_at hl 1 rfl) ?_
          refine mm_gets (v := 2) hx hb hts hin hown hK hW 0 (by decide) (List.mem_of_getElem? (i := 3) rfl) rfl rfl (mq_same q 0 0 2) dX8_open_71 ?_
          refine lv_if_ne (tgt := 92) hx hb dX8_open_74 (by decide) (fun _ => ?_) (fun h => absurd h (by decide))
          exact mm_vret hx hb hr hlk hK hW hS (by rw [m_X8_open, if_neg c_1, if_neg c_2, if_pos c_4, if_pos c_6]) dX8_open_92
        · refine lv_aload_n hx hb dX8_open_54 rfl (lv_at hl 1 rfl) ?_
          refine lv_iconst (v := 1) hx hb dX8_open_55 (by decide) ?_
          refine mm_callVi (n := 1) (As := [.int 1]) (rest := [.ref (ad 20 0)]) (r := (m_X8_hasRoom q 1)) (q2 := q) ⟨hx, hb, hml, hown, hts⟩ (c_X8_hasRoom l D b0 Pc cA ad q 1) gX8_open_X8_hasRoom rfl (by decide +kernel) rfl ⟨Nat.le_of_ble_eq_true rfl, Nat.le_of_ble_eq_true rfl⟩ ⟨Nat.le_of_ble_eq_true rfl, Nat.le_of_ble_eq_true rfl⟩ hK hW hS hl.1 rfl (Nat.le_of_ble_eq_true rfl) dX8_open_56 (fun H locs hW hS => ?_)
          refine lv_if_ne (tgt := 66) hx hb dX8_open_59 (by decide) (fun c_7 => ?_) (fun c_7 => ?_)
          · refine lv_iconst (v := 0) hx hb dX8_open_66 (by decide) ?_
            refine mm_put hx hb hts hin hown hK hW hS 0 (by decide) (List.mem_of_getElem? (i := 3) rfl) rfl rfl (by decide +kernel) rfl (ws_0 ad _ _) dX8_open_67 (fun H locs hW hS => ?_)
            refine lv_aload_n hx hb dX8_open_70 rfl (lv_at hl 1 rfl) ?_
            refine mm_gets (v := 0) hx hb hts hin hown hK hW 0 (by decide) (List.mem_of_getElem? (i := 3) rfl) rfl rfl (mq_same q 0 0 0) dX8_open_71 ?_
            refine lv_if_ne (tgt := 92) hx hb dX8_open_74 (by decide) (fun h => absurd h (by decide)) (fun _ => ?_)
            refine lv_aload_n hx hb dX8_open_77 rfl (lv_at hl 1 rfl) ?_
            refine mm_get (v := .ref (ad 21 9)) hx hb hts hin hown hK hW 9 (by decide) (List.mem_of_getElem? (i := 1) rfl) rfl rfl dX8_open_78 ?_
            refine lv_iload_n hx hb dX8_open_81 rfl (lv_at hl 2 rfl) ?_
            refine lv_iload_n hx hb dX8_open_82 rfl (lv_at hl 3 rfl) ?_
            have b_8 : vp_in f 16 := by
              have u_1 := rg_e f
              have u_2 := rg_e (m_X8_isIn f 0 15)
              have k_3 : (0 : Int32).toInt = 0 := rfl
              have v_4 := cv_ne c_1
              have k_5 : (15 : Int32).toInt = 15 := rfl
              have v_6 := is_t c_1
              have u_7 := rg_e (m_X8_isIn cl 0 7)
              have v_8 := cv_ne c_2
              have u_9 := rg_e cl
              have k_10 : (7 : Int32).toInt = 7 := rfl
              have v_11 := is_t c_2
              have u_12 := rg_e (q.1 9 (Int32.toNatClampNeg f))
              have k_13 : ((-1) : Int32).toInt = -1 := rfl
              have v_14 := cv_eq c_4
              have u_15 := rg_e (q.1 5 (Int32.toNatClampNeg cl))
              have v_16 := cv_ne c_6
              have u_17 := rg_e (m_X8_hasRoom q 1)
              have v_18 := cv_ne c_7
              have k_19 : (1 : Int32).toInt = 1 := rfl
              have v_20 := hr_t c_7
              have w_21 := hL.2.2.2.2.2
              exact vp_in_iff.mpr (by omega)
            refine mm_iast hx hb hK hW hS 9 16 rfl b_8 dX8_open_83 (fun H locs hW hS => ?_)
            refine lv_aload_n hx hb dX8_open_84 rfl (lv_at hl 1 rfl) ?_
            refine lv_iconst (v := 2) hx hb dX8_open_85 (by decide) ?_
            refine lv_iload_n hx hb dX8_open_86 rfl (lv_at hl 2 rfl) ?_
            refine lv_iload_n hx hb dX8_open_87 rfl (lv_at hl 3 rfl) ?_
            refine lv_iconst (v := 0) hx hb dX8_open_88 (by decide) ?_
            have h_9 : 0 ≤ ((mq_i (mq_i q 0 0 0) 9 (Int32.toNatClampNeg f) cl).1 31 0).toInt ∧ ((mq_i (mq_i q 0 0 0) 9 (Int32.toNatClampNeg f) cl).1 31 0).toInt ≤ 399 := by
              rw [show (mq_i (mq_i q 0 0 0) 9 (Int32.toNatClampNeg f) cl).1 31 0 = (q.1 31 0) from ((mq_ne (by decide)).trans (mq_ne (by decide)))]
              have k_1 : (2 : Int32).toInt = 2 := rfl
              have u_2 := rg_e f
              have u_3 := rg_e cl
              have k_4 : (0 : Int32).toInt = 0 := rfl
              have u_5 := rg_e (m_X8_isIn f 0 15)
              have v_6 := cv_ne c_1
              have k_7 : (15 : Int32).toInt = 15 := rfl
              have v_8 := is_t c_1
              have u_9 := rg_e (m_X8_isIn cl 0 7)
              have v_10 := cv_ne c_2
              have k_11 : (7 : Int32).toInt = 7 := rfl
              have v_12 := is_t c_2
              have u_13 := rg_e (q.1 9 (Int32.toNatClampNeg f))
              have k_14 : ((-1) : Int32).toInt = -1 := rfl
              have v_15 := cv_eq c_4
              have u_16 := rg_e (q.1 5 (Int32.toNatClampNeg cl))
              have v_17 := cv_ne c_6
              have u_18 := rg_e (m_X8_hasRoom q 1)
              have v_19 := cv_ne c_7
              have k_20 : (1 : Int32).toInt = 1 := rfl
              have v_21 := hr_t c_7
              have w_22 := hL.2.2.2.2.2
              exact by omega
            have h_10 : 0 ≤ ((mq_i (mq_i q 0 0 0) 9 (Int32.toNatClampNeg f) cl).1 12 0).toInt ∧ ((mq_i (mq_i q 0 0 0) 9 (Int32.toNatClampNeg f) cl).1 12 0).toInt ≤ 64 := by
              rw [show (mq_i (mq_i q 0 0 0) 9 (Int32.toNatClampNeg f) cl).1 12 0 = (q.1 12 0) from ((mq_ne (by decide)).trans (mq_ne (by decide)))]
              exact hI.2.2.2.1
            refine mm_callVv (n := 4) (As := [.int 2, .int f, .int cl, .int 0]) (rest := []) (q2 := (m_X8_write (mq_i (mq_i q 0 0 0) 9 (Int32.toNatClampNeg f) cl) 2 f cl 0)) ⟨hx, hb, hml, hown, hts⟩ (c_X8_write l D b0 Pc cA ad (mq_i (mq_i q 0 0 0) 9 (Int32.toNatClampNeg f) cl) 2 f cl 0 h_9 h_10) gX8_open_X8_write rfl (by decide +kernel) rfl ⟨Nat.le_of_ble_eq_true rfl, Nat.le_of_ble_eq_true rfl⟩ ⟨Nat.le_of_ble_eq_true rfl, Nat.le_of_ble_eq_true rfl⟩ hK hW hS hl.1 rfl (Nat.le_of_ble_eq_true rfl) dX8_open_89 (fun H locs hW hS => ?_)
            exact mm_vret hx hb hr hlk hK hW hS (by rw [m_X8_open, if_neg c_1, if_neg c_2, if_pos c_4, if_neg c_6, if_neg c_7]) dX8_open_92
          · refine lv_iconst (v := 2) hx hb dX8_open_62 (by decide) ?_
            refine lv_goto (tgt := 67) hx hb dX8_open_63 (by decide) ?_
            refine mm_put hx hb hts hin hown hK hW hS 0 (by decide) (List.mem_of_getElem? (i := 3) rfl) rfl rfl (by decide +kernel) rfl (ws_0 ad _ _) dX8_open_67 (fun H locs hW hS => ?_)
            refine lv_aload_n hx hb dX8_open_70 rfl (lv_at hl 1 rfl) ?_
            refine mm_gets (v := 2) hx hb hts hin hown hK hW 0 (by decide) (List.mem_of_getElem? (i := 3) rfl) rfl rfl (mq_same q 0 0 2) dX8_open_71 ?_
            refine lv_if_ne (tgt := 92) hx hb dX8_open_74 (by decide) (fun _ => ?_) (fun h => absurd h (by decide))
            exact mm_vret hx hb hr hlk hK hW hS (by rw [m_X8_open, if_neg c_1, if_neg c_2, if_pos c_4, if_neg c_6, if_pos c_7]) dX8_open_92
