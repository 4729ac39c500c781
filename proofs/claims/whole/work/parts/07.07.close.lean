def m_X8_close (q : qM) (f : Int32) (day : Int32) : qM := (if (m_X8_noFolder q f) = 0 then (if (m_X8_isDay q day) = 0 then (mq_i q 0 0 2) else (if (q.1 10 (Int32.toNatClampNeg f)) = (-1) then (if (m_X8_hasRoom q 1) = 0 then (mq_i q 0 0 3) else (m_X8_write (mq_i (mq_i (mq_i q 0 0 0) 10 (Int32.toNatClampNeg f) day) 3 0 day) 3 f day 0)) else (mq_i q 0 0 3))) else (mq_i q 0 0 1))
set_option maxHeartbeats 4000000 in
set_option maxRecDepth 100000 in
theorem c_X8_close (l : Launch) (D : va_G) (b0 : Nat) (Pc : Nat → Nat → Option va_E) (cA : Nat → ClassId) (ad : Nat → Nat → Nat) (q : qM) (f : Int32) (day : Int32) (hI : gI q) (hL : lI q) : mc_v l yX8_close wsX8_close 3 74 D b0 Pc cA ad q [.ref (ad 20 0), .int f, .int day] (m_X8_close q f day) := by
  refine mc_of (by decide) rfl (Nat.le_of_ble_eq_true rfl) ?_
  intro p e s m below meth c hx hb hml hr hlk hown hts hK hW ls hl
  have hown : s.vm.findClass RX8 = some m.cls := hown
  have hS : va_S (wA b0) s.heap s.heap [] := va_S.rf
  have hl : lv_has ls 3 [(0, .ref (ad 20 0)), (1, .int f), (2, .int day)] := hl
  have hin : ∀ w ∈ wsX80, w ∈ wsX8_close := fun w h => List.mem_cons_of_mem _ (List.mem_append_right _ h)
  refine lv_aload_n hx hb dX8_close_0 rfl (lv_at hl 0 rfl) ?_
  refine lv_aload_n hx hb dX8_close_1 rfl (lv_at hl 0 rfl) ?_
  refine lv_iload_n hx hb dX8_close_2 rfl (lv_at hl 1 rfl) ?_
  refine mm_callVi (n := 1) (As := [.int f]) (rest := [.ref (ad 20 0)]) (r := (m_X8_noFolder q f)) (q2 := q) ⟨hx, hb, hml, hown, hts⟩ (c_X8_noFolder l D b0 Pc cA ad q f) gX8_close_X8_noFolder rfl (by decide +kernel) rfl ⟨Nat.le_of_ble_eq_true rfl, Nat.le_of_ble_eq_true rfl⟩ ⟨Nat.le_of_ble_eq_true rfl, Nat.le_of_ble_eq_true rfl⟩ hK hW hS hl.1 rfl (Nat.le_of_ble_eq_true rfl) dX8_close_3 (fun H locs hW hS => ?_)
  refine lv_if_eq (tgt := 13) hx hb dX8_close_6 (by decide) (fun c_1 => ?_) (fun c_1 => ?_)
  · refine lv_aload_n hx hb dX8_close_13 rfl (lv_at hl 0 rfl) ?_
    refine lv_iload_n hx hb dX8_close_14 rfl (lv_at hl 2 rfl) ?_
    refine mm_callVi (n := 1) (As := [.int day]) (rest := [.ref (ad 20 0)]) (r := (m_X8_isDay q day)) (q2 := q) ⟨hx, hb, hml, hown, hts⟩ (c_X8_isDay l D b0 Pc cA ad q day) gX8_close_X8_isDay rfl (by decide +kernel) rfl ⟨Nat.le_of_ble_eq_true rfl, Nat.le_of_ble_eq_true rfl⟩ ⟨Nat.le_of_ble_eq_true rfl, Nat.le_of_ble_eq_true rfl⟩ hK hW hS hl.1 rfl (Nat.le_of_ble_eq_true rfl) dX8_close_15 (fun H locs hW hS => ?_)
    refine lv_if_ne (tgt := 25) hx hb dX8_close_18 (by decide) (fun c_2 => ?_) (fun c_2 => ?_)
    · refine lv_aload_n hx hb dX8_close_25 rfl (lv_at hl 0 rfl) ?_
      refine mm_get (v := .ref (ad 21 10)) hx hb hts hin hown hK hW 10 (by decide) (List.mem_of_getElem? (i := 1) rfl) rfl rfl dX8_close_26 ?_
      refine lv_iload_n hx hb dX8_close_29 rfl (lv_at hl 1 rfl) ?_
      have b_3 : vp_in f 16 := by
        have u_1 := rg_e f
        have u_2 := rg_e (m_X8_noFolder q f)
        have k_3 : (0 : Int32).toInt = 0 := rfl
        have v_4 := cv_eq c_1
        have v_5 := nf_t c_1
        have u_6 := rg_e (m_X8_isDay q day)
        have v_7 := cv_ne c_2
        have u_8 := rg_e day
        have v_9 := dy_t c_2
        have w_10 := hL.2.2.2.2.2
        exact vp_in_iff.mpr (by omega)
      refine mm_iald (v := (q.1 10 (Int32.toNatClampNeg f))) hx hb hK hW 10 16 rfl b_3 ((rfl)) dX8_close_30 ?_
      refine lv_iconst (v := (-1)) hx hb dX8_close_31 (by decide) ?_
      refine lv_icmp_ne (tgt := 43) hx hb dX8_close_32 (by decide) (fun c_4 => ?_) (fun c_4 => ?_)
      · refine lv_iconst (v := 3) hx hb dX8_close_43 (by decide) ?_
        refine lv_goto (tgt := 48) hx hb dX8_close_44 (by decide) ?_
        refine mm_put hx hb hts hin hown hK hW hS 0 (by decide) (List.mem_of_getElem? (i := 2) rfl) rfl rfl (by decide +kernel) rfl (ws_0 ad _ _) dX8_close_48 (fun H locs hW hS => ?_)
        refine lv_aload_n hx hb dX8_close_51 rfl (lv_at hl 0 rfl) ?_
        refine mm_gets (v := 3) hx hb hts hin hown hK hW 0 (by decide) (List.mem_of_getElem? (i := 2) rfl) rfl rfl (mq_same q 0 0 3) dX8_close_52 ?_
        refine lv_if_ne (tgt := 78) hx hb dX8_close_55 (by decide) (fun _ => ?_) (fun h => absurd h (by decide))
        exact mm_vret hx hb hr hlk hK hW hS (by rw [m_X8_close, if_pos c_1, if_neg c_2, if_neg c_4]) dX8_close_78
      · refine lv_aload_n hx hb dX8_close_35 rfl (lv_at hl 0 rfl) ?_
        refine lv_iconst (v := 1) hx hb dX8_close_36 (by decide) ?_
        refine mm_callVi (n := 1) (As := [.int 1]) (rest := [.ref (ad 20 0)]) (r := (m_X8_hasRoom q 1)) (q2 := q) ⟨hx, hb, hml, hown, hts⟩ (c_X8_hasRoom l D b0 Pc cA ad q 1) gX8_close_X8_hasRoom rfl (by decide +kernel) rfl ⟨Nat.le_of_ble_eq_true rfl, Nat.le_of_ble_eq_true rfl⟩ ⟨Nat.le_of_ble_eq_true rfl, Nat.le_of_ble_eq_true rfl⟩ hK hW hS hl.1 rfl (Nat.le_of_ble_eq_true rfl) dX8_close_37 (fun H locs hW hS => ?_)
        refine lv_if_ne (tgt := 47) hx hb dX8_close_40 (by decide) (fun c_5 => ?_) (fun c_5 => ?_)
        · refine lv_iconst (v := 0) hx hb dX8_close_47 (by decide) ?_
          refine mm_put hx hb hts hin hown hK hW hS 0 (by decide) (List.mem_of_getElem? (i := 2) rfl) rfl rfl (by decide +kernel) rfl (ws_0 ad _ _) dX8_close_48 (fun H locs hW hS => ?_)
          refine lv_aload_n hx hb dX8_close_51 rfl (lv_at hl 0 rfl) ?_
          refine mm_gets (v := 0) hx hb hts hin hown hK hW 0 (by decide) (List.mem_of_getElem? (i := 2) rfl) rfl rfl (mq_same q 0 0 0) dX8_close_52 ?_
          refine lv_if_ne (tgt := 78) hx hb dX8_close_55 (by decide) (fun h => absurd h (by decide)) (fun _ => ?_)
          refine lv_aload_n hx hb dX8_close_58 rfl (lv_at hl 0 rfl) ?_
          refine mm_get (v := .ref (ad 21 10)) hx hb hts hin hown hK hW 10 (by decide) (List.mem_of_getElem? (i := 1) rfl) rfl rfl dX8_close_59 ?_
          refine lv_iload_n hx hb dX8_close_62 rfl (lv_at hl 1 rfl) ?_
          refine lv_iload_n hx hb dX8_close_63 rfl (lv_at hl 2 rfl) ?_
          have b_6 : vp_in f 16 := by
            have u_1 := rg_e f
            have u_2 := rg_e (m_X8_noFolder q f)
            have k_3 : (0 : Int32).toInt = 0 := rfl
            have v_4 := cv_eq c_1
            have v_5 := nf_t c_1
            have u_6 := rg_e (m_X8_isDay q day)
            have v_7 := cv_ne c_2
            have u_8 := rg_e day
            have v_9 := dy_t c_2
            have u_10 := rg_e (q.1 10 (Int32.toNatClampNeg f))
            have k_11 : ((-1) : Int32).toInt = -1 := rfl
            have v_12 := cv_eq c_4
            have u_13 := rg_e (m_X8_hasRoom q 1)
            have v_14 := cv_ne c_5
            have k_15 : (1 : Int32).toInt = 1 := rfl
            have v_16 := hr_t c_5
            have w_17 := hL.2.2.2.2.2
            exact vp_in_iff.mpr (by omega)
          refine mm_iast hx hb hK hW hS 10 16 rfl b_6 dX8_close_64 (fun H locs hW hS => ?_)
          refine lv_aload_n hx hb dX8_close_65 rfl (lv_at hl 0 rfl) ?_
          refine lv_iload_n hx hb dX8_close_66 rfl (lv_at hl 2 rfl) ?_
          refine mm_put hx hb hts hin hown hK hW hS 3 (by decide) (List.mem_of_getElem? (i := 3) rfl) rfl rfl (by decide +kernel) rfl (ws_3 ad _ _) dX8_close_67 (fun H locs hW hS => ?_)
          refine lv_aload_n hx hb dX8_close_70 rfl (lv_at hl 0 rfl) ?_
          refine lv_iconst (v := 3) hx hb dX8_close_71 (by decide) ?_
          refine lv_iload_n hx hb dX8_close_72 rfl (lv_at hl 1 rfl) ?_
          refine lv_iload_n hx hb dX8_close_73 rfl (lv_at hl 2 rfl) ?_
          refine lv_iconst (v := 0) hx hb dX8_close_74 (by decide) ?_
          have h_7 : 0 ≤ ((mq_i (mq_i (mq_i q 0 0 0) 10 (Int32.toNatClampNeg f) day) 3 0 day).1 31 0).toInt ∧ ((mq_i (mq_i (mq_i q 0 0 0) 10 (Int32.toNatClampNeg f) day) 3 0 day).1 31 0).toInt ≤ 399 := by
            rw [show (mq_i (mq_i (mq_i q 0 0 0) 10 (Int32.toNatClampNeg f) day) 3 0 day).1 31 0 = (q.1 31 0) from ((mq_ne (by decide)).trans ((mq_ne (by decide)).trans (mq_ne (by decide))))]
            have k_1 : (3 : Int32).toInt = 3 := rfl
            have u_2 := rg_e f
            have u_3 := rg_e day
            have k_4 : (0 : Int32).toInt = 0 := rfl
            have u_5 := rg_e (m_X8_noFolder q f)
            have v_6 := cv_eq c_1
            have v_7 := nf_t c_1
            have u_8 := rg_e (m_X8_isDay q day)
            have v_9 := cv_ne c_2
            have v_10 := dy_t c_2
            have u_11 := rg_e (q.1 10 (Int32.toNatClampNeg f))
            have k_12 : ((-1) : Int32).toInt = -1 := rfl
            have v_13 := cv_eq c_4
            have u_14 := rg_e (m_X8_hasRoom q 1)
            have v_15 := cv_ne c_5
            have k_16 : (1 : Int32).toInt = 1 := rfl
            have v_17 := hr_t c_5
            have w_18 := hL.2.2.2.2.2
            exact by omega
          have h_8 : 0 ≤ ((mq_i (mq_i (mq_i q 0 0 0) 10 (Int32.toNatClampNeg f) day) 3 0 day).1 12 0).toInt ∧ ((mq_i (mq_i (mq_i q 0 0 0) 10 (Int32.toNatClampNeg f) day) 3 0 day).1 12 0).toInt ≤ 64 := by
            rw [show (mq_i (mq_i (mq_i q 0 0 0) 10 (Int32.toNatClampNeg f) day) 3 0 day).1 12 0 = (q.1 12 0) from ((mq_ne (by decide)).trans ((mq_ne (by decide)).trans (mq_ne (by decide))))]
            exact hI.2.2.2.1
          refine mm_callVv (n := 4) (As := [.int 3, .int f, .int day, .int 0]) (rest := []) (q2 := (m_X8_write (mq_i (mq_i (mq_i q 0 0 0) 10 (Int32.toNatClampNeg f) day) 3 0 day) 3 f day 0)) ⟨hx, hb, hml, hown, hts⟩ (c_X8_write l D b0 Pc cA ad (mq_i (mq_i (mq_i q 0 0 0) 10 (Int32.toNatClampNeg f) day) 3 0 day) 3 f day 0 h_7 h_8) gX8_close_X8_write rfl (by decide +kernel) rfl ⟨Nat.le_of_ble_eq_true rfl, Nat.le_of_ble_eq_true rfl⟩ ⟨Nat.le_of_ble_eq_true rfl, Nat.le_of_ble_eq_true rfl⟩ hK hW hS hl.1 rfl (Nat.le_of_ble_eq_true rfl) dX8_close_75 (fun H locs hW hS => ?_)
          exact mm_vret hx hb hr hlk hK hW hS (by rw [m_X8_close, if_pos c_1, if_neg c_2, if_pos c_4, if_neg c_5]) dX8_close_78
        · refine lv_iconst (v := 3) hx hb dX8_close_43 (by decide) ?_
          refine lv_goto (tgt := 48) hx hb dX8_close_44 (by decide) ?_
          refine mm_put hx hb hts hin hown hK hW hS 0 (by decide) (List.mem_of_getElem? (i := 2) rfl) rfl rfl (by decide +kernel) rfl (ws_0 ad _ _) dX8_close_48 (fun H locs hW hS => ?_)
          refine lv_aload_n hx hb dX8_close_51 rfl (lv_at hl 0 rfl) ?_
          refine mm_gets (v := 3) hx hb hts hin hown hK hW 0 (by decide) (List.mem_of_getElem? (i := 2) rfl) rfl rfl (mq_same q 0 0 3) dX8_close_52 ?_
          refine lv_if_ne (tgt := 78) hx hb dX8_close_55 (by decide) (fun _ => ?_) (fun h => absurd h (by decide))
          exact mm_vret hx hb hr hlk hK hW hS (by rw [m_X8_close, if_pos c_1, if_neg c_2, if_pos c_4, if_pos c_5]) dX8_close_78
    · refine lv_iconst (v := 2) hx hb dX8_close_21 (by decide) ?_
      refine lv_goto (tgt := 48) hx hb dX8_close_22 (by decide) ?_
      refine mm_put hx hb hts hin hown hK hW hS 0 (by decide) (List.mem_of_getElem? (i := 2) rfl) rfl rfl (by decide +kernel) rfl (ws_0 ad _ _) dX8_close_48 (fun H locs hW hS => ?_)
      refine lv_aload_n hx hb dX8_close_51 rfl (lv_at hl 0 rfl) ?_
      refine mm_gets (v := 2) hx hb hts hin hown hK hW 0 (by decide) (List.mem_of_getElem? (i := 2) rfl) rfl rfl (mq_same q 0 0 2) dX8_close_52 ?_
      refine lv_if_ne (tgt := 78) hx hb dX8_close_55 (by decide) (fun _ => ?_) (fun h => absurd h (by decide))
      exact mm_vret hx hb hr hlk hK hW hS (by rw [m_X8_close, if_pos c_1, if_pos c_2]) dX8_close_78
  · refine lv_iconst (v := 1) hx hb dX8_close_9 (by decide) ?_
    refine lv_goto (tgt := 48) hx hb dX8_close_10 (by decide) ?_
    refine mm_put hx hb hts hin hown hK hW hS 0 (by decide) (List.mem_of_getElem? (i := 2) rfl) rfl rfl (by decide +kernel) rfl (ws_0 ad _ _) dX8_close_48 (fun H locs hW hS => ?_)
    refine lv_aload_n hx hb dX8_close_51 rfl (lv_at hl 0 rfl) ?_
    refine mm_gets (v := 1) hx hb hts hin hown hK hW 0 (by decide) (List.mem_of_getElem? (i := 2) rfl) rfl rfl (mq_same q 0 0 1) dX8_close_52 ?_
    refine lv_if_ne (tgt := 78) hx hb dX8_close_55 (by decide) (fun _ => ?_) (fun h => absurd h (by decide))
    exact mm_vret hx hb hr hlk hK hW hS (by rw [m_X8_close, if_neg c_1]) dX8_close_78
